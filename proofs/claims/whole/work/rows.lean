section
-- ===== PART A: goes FIRST, ahead of the names: the tables' words, and 'selects' of the private methods out of them =====
/-- a private method of a class that the tables say can be made, by its rows of tables_1 -/
def lw_okq (q : MethodName × Nat) : Prop := (q.1.cls ≠ "java/lang/invoke/MethodHandle" ∧ q.1.cls ≠ "java/lang/invoke/VarHandle") ∧ Cond.instantiable q.1.cls q.2 ∈ tables_1 ∧ Cond.privateMethod q.1 ∈ tables_1 ∧ Cond.instanceMethod q.1 ∈ tables_1
theorem lw_p0 : lw_okq (⟨"CuckooShop$Clock", "advance", "()I"⟩, 14) := ⟨⟨by decide +kernel, by decide +kernel⟩, List.mem_of_getElem? (i := 22) (by decide +kernel), List.mem_of_getElem? (i := 91) (by decide +kernel), List.mem_of_getElem? (i := 92) (by decide +kernel)⟩
theorem lw_p1 : lw_okq (⟨"CuckooShop$Clock", "advanceWith", "(II)I"⟩, 14) := ⟨⟨by decide +kernel, by decide +kernel⟩, List.mem_of_getElem? (i := 22) (by decide +kernel), List.mem_of_getElem? (i := 95) (by decide +kernel), List.mem_of_getElem? (i := 96) (by decide +kernel)⟩
theorem lw_p2 : lw_okq (⟨"CuckooShop", "tally", "(I)I"⟩, 4) := ⟨⟨by decide +kernel, by decide +kernel⟩, List.mem_of_getElem? (i := 13) (by decide +kernel), List.mem_of_getElem? (i := 105) (by decide +kernel), List.mem_of_getElem? (i := 106) (by decide +kernel)⟩
theorem lw_p3 : lw_okq (⟨"CuckooShop", "sumOf", "([LCuckooShop$Clock;I)I"⟩, 4) := ⟨⟨by decide +kernel, by decide +kernel⟩, List.mem_of_getElem? (i := 13) (by decide +kernel), List.mem_of_getElem? (i := 115) (by decide +kernel), List.mem_of_getElem? (i := 116) (by decide +kernel)⟩
theorem lw_p4 : lw_okq (⟨"CuckooShop$Clock", "reading", "(I)I"⟩, 14) := ⟨⟨by decide +kernel, by decide +kernel⟩, List.mem_of_getElem? (i := 22) (by decide +kernel), List.mem_of_getElem? (i := 119) (by decide +kernel), List.mem_of_getElem? (i := 120) (by decide +kernel)⟩
theorem lw_p5 : lw_okq (⟨"CuckooShop$Clock", "isShutAt", "(I)Z"⟩, 14) := ⟨⟨by decide +kernel, by decide +kernel⟩, List.mem_of_getElem? (i := 22) (by decide +kernel), List.mem_of_getElem? (i := 124) (by decide +kernel), List.mem_of_getElem? (i := 125) (by decide +kernel)⟩
theorem lw_p6 : lw_okq (⟨"CuckooShop", "trueClocks", "()I"⟩, 4) := ⟨⟨by decide +kernel, by decide +kernel⟩, List.mem_of_getElem? (i := 13) (by decide +kernel), List.mem_of_getElem? (i := 128) (by decide +kernel), List.mem_of_getElem? (i := 129) (by decide +kernel)⟩
theorem lw_p7 : lw_okq (⟨"CuckooShop", "offOfAll", "([LCuckooShop$Clock;I)I"⟩, 4) := ⟨⟨by decide +kernel, by decide +kernel⟩, List.mem_of_getElem? (i := 13) (by decide +kernel), List.mem_of_getElem? (i := 135) (by decide +kernel), List.mem_of_getElem? (i := 136) (by decide +kernel)⟩
theorem lw_p8 : lw_okq (⟨"CuckooShop$Clock", "mixInto", "(J)J"⟩, 14) := ⟨⟨by decide +kernel, by decide +kernel⟩, List.mem_of_getElem? (i := 22) (by decide +kernel), List.mem_of_getElem? (i := 142) (by decide +kernel), List.mem_of_getElem? (i := 143) (by decide +kernel)⟩
theorem lw_p9 : lw_okq (⟨"java/lang/Throwable", "fillInStackTrace", "(I)Ljava/lang/Throwable;"⟩, 6) := ⟨⟨by decide +kernel, by decide +kernel⟩, List.mem_of_getElem? (i := 201) (by decide +kernel), List.mem_of_getElem? (i := 199) (by decide +kernel), List.mem_of_getElem? (i := 200) (by decide +kernel)⟩
theorem lw_p10 : lw_okq (⟨"CuckooShop$Clock", "putHands", "(I)V"⟩, 14) := ⟨⟨by decide +kernel, by decide +kernel⟩, List.mem_of_getElem? (i := 22) (by decide +kernel), List.mem_of_getElem? (i := 247) (by decide +kernel), List.mem_of_getElem? (i := 248) (by decide +kernel)⟩
theorem lw_p11 : lw_okq (⟨"CuckooShop", "checkClock", "(I)V"⟩, 4) := ⟨⟨by decide +kernel, by decide +kernel⟩, List.mem_of_getElem? (i := 13) (by decide +kernel), List.mem_of_getElem? (i := 259) (by decide +kernel), List.mem_of_getElem? (i := 260) (by decide +kernel)⟩
theorem lw_p12 : lw_okq (⟨"CuckooShop$Clock", "fitTrain", "(III)V"⟩, 14) := ⟨⟨by decide +kernel, by decide +kernel⟩, List.mem_of_getElem? (i := 22) (by decide +kernel), List.mem_of_getElem? (i := 281) (by decide +kernel), List.mem_of_getElem? (i := 282) (by decide +kernel)⟩
theorem lw_p13 : lw_okq (⟨"CuckooShop$Clock", "drawUp", "()I"⟩, 14) := ⟨⟨by decide +kernel, by decide +kernel⟩, List.mem_of_getElem? (i := 22) (by decide +kernel), List.mem_of_getElem? (i := 299) (by decide +kernel), List.mem_of_getElem? (i := 300) (by decide +kernel)⟩
theorem lw_p14 : lw_okq (⟨"CuckooShop$Clock", "fillOil", "()I"⟩, 14) := ⟨⟨by decide +kernel, by decide +kernel⟩, List.mem_of_getElem? (i := 22) (by decide +kernel), List.mem_of_getElem? (i := 310) (by decide +kernel), List.mem_of_getElem? (i := 311) (by decide +kernel)⟩
theorem lw_p15 : lw_okq (⟨"CuckooShop$Clock", "patchBellows", "()I"⟩, 14) := ⟨⟨by decide +kernel, by decide +kernel⟩, List.mem_of_getElem? (i := 22) (by decide +kernel), List.mem_of_getElem? (i := 314) (by decide +kernel), List.mem_of_getElem? (i := 315) (by decide +kernel)⟩
def lw_privs_1 : List (MethodName × Nat) := [(⟨"CuckooShop$Clock", "advance", "()I"⟩, 14), (⟨"CuckooShop$Clock", "advanceWith", "(II)I"⟩, 14), (⟨"CuckooShop", "tally", "(I)I"⟩, 4), (⟨"CuckooShop", "sumOf", "([LCuckooShop$Clock;I)I"⟩, 4), (⟨"CuckooShop$Clock", "reading", "(I)I"⟩, 14), (⟨"CuckooShop$Clock", "isShutAt", "(I)Z"⟩, 14), (⟨"CuckooShop", "trueClocks", "()I"⟩, 4), (⟨"CuckooShop", "offOfAll", "([LCuckooShop$Clock;I)I"⟩, 4), (⟨"CuckooShop$Clock", "mixInto", "(J)J"⟩, 14), (⟨"java/lang/Throwable", "fillInStackTrace", "(I)Ljava/lang/Throwable;"⟩, 6), (⟨"CuckooShop$Clock", "putHands", "(I)V"⟩, 14), (⟨"CuckooShop", "checkClock", "(I)V"⟩, 4), (⟨"CuckooShop$Clock", "fitTrain", "(III)V"⟩, 14), (⟨"CuckooShop$Clock", "drawUp", "()I"⟩, 14), (⟨"CuckooShop$Clock", "fillOil", "()I"⟩, 14), (⟨"CuckooShop$Clock", "patchBellows", "()I"⟩, 14)]
theorem lw_r1 : ∀ q ∈ lw_privs_1, lw_okq q := List.forall_mem_cons.mpr ⟨lw_p0, List.forall_mem_cons.mpr ⟨lw_p1, List.forall_mem_cons.mpr ⟨lw_p2, List.forall_mem_cons.mpr ⟨lw_p3, List.forall_mem_cons.mpr ⟨lw_p4, List.forall_mem_cons.mpr ⟨lw_p5, List.forall_mem_cons.mpr ⟨lw_p6, List.forall_mem_cons.mpr ⟨lw_p7, List.forall_mem_cons.mpr ⟨lw_p8, List.forall_mem_cons.mpr ⟨lw_p9, List.forall_mem_cons.mpr ⟨lw_p10, List.forall_mem_cons.mpr ⟨lw_p11, List.forall_mem_cons.mpr ⟨lw_p12, List.forall_mem_cons.mpr ⟨lw_p13, List.forall_mem_cons.mpr ⟨lw_p14, List.forall_mem_cons.mpr ⟨lw_p15, fun _ h => absurd h List.not_mem_nil⟩⟩⟩⟩⟩⟩⟩⟩⟩⟩⟩⟩⟩⟩⟩⟩
theorem lw_p16 : lw_okq (⟨"CuckooShop$Clock", "nudge", "()I"⟩, 14) := ⟨⟨by decide +kernel, by decide +kernel⟩, List.mem_of_getElem? (i := 22) (by decide +kernel), List.mem_of_getElem? (i := 318) (by decide +kernel), List.mem_of_getElem? (i := 319) (by decide +kernel)⟩
theorem lw_p17 : lw_okq (⟨"CuckooShop$Clock", "silence", "(II)I"⟩, 14) := ⟨⟨by decide +kernel, by decide +kernel⟩, List.mem_of_getElem? (i := 22) (by decide +kernel), List.mem_of_getElem? (i := 331) (by decide +kernel), List.mem_of_getElem? (i := 332) (by decide +kernel)⟩
theorem lw_p18 : lw_okq (⟨"CuckooShop", "runRow", "([LCuckooShop$Clock;I)I"⟩, 4) := ⟨⟨by decide +kernel, by decide +kernel⟩, List.mem_of_getElem? (i := 13) (by decide +kernel), List.mem_of_getElem? (i := 369) (by decide +kernel), List.mem_of_getElem? (i := 370) (by decide +kernel)⟩
theorem lw_p19 : lw_okq (⟨"CuckooShop$Clock", "runMinute", "(I)V"⟩, 14) := ⟨⟨by decide +kernel, by decide +kernel⟩, List.mem_of_getElem? (i := 22) (by decide +kernel), List.mem_of_getElem? (i := 373) (by decide +kernel), List.mem_of_getElem? (i := 374) (by decide +kernel)⟩
theorem lw_p20 : lw_okq (⟨"CuckooShop$Clock", "turn", "()V"⟩, 14) := ⟨⟨by decide +kernel, by decide +kernel⟩, List.mem_of_getElem? (i := 22) (by decide +kernel), List.mem_of_getElem? (i := 377) (by decide +kernel), List.mem_of_getElem? (i := 378) (by decide +kernel)⟩
theorem lw_p21 : lw_okq (⟨"CuckooShop$Clock", "cuckoo", "(I)V"⟩, 14) := ⟨⟨by decide +kernel, by decide +kernel⟩, List.mem_of_getElem? (i := 22) (by decide +kernel), List.mem_of_getElem? (i := 384) (by decide +kernel), List.mem_of_getElem? (i := 385) (by decide +kernel)⟩
theorem lw_p22 : lw_okq (⟨"CuckooShop$Clock", "wear", "(I)V"⟩, 14) := ⟨⟨by decide +kernel, by decide +kernel⟩, List.mem_of_getElem? (i := 22) (by decide +kernel), List.mem_of_getElem? (i := 391) (by decide +kernel), List.mem_of_getElem? (i := 392) (by decide +kernel)⟩
theorem lw_p23 : lw_okq (⟨"CuckooShop$Clock", "copyFrom", "(LCuckooShop$Clock;)V"⟩, 14) := ⟨⟨by decide +kernel, by decide +kernel⟩, List.mem_of_getElem? (i := 22) (by decide +kernel), List.mem_of_getElem? (i := 402) (by decide +kernel), List.mem_of_getElem? (i := 403) (by decide +kernel)⟩
theorem lw_p24 : lw_okq (⟨"CuckooShop$Clock", "minutesToStand", "()I"⟩, 14) := ⟨⟨by decide +kernel, by decide +kernel⟩, List.mem_of_getElem? (i := 22) (by decide +kernel), List.mem_of_getElem? (i := 413) (by decide +kernel), List.mem_of_getElem? (i := 414) (by decide +kernel)⟩
theorem lw_p25 : lw_okq (⟨"CuckooShop", "copyClocks", "()V"⟩, 4) := ⟨⟨by decide +kernel, by decide +kernel⟩, List.mem_of_getElem? (i := 13) (by decide +kernel), List.mem_of_getElem? (i := 424) (by decide +kernel), List.mem_of_getElem? (i := 425) (by decide +kernel)⟩
theorem lw_p26 : lw_okq (⟨"CuckooShop$Clock", "truestGears", "()I"⟩, 14) := ⟨⟨by decide +kernel, by decide +kernel⟩, List.mem_of_getElem? (i := 22) (by decide +kernel), List.mem_of_getElem? (i := 443) (by decide +kernel), List.mem_of_getElem? (i := 444) (by decide +kernel)⟩
theorem lw_p27 : lw_okq (⟨"CuckooShopModel", "fail", "(I)I"⟩, 4) := ⟨⟨by decide +kernel, by decide +kernel⟩, List.mem_of_getElem? (i := 449) (by decide +kernel), List.mem_of_getElem? (i := 480) (by decide +kernel), List.mem_of_getElem? (i := 481) (by decide +kernel)⟩
theorem lw_p28 : lw_okq (⟨"CuckooShopModel", "isClock", "(I)Z"⟩, 4) := ⟨⟨by decide +kernel, by decide +kernel⟩, List.mem_of_getElem? (i := 449) (by decide +kernel), List.mem_of_getElem? (i := 491) (by decide +kernel), List.mem_of_getElem? (i := 492) (by decide +kernel)⟩
theorem lw_p29 : lw_okq (⟨"CuckooShopModel", "put", "(III)V"⟩, 4) := ⟨⟨by decide +kernel, by decide +kernel⟩, List.mem_of_getElem? (i := 449) (by decide +kernel), List.mem_of_getElem? (i := 495) (by decide +kernel), List.mem_of_getElem? (i := 496) (by decide +kernel)⟩
theorem lw_p30 : lw_okq (⟨"CuckooShopModel", "advance", "(I)I"⟩, 4) := ⟨⟨by decide +kernel, by decide +kernel⟩, List.mem_of_getElem? (i := 449) (by decide +kernel), List.mem_of_getElem? (i := 499) (by decide +kernel), List.mem_of_getElem? (i := 500) (by decide +kernel)⟩
theorem lw_p31 : lw_okq (⟨"CuckooShopModel", "sh", "(II)I"⟩, 4) := ⟨⟨by decide +kernel, by decide +kernel⟩, List.mem_of_getElem? (i := 449) (by decide +kernel), List.mem_of_getElem? (i := 503) (by decide +kernel), List.mem_of_getElem? (i := 504) (by decide +kernel)⟩
def lw_privs_2 : List (MethodName × Nat) := [(⟨"CuckooShop$Clock", "nudge", "()I"⟩, 14), (⟨"CuckooShop$Clock", "silence", "(II)I"⟩, 14), (⟨"CuckooShop", "runRow", "([LCuckooShop$Clock;I)I"⟩, 4), (⟨"CuckooShop$Clock", "runMinute", "(I)V"⟩, 14), (⟨"CuckooShop$Clock", "turn", "()V"⟩, 14), (⟨"CuckooShop$Clock", "cuckoo", "(I)V"⟩, 14), (⟨"CuckooShop$Clock", "wear", "(I)V"⟩, 14), (⟨"CuckooShop$Clock", "copyFrom", "(LCuckooShop$Clock;)V"⟩, 14), (⟨"CuckooShop$Clock", "minutesToStand", "()I"⟩, 14), (⟨"CuckooShop", "copyClocks", "()V"⟩, 4), (⟨"CuckooShop$Clock", "truestGears", "()I"⟩, 14), (⟨"CuckooShopModel", "fail", "(I)I"⟩, 4), (⟨"CuckooShopModel", "isClock", "(I)Z"⟩, 4), (⟨"CuckooShopModel", "put", "(III)V"⟩, 4), (⟨"CuckooShopModel", "advance", "(I)I"⟩, 4), (⟨"CuckooShopModel", "sh", "(II)I"⟩, 4)]
theorem lw_r2 : ∀ q ∈ lw_privs_2, lw_okq q := List.forall_mem_cons.mpr ⟨lw_p16, List.forall_mem_cons.mpr ⟨lw_p17, List.forall_mem_cons.mpr ⟨lw_p18, List.forall_mem_cons.mpr ⟨lw_p19, List.forall_mem_cons.mpr ⟨lw_p20, List.forall_mem_cons.mpr ⟨lw_p21, List.forall_mem_cons.mpr ⟨lw_p22, List.forall_mem_cons.mpr ⟨lw_p23, List.forall_mem_cons.mpr ⟨lw_p24, List.forall_mem_cons.mpr ⟨lw_p25, List.forall_mem_cons.mpr ⟨lw_p26, List.forall_mem_cons.mpr ⟨lw_p27, List.forall_mem_cons.mpr ⟨lw_p28, List.forall_mem_cons.mpr ⟨lw_p29, List.forall_mem_cons.mpr ⟨lw_p30, List.forall_mem_cons.mpr ⟨lw_p31, fun _ h => absurd h List.not_mem_nil⟩⟩⟩⟩⟩⟩⟩⟩⟩⟩⟩⟩⟩⟩⟩⟩
theorem lw_p32 : lw_okq (⟨"CuckooShopModel", "advance", "(III)I"⟩, 4) := ⟨⟨by decide +kernel, by decide +kernel⟩, List.mem_of_getElem? (i := 449) (by decide +kernel), List.mem_of_getElem? (i := 507) (by decide +kernel), List.mem_of_getElem? (i := 508) (by decide +kernel)⟩
theorem lw_p33 : lw_okq (⟨"CuckooShopModel", "offBy", "(I)I"⟩, 4) := ⟨⟨by decide +kernel, by decide +kernel⟩, List.mem_of_getElem? (i := 449) (by decide +kernel), List.mem_of_getElem? (i := 515) (by decide +kernel), List.mem_of_getElem? (i := 516) (by decide +kernel)⟩
theorem lw_p34 : lw_okq (⟨"CuckooShopModel", "clockTold", "(II)I"⟩, 4) := ⟨⟨by decide +kernel, by decide +kernel⟩, List.mem_of_getElem? (i := 449) (by decide +kernel), List.mem_of_getElem? (i := 535) (by decide +kernel), List.mem_of_getElem? (i := 536) (by decide +kernel)⟩
theorem lw_p35 : lw_okq (⟨"CuckooShopModel", "isShut", "(I)Z"⟩, 4) := ⟨⟨by decide +kernel, by decide +kernel⟩, List.mem_of_getElem? (i := 449) (by decide +kernel), List.mem_of_getElem? (i := 539) (by decide +kernel), List.mem_of_getElem? (i := 540) (by decide +kernel)⟩
theorem lw_p36 : lw_okq (⟨"CuckooShopModel", "counted", "(I)I"⟩, 4) := ⟨⟨by decide +kernel, by decide +kernel⟩, List.mem_of_getElem? (i := 449) (by decide +kernel), List.mem_of_getElem? (i := 551) (by decide +kernel), List.mem_of_getElem? (i := 552) (by decide +kernel)⟩
theorem lw_p37 : lw_okq (⟨"CuckooShopModel", "all", "(I)I"⟩, 4) := ⟨⟨by decide +kernel, by decide +kernel⟩, List.mem_of_getElem? (i := 449) (by decide +kernel), List.mem_of_getElem? (i := 555) (by decide +kernel), List.mem_of_getElem? (i := 556) (by decide +kernel)⟩
theorem lw_p38 : lw_okq (⟨"CuckooShopModel", "minutesOn", "(I)V"⟩, 4) := ⟨⟨by decide +kernel, by decide +kernel⟩, List.mem_of_getElem? (i := 449) (by decide +kernel), List.mem_of_getElem? (i := 564) (by decide +kernel), List.mem_of_getElem? (i := 565) (by decide +kernel)⟩
theorem lw_p39 : lw_okq (⟨"CuckooShopModel", "minuteOn", "()V"⟩, 4) := ⟨⟨by decide +kernel, by decide +kernel⟩, List.mem_of_getElem? (i := 449) (by decide +kernel), List.mem_of_getElem? (i := 568) (by decide +kernel), List.mem_of_getElem? (i := 569) (by decide +kernel)⟩
theorem lw_p40 : lw_okq (⟨"CuckooShopModel", "add", "(III)V"⟩, 4) := ⟨⟨by decide +kernel, by decide +kernel⟩, List.mem_of_getElem? (i := 449) (by decide +kernel), List.mem_of_getElem? (i := 572) (by decide +kernel), List.mem_of_getElem? (i := 573) (by decide +kernel)⟩
theorem lw_p41 : lw_okq (⟨"CuckooShopModel", "call", "(I)V"⟩, 4) := ⟨⟨by decide +kernel, by decide +kernel⟩, List.mem_of_getElem? (i := 449) (by decide +kernel), List.mem_of_getElem? (i := 576) (by decide +kernel), List.mem_of_getElem? (i := 577) (by decide +kernel)⟩
theorem lw_p42 : lw_okq (⟨"CuckooShopModel", "kept", "()[[I"⟩, 4) := ⟨⟨by decide +kernel, by decide +kernel⟩, List.mem_of_getElem? (i := 449) (by decide +kernel), List.mem_of_getElem? (i := 588) (by decide +kernel), List.mem_of_getElem? (i := 589) (by decide +kernel)⟩
theorem lw_p43 : lw_okq (⟨"CuckooShopModel", "bringBack", "([[I)V"⟩, 4) := ⟨⟨by decide +kernel, by decide +kernel⟩, List.mem_of_getElem? (i := 449) (by decide +kernel), List.mem_of_getElem? (i := 600) (by decide +kernel), List.mem_of_getElem? (i := 601) (by decide +kernel)⟩
def lw_privs_3 : List (MethodName × Nat) := [(⟨"CuckooShopModel", "advance", "(III)I"⟩, 4), (⟨"CuckooShopModel", "offBy", "(I)I"⟩, 4), (⟨"CuckooShopModel", "clockTold", "(II)I"⟩, 4), (⟨"CuckooShopModel", "isShut", "(I)Z"⟩, 4), (⟨"CuckooShopModel", "counted", "(I)I"⟩, 4), (⟨"CuckooShopModel", "all", "(I)I"⟩, 4), (⟨"CuckooShopModel", "minutesOn", "(I)V"⟩, 4), (⟨"CuckooShopModel", "minuteOn", "()V"⟩, 4), (⟨"CuckooShopModel", "add", "(III)V"⟩, 4), (⟨"CuckooShopModel", "call", "(I)V"⟩, 4), (⟨"CuckooShopModel", "kept", "()[[I"⟩, 4), (⟨"CuckooShopModel", "bringBack", "([[I)V"⟩, 4)]
theorem lw_r3 : ∀ q ∈ lw_privs_3, lw_okq q := List.forall_mem_cons.mpr ⟨lw_p32, List.forall_mem_cons.mpr ⟨lw_p33, List.forall_mem_cons.mpr ⟨lw_p34, List.forall_mem_cons.mpr ⟨lw_p35, List.forall_mem_cons.mpr ⟨lw_p36, List.forall_mem_cons.mpr ⟨lw_p37, List.forall_mem_cons.mpr ⟨lw_p38, List.forall_mem_cons.mpr ⟨lw_p39, List.forall_mem_cons.mpr ⟨lw_p40, List.forall_mem_cons.mpr ⟨lw_p41, List.forall_mem_cons.mpr ⟨lw_p42, List.forall_mem_cons.mpr ⟨lw_p43, fun _ h => absurd h List.not_mem_nil⟩⟩⟩⟩⟩⟩⟩⟩⟩⟩⟩⟩
def lw_privs : List (MethodName × Nat) := lw_privs_1 ++ (lw_privs_2 ++ (lw_privs_3))
def lw_tbl : List Cond := k2_sels lw_privs ++ tables_1
theorem lw_privs_ok : ∀ q ∈ lw_privs, lw_okq q := by
  show ∀ q ∈ lw_privs_1 ++ (lw_privs_2 ++ (lw_privs_3)), lw_okq q
  exact List.forall_mem_append.mpr ⟨lw_r1, List.forall_mem_append.mpr ⟨lw_r2, lw_r3⟩⟩
/-- the streams that the claim lets the run draw from -/
abbrev lw_cs : List Choice := [Jvm.Choice.named "NaN.bits"]
theorem lw_bits : nanBits ∈ lw_cs := by first | decide | exact List.mem_cons_self | simp [lw_cs, nanBits]
end
section
/-! ===== BEGIN words of one list among another's, by their places ===== -/
theorem goodIn_r {big : List Cond} (ws : List Cond) (ps : List Nat) (hp : ws = ps.filterMap (fun i => big[i]?)) (h : ws.all goodWord = true) : GoodIn big ws := by
  intro w hw
  have h1 := List.all_eq_true.mp h w hw
  rw [hp] at hw
  obtain ⟨i, -, hi⟩ := List.mem_filterMap.mp hw
  have hm : w ∈ big := by first | exact List.mem_of_getElem? hi | exact List.getElem?_mem hi
  exact ⟨hm, good_of_word h1⟩
theorem goodIn_app {big a b : List Cond} (ha : GoodIn big a) (hb : GoodIn big b) : GoodIn big (a ++ b) := fun w h => (List.mem_append.mp h).elim (ha w) (hb w)
theorem goodIn_ca {big a b : List Cond} {c : Cond} (ha : GoodIn big (c :: a)) (hb : GoodIn big b) : GoodIn big (c :: (a ++ b)) := fun w h => (List.mem_cons.mp h).elim (fun e => ha w (List.mem_cons.mpr (Or.inl e))) (fun h => (List.mem_append.mp h).elim (fun h => ha w (List.mem_cons.mpr (Or.inr h))) (hb w))
theorem goodIn_sub {big ws : List Cond} (hm : ∀ w ∈ ws, w ∈ big) (h : ws.all goodWord = true) : GoodIn big ws := fun w hw => ⟨hm w hw, good_of_word (List.all_eq_true.mp h w hw)⟩
/-! ===== END ===== -/

/-! ===== BEGIN exceptions that leave a method, and their catching by the caller (launches without stack traces) ===== -/
section VXA
/-! The laws vx_back, vx_callV, vx_callS, vx_callSW, vx_throw0, vx_throwS follow proofs of the library, with one case more: JvmDerived/Free/Laws.lean (Back.of_free), Shelf42/LK1.lean (callV, callS), Shelf/KitTraced.lean (throwNew0V, throwNewS). -/
/-- where a method has thrown q: the class by its name, the cell, what was written, the world -/
def vx_T (XC : String → State → State → Prop) (st : State) (q : Addr) (t : State) (mc ms : Nat) (free : Addr → Prop) : Prop :=
  ∃ (E : String) (ce : Cell) (L : List Loc), XC E st t ∧ t.heap[q]? = some ce ∧ ce.vm = .none ∧ st.vm.findClass E = some ce.cls ∧ st.WarmedH t.vm ∧ st.sameButNew ({ t with vm := st.vm } : State) L mc ms ∧ ∀ z ∈ L, free z.base
def vx_Q (Qc : Array Value → State → Outcome → State → Prop) (XC : String → State → State → Prop) (mc ms : Nat) (free : Addr → Prop) : Array Value → State → Outcome → State → Prop := fun a st o t =>
  (Qc a st o t ∧ ∃ L, FrameEnd st o t L mc ms ∧ ∀ q ∈ L, free q.base) ∨ ∃ q, o = .threw q ∧ vx_T XC st q t mc ms free
/-- a callee that returns or throws -/
def vx_Met (l : Launch) (y : MethodName) (ws : List Cond) (rm : Room) (Pc : Array Value → State → Prop) (Qc : Array Value → State → Outcome → State → Prop) (XC : String → State → State → Prop) (mc ms : Nat) (free : Addr → Prop) : Prop :=
  MetFree l y (headSpec ws rm) Pc (fun _ _ _ _ _ => True) (vx_Q Qc XC mc ms free)
def vx_Post (XC : String → State → State → Prop) (mc ms : Nat) (free : Addr → Prop) : Pt → Array Value → Addr → Pt → Prop := fun A a q B =>
  ∃ (g : JFrame) (mk : MethodId) (t : State) (L : List Loc) (E : String) (ce : Cell), B.U.heap = t.heap ∧ B.U.vm = t.vm ∧ XC E (A.U.calling g mk a) t ∧ t.heap[q]? = some ce ∧ ce.vm = .none ∧ A.U.vm.findClass E = some ce.cls ∧ B.locs = A.locs ++ L ∧ (∀ z ∈ L, free z.base) ∧ B.cells = A.cells + mc ∧ B.slots = A.slots + ms
def vx_Back (l : Launch) (R : Room) (p : Program) (e : Env) (below : List Frame) (s : State) (sargs : Array Value) (y : MethodName) (len W9 : Nat)
    (Pre : Pt → Array Value → Prop) (Post : Pt → Array Value → Option Value → Pt → Prop) (PostX : Pt → Array Value → Addr → Pt → Prop) : Prop :=
  ∀ (m : MethodId) (meth : Method) (c : Code) (A : Pt) (g : JFrame) (ig : Instr) (mk : MethodId) (a : Array Value),
    Stand p l e R s m sargs below meth c A.U A.locs A.cells A.slots → g.method = m → g.locals.size = c.maxLocals → decode c.code g.pc = .ok (ig, len) →
    2 * g.monitorRoom + (g.stack.map fun v => v.category).sum ≤ W9 → A.U.methodNamed? y = some mk → Pre A a →
    (∃ (v : Option Value) (B : Pt), Stand p l e R s m sargs below meth c B.U B.locs B.cells B.slots ∧ Post A a v B ∧
      Steps p.tables e below (doInvoke e (A.U.setTop g) [] mk a).1 (B.U.setTop { g with pc := g.pc + len, stack := v.toList ++ g.stack })) ∨
    (∃ (q : Addr) (B : Pt), Stand p l e R s m sargs below meth c B.U B.locs B.cells B.slots ∧ PostX A a q B ∧
      Steps p.tables e below (doInvoke e (A.U.setTop g) [] mk a).1 ((B.U.setTop g).pushFrame (.throwing q)))
section Payer
variable {l : Launch} {R : Room} {p : Program} {e : Env} {below : List Frame} {s : State} {sargs : Array Value} {y : MethodName} {len W9 : Nat}
theorem vx_back {ws : List Cond} {rm : Room} {Pc : Array Value → State → Prop} {Qc : Array Value → State → Outcome → State → Prop} {XC : String → State → State → Prop} {mc ms : Nat} {free : Addr → Prop} {bytes : ByteArray} {maxL : Nat} {ret : Option FieldType}
    (hM : vx_Met l y ws rm Pc Qc XC mc ms free) (hblind : FrameBlind Pc) (hrc : rm.cells = mc) (hrs : rm.slots = ms)
    (hframes : rm.frames + 1 ≤ R.frames) (hlocals : W9 + (maxL + 11) + rm.locals ≤ R.locals)
    (hws : ∀ w ∈ ws, ∀ a' U, s.WarmedH U.vm → w.before a' U = true) (hcode : Cond.code y bytes maxL ret ∈ ws) (hinit : ∀ a' U, s.WarmedH U.vm → (Cond.initialized y.cls).before a' U = true) :
    vx_Back l R p e below s sargs y len W9 (PreOf R mc ms Pc) (PostOf Qc mc ms free) (vx_Post XC mc ms free) := by
  intro m meth c A g ig mk a X hg hsize hdg hW hn hp
  have h1 : (headSpec ws rm).pre.before a A.U = true := atoms_intro fun w hw => hws w hw _ _ X.warmed
  have h2 : (Cond.code y bytes maxL ret).before a A.U = true := hws _ hcode _ _ X.warmed
  have h3 : (Cond.initialized y.cls).before a A.U = true := hinit _ _ X.warmed
  have h4 : A.cells + (headSpec ws rm).room.cells ≤ R.cells := by rw [show (headSpec ws rm).room.cells = mc from hrc]; exact hp.1
  have h5 : A.slots + (headSpec ws rm).room.slots ≤ R.slots := by rw [show (headSpec ws rm).room.slots = ms from hrs]; exact hp.2.1
  have hPc : Pc a (A.U.calling g mk a) := hblind _ _ _ _ hp.2.2
  obtain ⟨U, Ls, c0, s0⟩ := A
  dsimp only [Pt.U, Pt.locs, Pt.cells, Pt.slots] at h1 h2 h3 h4 h5 X hn hPc ⊢
  obtain ⟨methY, cY, hmY, hcY, -, hlY, -, -, -, -⟩ := Cond.code_spec hn h2
  obtain ⟨kY, hkY, -⟩ := className_of_methodNamed hn
  have hinitY : kY.init = .initialized := Cond.initialized_spec (findClass_of_methodNamed hn) hkY h3
  have h : At U g.method c below := by rw [hg]; exact X.here
  have hlocals9 : W9 + (maxL + 11) + (headSpec ws rm).room.locals ≤ R.locals := hlocals
  have happ : (headSpec ws rm).appliesLoose y e.platform (U.calling g mk a) = true :=
    Spec.appliesLoose_calling (g := g) h hdg hn hkY hinitY
      (X.room_calling (g := g) (R' := (headSpec ws rm).room) hsize hmY hcY hframes (by rw [hlY]; omega) h4 h5) h1
  obtain ⟨mid, hmid⟩ := h.above
  have hfr : (U.setTop g).frames = (.java g :: mid) ++ below := by rw [State.frames_setTop' g h.top, hmid]; rfl
  obtain ⟨o, s₂, hsteps, -, hend, hq⟩ := Steps.callFree hM p X.admits X.cas X.clock (acts := []) hfr happ hPc trivial
  have hq' : vx_Q Qc XC mc ms free a (U.calling g mk a) o s₂ := hq
  rw [State.frames_setTop' g h.top] at hend
  obtain ⟨g₀, hg0⟩ := Option.isSome_iff_exists.mp h.top
  obtain ⟨r, hr⟩ := State.topJava?_eq_some.mp hg0
  have hr' : (({ U with heap := s₂.heap, slotsUsed := s₂.slotsUsed } : State).setVm s₂.vm).frames = .java g₀ :: r := hr
  rcases hq' with ⟨hqc, L, hfe, hL⟩ | ⟨q, rfl, E, ce, L, hx, hce, hcv, hcl, hW₂, hsm, hL⟩
  · obtain ⟨⟨v, rfl⟩, hW₂, e2, q2, q3, q4, q5, q6⟩ := id hfe
    have e3 : s₂ = ({ (U.calling g mk a).setFrames s₂.frames with heap := s₂.heap, slotsUsed := s₂.slotsUsed } : State).setVm s₂.vm := by
      have : s₂ = ({ s₂ with vm := (U.calling g mk a).vm } : State).setVm s₂.vm := rfl
      rw [e2] at this
      exact this
    obtain ⟨c₂, i₂, len₂, hc₂, hd₂, hf₂⟩ := hend
    have hW' : U.WarmedH s₂.vm := hW₂
    have hcc : c₂ = c := by
      have h1 : s₂.code? g.method = U.code? g.method := by
        rw [State.code?_eq, State.code?_eq, hW'.alike.method?]
      exact Option.some.inj (hc₂.symm.trans (h1.trans h.code))
    subst hcc
    have hlen : len₂ = len := by rw [hdg] at hd₂; cases hd₂; rfl
    subst hlen
    have hs₂ : s₂ = (({ U with heap := s₂.heap, slotsUsed := s₂.slotsUsed } : State).setVm s₂.vm).setTop { g with pc := g.pc + len₂, stack := v.toList ++ g.stack } := by
      refine e3.trans ?_
      rw [hf₂, State.calling_eq h.top, State.setFrames_setFrames, State.setTop_of_frames _ hr', hr]
      rfl
    have hsame : U.sameButNew ({ U with heap := s₂.heap, slotsUsed := s₂.slotsUsed } : State) L mc ms := by
      refine ⟨?_, q2, q3, q4, q5, q6⟩
      obtain ⟨t, ht, -⟩ := State.frames_cons hr
      show ({ U with heap := s₂.heap, slotsUsed := s₂.slotsUsed } : State) = { U.setFrames U.frames with heap := s₂.heap, slotsUsed := s₂.slotsUsed }
      rw [State.setFrames_self ht]
    subst hg
    refine Or.inl ⟨v, ⟨(({ U with heap := s₂.heap, slotsUsed := s₂.slotsUsed } : State).setVm s₂.vm), Ls ++ L, c0 + mc, s0 + ms⟩,
      ⟨X.admits, X.cas, X.clock, X.frames, X.room, X.hears, X.method, X.code, (X.here.setHeapUsed s₂.heap s₂.slotsUsed).setVm hW'.alike, X.tail, State.WarmedH.trans X.warmed hW', X.limits, X.bytes, X.same.trans (hsame.setVm s.vm)⟩,
      ⟨g, mk, s₂, L, rfl, rfl, hqc, rfl, hL, rfl, rfl⟩, ?_⟩
    show Steps p.tables e below _ ((({ U with heap := s₂.heap, slotsUsed := s₂.slotsUsed } : State).setVm s₂.vm).setTop { g with pc := g.pc + len₂, stack := v.toList ++ g.stack })
    rw [← hs₂]
    exact hsteps
  · obtain ⟨e2, q2, q3, q4, q5, q6⟩ := id hsm
    have e3 : s₂ = ({ (U.calling g mk a).setFrames s₂.frames with heap := s₂.heap, slotsUsed := s₂.slotsUsed } : State).setVm s₂.vm := by
      have : s₂ = ({ s₂ with vm := (U.calling g mk a).vm } : State).setVm s₂.vm := rfl
      rw [e2] at this
      exact this
    have hf₂ : s₂.frames = .throwing q :: .java g :: U.frames.tail := hend
    have hW' : U.WarmedH s₂.vm := hW₂
    have hs₂ : s₂ = ((({ U with heap := s₂.heap, slotsUsed := s₂.slotsUsed } : State).setVm s₂.vm).setTop g).pushFrame (.throwing q) := by
      refine e3.trans ?_
      rw [hf₂, State.calling_eq h.top, State.setFrames_setFrames, State.pushFrame, State.frames_setTop _ hr', State.setTop_of_frames _ hr', State.setFrames_setFrames, hr]
      rfl
    have hsame : U.sameButNew ({ U with heap := s₂.heap, slotsUsed := s₂.slotsUsed } : State) L mc ms := by
      refine ⟨?_, q2, q3, q4, q5, q6⟩
      obtain ⟨t, ht, -⟩ := State.frames_cons hr
      show ({ U with heap := s₂.heap, slotsUsed := s₂.slotsUsed } : State) = { U.setFrames U.frames with heap := s₂.heap, slotsUsed := s₂.slotsUsed }
      rw [State.setFrames_self ht]
    subst hg
    refine Or.inr ⟨q, ⟨(({ U with heap := s₂.heap, slotsUsed := s₂.slotsUsed } : State).setVm s₂.vm), Ls ++ L, c0 + mc, s0 + ms⟩,
      ⟨X.admits, X.cas, X.clock, X.frames, X.room, X.hears, X.method, X.code, (X.here.setHeapUsed s₂.heap s₂.slotsUsed).setVm hW'.alike, X.tail, State.WarmedH.trans X.warmed hW', X.limits, X.bytes, X.same.trans (hsame.setVm s.vm)⟩,
      ⟨g, mk, s₂, L, E, ce, rfl, rfl, hx, hce, hcv, hcl, rfl, hL, rfl, rfl⟩, ?_⟩
    show Steps p.tables e below _ (((({ U with heap := s₂.heap, slotsUsed := s₂.slotsUsed } : State).setVm s₂.vm).setTop g).pushFrame (.throwing q))
    rw [← hs₂]
    exact hsteps
end Payer
section Calls
variable {p : Program} {l : Launch} {e : Env} {R : Room} {s : State} {m : MethodId} {args : Array Value} {below : List Frame} {meth : Method} {c : Code} {T : State} {locs : List Loc} {cells slots : Nat}
theorem vx_callV (X : Stand p l e R s m args below meth c T locs cells slots) (hexec : p.tables.exec = Jvm.exec) {own C : String} {index : Nat} {y : MethodName} {bytes : ByteArray} {maxL : Nat} {ret : Option FieldType}
    (hown : s.vm.findClass own = some m.cls) (hlink : (Cond.methodLink own index y).before args s = true) (hinst : (Cond.instanceMethod y).before args s = true) (hsel : (Cond.selects C y y).before args s = true)
    (hcode : (Cond.code y bytes maxL ret).before args s = true) (hy : y.cls ≠ "java/lang/invoke/MethodHandle" ∧ y.cls ≠ "java/lang/invoke/VarHandle")
    {W9 : Nat} {Pre : Pt → Array Value → Prop} {Post : Pt → Array Value → Option Value → Pt → Prop} {PostX : Pt → Array Value → Addr → Pt → Prop} (hK : vx_Back l R p e below s args y 3 W9 Pre Post PostX)
    {b : Addr} {cellB : Cell} (hcell : T.heap[b]? = some cellB) (hobj : cellB.vm.isStatics = false) (hcls : s.vm.findClass C = some cellB.cls)
    {g : JFrame} (hg : g.method = m) (hsize : g.locals.size = c.maxLocals) {argsL rest : List Value} (hlen : ∀ sig, parseMethodDescriptor y.desc = some sig → argsL.length = sig.parameters.length)
    (hstack : g.stack = argsL.reverse ++ .ref b :: rest) (hW : 2 * g.monitorRoom + (rest.map fun v => v.category).sum ≤ W9) (hdg : decode c.code g.pc = .ok (.invokevirtual index, 3))
    (hpre : ∀ vm₁, s.WarmedH vm₁ → Pre ⟨T.setVm vm₁, locs, cells, slots⟩ (Value.ref b :: argsL).toArray) :
    (∃ (v : Option Value) (vm₁ : Vm) (B : Pt), s.WarmedH vm₁ ∧ Stand p l e R s m args below meth c B.U B.locs B.cells B.slots ∧ Post ⟨T.setVm vm₁, locs, cells, slots⟩ (Value.ref b :: argsL).toArray v B ∧
      ∀ target, Steps p.tables e below (B.U.setTop { g with pc := g.pc + 3, stack := v.toList ++ rest }) target → Steps p.tables e below (T.setTop g) target) ∨
    (∃ (q : Addr) (vm₁ : Vm) (B : Pt), s.WarmedH vm₁ ∧ Stand p l e R s m args below meth c B.U B.locs B.cells B.slots ∧ PostX ⟨T.setVm vm₁, locs, cells, slots⟩ (Value.ref b :: argsL).toArray q B ∧
      Steps p.tables e below (T.setTop g) ((B.U.setTop { g with stack := rest }).pushFrame (.throwing q))) := by
  obtain ⟨mk, methM, hnamed, hmethM, hstM, habM⟩ := Cond.instanceMethod_spec hinst
  obtain ⟨methM', cM, hmethM', -, -, -, -, -, -, hsigM⟩ := Cond.code_spec hnamed hcode
  cases hmethM.symm.trans hmethM'
  obtain ⟨c2, r2, m2, q1, q2, q3, q4, kP, hkP, hkPi⟩ := Cond.selects_spec hsel
  cases hcls.symm.trans q1
  cases (State.methodFound?_of_named hnamed hy).symm.trans q2
  cases hnamed.symm.trans q3
  have hselP : selectMethod e.platform s.vm cellB.cls mk = .method mk := by rw [Launch.admits_selectMethod X.admits]; exact q4
  obtain ⟨vm₁, X₁, hstep₁⟩ := X.invokevirtual hexec hown hlink hnamed hmethM hstM hkP hkPi hy (a := b) (cell := cellB) hcell
    (fun z h => by rw [h] at hobj; cases hobj) hselP hmethM habM hkP hkPi (g := g) hg (argsL := argsL) (rest := rest) (hlen _ hsigM) hstack hdg
  rcases hK m meth c ⟨T.setVm vm₁, locs, cells, slots⟩ { g with stack := rest } (.invokevirtual index) mk (Value.ref b :: argsL).toArray X₁ hg hsize hdg hW (X₁.named hnamed) (hpre vm₁ X₁.warmed) with ⟨v, B, X', hpost, hsteps⟩ | ⟨q, B, X', hpost, hsteps⟩
  · exact Or.inl ⟨v, vm₁, B, X₁.warmed, X', hpost, fun target h => hstep₁ _ fun acts => by rw [doInvoke_state]; exact hsteps.trans h⟩
  · exact Or.inr ⟨q, vm₁, B, X₁.warmed, X', hpost, hstep₁ _ fun acts => by rw [doInvoke_state]; exact hsteps⟩
theorem vx_callS (X : Stand p l e R s m args below meth c T locs cells slots) (hexec : p.tables.exec = Jvm.exec) {own : String} {index : Nat} {y : MethodName} {bytes : ByteArray} {maxL : Nat} {ret : Option FieldType}
    (hown : s.vm.findClass own = some m.cls) (hlink : (Cond.methodLink own index y).before args s = true) (hstat : (Cond.static y).before args s = true) (hinit : (Cond.initialized y.cls).before args s = true)
    (hcode : (Cond.code y bytes maxL ret).before args s = true) (hy : y.cls ≠ "java/lang/invoke/MethodHandle" ∧ y.cls ≠ "java/lang/invoke/VarHandle")
    {W9 : Nat} {Pre : Pt → Array Value → Prop} {Post : Pt → Array Value → Option Value → Pt → Prop} {PostX : Pt → Array Value → Addr → Pt → Prop} (hK : vx_Back l R p e below s args y 3 W9 Pre Post PostX)
    {g : JFrame} (hg : g.method = m) (hsize : g.locals.size = c.maxLocals) {argsL rest : List Value} (hlen : ∀ sig, parseMethodDescriptor y.desc = some sig → argsL.length = sig.parameters.length)
    (hstack : g.stack = argsL.reverse ++ rest) (hW : 2 * g.monitorRoom + (rest.map fun v => v.category).sum ≤ W9) (hdg : decode c.code g.pc = .ok (.invokestatic index, 3))
    (hpre : ∀ vm₁, s.WarmedH vm₁ → Pre ⟨T.setVm vm₁, locs, cells, slots⟩ argsL.toArray) :
    (∃ (v : Option Value) (vm₁ : Vm) (B : Pt), s.WarmedH vm₁ ∧ Stand p l e R s m args below meth c B.U B.locs B.cells B.slots ∧ Post ⟨T.setVm vm₁, locs, cells, slots⟩ argsL.toArray v B ∧
      ∀ target, Steps p.tables e below (B.U.setTop { g with pc := g.pc + 3, stack := v.toList ++ rest }) target → Steps p.tables e below (T.setTop g) target) ∨
    (∃ (q : Addr) (vm₁ : Vm) (B : Pt), s.WarmedH vm₁ ∧ Stand p l e R s m args below meth c B.U B.locs B.cells B.slots ∧ PostX ⟨T.setVm vm₁, locs, cells, slots⟩ argsL.toArray q B ∧
      Steps p.tables e below (T.setTop g) ((B.U.setTop { g with stack := rest }).pushFrame (.throwing q))) := by
  obtain ⟨mk, hnamed⟩ := Cond.code_named hcode
  obtain ⟨methM, cM, hmethM, -, -, -, -, -, -, hsigM⟩ := Cond.code_spec hnamed hcode
  have hstatic : methM.isStatic = true := Cond.static_spec hnamed hmethM hstat
  obtain ⟨kP, hkP, -⟩ := className_of_methodNamed hnamed
  have hinitP : kP.init = .initialized := Cond.initialized_spec (findClass_of_methodNamed hnamed) hkP hinit
  obtain ⟨vm₁, X₁, hstep₁⟩ := X.invokestatic hexec hown hlink hnamed hmethM hstatic hkP hinitP hy (g := g) hg (argsL := argsL) (rest := rest) (hlen _ hsigM) hstack hdg
  rcases hK m meth c ⟨T.setVm vm₁, locs, cells, slots⟩ { g with stack := rest } (.invokestatic index) mk argsL.toArray X₁ hg hsize hdg hW (X₁.named hnamed) (hpre vm₁ X₁.warmed) with ⟨v, B, X', hpost, hsteps⟩ | ⟨q, B, X', hpost, hsteps⟩
  · exact Or.inl ⟨v, vm₁, B, X₁.warmed, X', hpost, fun target h => hstep₁ _ fun acts => by rw [doInvoke_state]; exact hsteps.trans h⟩
  · exact Or.inr ⟨q, vm₁, B, X₁.warmed, X', hpost, hstep₁ _ fun acts => by rw [doInvoke_state]; exact hsteps⟩
end Calls
theorem vx_cls {s : State} {T : State} {vm₁ : Vm} {E : String} {k : ClassId} (hW : s.WarmedH vm₁) (h : (T.setVm vm₁).vm.findClass E = some k) : s.vm.findClass E = some k := by
  have h1 : vm₁.findClass E = some k := h
  rw [hW.alike.findClass] at h1
  exact h1
/-- the method's frame g, with q thrown over it -/
def vx_W (p : Program) (l : Launch) (e : Env) (R : Room) (s : State) (m : MethodId) (args : Array Value) (below : List Frame) (meth : Method) (c : Code) (H : Heap) (locs : List Loc) (cells slots : Nat) (Q : State → Prop) (g : JFrame) (q : Addr) : Prop :=
  ∀ T : State, T.heap = H → Stand p l e R s m args below meth c T locs cells slots → ∃ t, Steps p.tables e below ((T.setTop g).pushFrame (.throwing q)) t ∧ Q t
def vx_Run (p : Program) (l : Launch) (e : Env) (R : Room) (s : State) (m : MethodId) (args : Array Value) (below : List Frame) (meth : Method) (c : Code) (H : Heap) (locs : List Loc) (cells slots mc ms : Nat) (g : JFrame) (rest : List Value) (Qa : State → Outcome → State → Prop) (XC : String → State → State → Prop) (free : Addr → Prop) : Prop :=
  ∀ T : State, T.heap = H → Stand p l e R s m args below meth c T locs cells slots →
    (∃ (v : Option Value) (st₀ t T' : State) (L : List Loc), st₀.heap = H ∧ Stand p l e R s m args below meth c T' (locs ++ L) (cells + mc) (slots + ms) ∧ (∀ q ∈ L, free q.base) ∧ T'.heap = t.heap ∧ T'.vm = t.vm ∧ Qa st₀ (.returned v) t ∧
      Goes p e below T g T' { g with pc := g.pc + 3, stack := v.toList ++ rest }) ∨
    (∃ (q : Addr) (st₀ t T' : State) (L : List Loc) (E : String) (ce : Cell), st₀.heap = H ∧ Stand p l e R s m args below meth c T' (locs ++ L) (cells + mc) (slots + ms) ∧ (∀ z ∈ L, free z.base) ∧ T'.heap = t.heap ∧ T'.vm = t.vm ∧ XC E st₀ t ∧ t.heap[q]? = some ce ∧ ce.vm = .none ∧ s.vm.findClass E = some ce.cls ∧
      Steps p.tables e below (T.setTop g) ((T'.setTop { g with stack := rest }).pushFrame (.throwing q)))
def vx_X {S : Type} (px : S → Prop) (B : String → S → State → Prop) (A : Nat → Prop) : String → State → State → Prop := fun E st t => ∃ u : S, px u ∧ B E u t ∧ va_F A st t
section Runs
variable {p : Program} {l : Launch} {e : Env} {R : Room} {s : State} {m : MethodId} {args : Array Value} {below : List Frame} {meth : Method} {c : Code} {H : Heap} {locs : List Loc} {cells slots : Nat}
variable {y : MethodName} {bytes cc : ByteArray} {maxL nL mc ms n index : Nat} {ret : Option FieldType} {ws : List Cond} {rm : Room} {Pc : Array Value → State → Prop} {Qc : Array Value → State → Outcome → State → Prop} {XC : String → State → State → Prop} {free : Addr → Prop} {Ts : List Cond} {own C : String} {b : Addr} {As rest : List Value} {g : JFrame}
theorem vx_callBack (cb : CallB R s args own index y bytes maxL ret ws rm mc ms n) (hM : vx_Met l y ws rm Pc Qc XC mc ms free) (hbl : FrameBlind Pc) : vx_Back l R p e below s args y 3 8 (PreOf R mc ms Pc) (PostOf Qc mc ms free) (vx_Post XC mc ms free) := by
  obtain ⟨hrc, hrs, hfr, hlo, hws, hcw, -, hini, -⟩ := cb
  exact vx_back (bytes := bytes) (maxL := maxL) (ret := ret) hM hbl hrc hrs hfr hlo hws hcw (fun a' U hW => word_at hW (Or.inl (by first | rfl | simp [Cond.onTables, Cond.keeps, Cond.steady])) hini)
theorem vx_runV (S : CallFix p m c cc nL s args Ts own) (hM : vx_Met l y ws rm Pc Qc XC mc ms free) (cw : CallW R s args own C index y bytes maxL ret ws rm mc ms n) (hp : PreV s H C b Pc As)
    (hg : g.method = m) (hn : As.length = n) (hsize : g.locals.size = nL) (hstack : g.stack = As.reverse ++ .ref b :: rest) (hW : 2 * g.monitorRoom + (rest.map fun v => v.category).sum ≤ 8) (hdg : decode cc g.pc = .ok (.invokevirtual index, 3)) (hf : cells + mc ≤ R.cells ∧ slots + ms ≤ R.slots) :
    vx_Run p l e R s m args below meth c H locs cells slots mc ms g rest (Qc (Value.ref b :: As).toArray) XC free := by
  have hK : vx_Back l R p e below s args y 3 8 (PreOf R mc ms Pc) (PostOf Qc mc ms free) (vx_Post XC mc ms free) := vx_callBack cw.1 hM hp.1
  obtain ⟨⟨-, -, -, -, -, -, hcode, -, hy, hlen, hl⟩, hin, hse⟩ := cw
  obtain ⟨hx, hb, hml, ho, -⟩ := S
  obtain ⟨-, ⟨cellB, hcB, hoB, hclB⟩, hPc⟩ := hp
  intro T hT X
  rcases vx_callV X hx (C := C) (bytes := bytes) (maxL := maxL) (ret := ret) ho hl hin hse hcode hy hK (by rw [hT]; exact hcB) hoB hclB hg (hsize.trans hml.symm) (argsL := As) (rest := rest) (fun sig h => hn.trans (hlen sig h)) hstack hW (by rw [hb]; exact hdg)
    (fun vm₁ hW₁ => ⟨hf.1, hf.2, hPc (T.setVm vm₁) hT hW₁⟩) with ⟨v, vm₁, ⟨U', l2, c2, s2⟩, hW₁, X', ⟨g', mk, t, L, e1, e2, hq, h1, hL, h2, h3⟩, st⟩ | ⟨q, vm₁, ⟨U', l2, c2, s2⟩, hW₁, X', ⟨g', mk, t, L, E, ce, e1, e2, hq, hce, hcv, hcl, h1, hL, h2, h3⟩, st⟩
  · dsimp only [Pt.U, Pt.locs, Pt.cells, Pt.slots] at X' e1 e2 h1 h2 h3 st
    subst h1; subst h2; subst h3
    exact Or.inl ⟨v, (T.setVm vm₁).calling g' mk (Value.ref b :: As).toArray, t, U', L, hT, X', hL, e1, e2, hq, st⟩
  · dsimp only [Pt.U, Pt.locs, Pt.cells, Pt.slots] at X' e1 e2 h1 h2 h3 st hcl
    subst h1; subst h2; subst h3
    exact Or.inr ⟨q, (T.setVm vm₁).calling g' mk (Value.ref b :: As).toArray, t, U', L, E, ce, hT, X', hL, e1, e2, hq, hce, hcv, vx_cls hW₁ hcl, st⟩
theorem vx_runS (S : CallFix p m c cc nL s args Ts own) (hM : vx_Met l y ws rm Pc Qc XC mc ms free) (cw : CallB R s args own index y bytes maxL ret ws rm mc ms n ∧ (Cond.static y).before args s = true) (hp : PreS s H Pc As)
    (hg : g.method = m) (hn : As.length = n) (hsize : g.locals.size = nL) (hstack : g.stack = As.reverse ++ rest) (hW : 2 * g.monitorRoom + (rest.map fun v => v.category).sum ≤ 8) (hdg : decode cc g.pc = .ok (.invokestatic index, 3)) (hf : cells + mc ≤ R.cells ∧ slots + ms ≤ R.slots) :
    vx_Run p l e R s m args below meth c H locs cells slots mc ms g rest (Qc As.toArray) XC free := by
  have hK : vx_Back l R p e below s args y 3 8 (PreOf R mc ms Pc) (PostOf Qc mc ms free) (vx_Post XC mc ms free) := vx_callBack cw.1 hM hp.1
  obtain ⟨⟨-, -, -, -, -, -, hcode, hini, hy, hlen, hl⟩, hstt⟩ := cw
  obtain ⟨hx, hb, hml, ho, -⟩ := S
  intro T hT X
  rcases vx_callS X hx (bytes := bytes) (maxL := maxL) (ret := ret) ho hl hstt hini hcode hy hK hg (hsize.trans hml.symm) (argsL := As) (rest := rest) (fun sig h => hn.trans (hlen sig h)) hstack hW (by rw [hb]; exact hdg)
    (fun vm₁ hW₁ => ⟨hf.1, hf.2, hp.2 (T.setVm vm₁) hT hW₁⟩) with ⟨v, vm₁, ⟨U', l2, c2, s2⟩, hW₁, X', ⟨g', mk, t, L, e1, e2, hq, h1, hL, h2, h3⟩, st⟩ | ⟨q, vm₁, ⟨U', l2, c2, s2⟩, hW₁, X', ⟨g', mk, t, L, E, ce, e1, e2, hq, hce, hcv, hcl, h1, hL, h2, h3⟩, st⟩
  · dsimp only [Pt.U, Pt.locs, Pt.cells, Pt.slots] at X' e1 e2 h1 h2 h3 st
    subst h1; subst h2; subst h3
    exact Or.inl ⟨v, (T.setVm vm₁).calling g' mk As.toArray, t, U', L, hT, X', hL, e1, e2, hq, st⟩
  · dsimp only [Pt.U, Pt.locs, Pt.cells, Pt.slots] at X' e1 e2 h1 h2 h3 st hcl
    subst h1; subst h2; subst h3
    exact Or.inr ⟨q, (T.setVm vm₁).calling g' mk As.toArray, t, U', L, E, ce, hT, X', hL, e1, e2, hq, hce, hcv, vx_cls hW₁ hcl, st⟩
end Runs
section Rows
variable {p : Program} {l : Launch} {e : Env} {R : Room} {s : State} {m : MethodId} {args : Array Value} {below : List Frame} {meth : Method} {c : Code} {H : Heap} {locs : List Loc} {cells slots : Nat} {Q : State → Prop}
variable {mc ms : Nat} {free : Addr → Prop} {A0 A1 : Nat → Prop} {H0 : Heap} {a : Array Value} {pc : Nat} {ls : Array Slot} {st0 rest : List Value}
theorem vx_keep {st₀ t T' : State} {L : List Loc} (h0 : st₀.heap = H) (e1 : T'.heap = t.heap) (hS : va_S A0 H0 H locs) (hA : ∀ q, q < H.size → A1 q → A0 q) (hf : ∀ q, free q → A0 q) (hL : ∀ q ∈ L, free q.base) (hF : va_F A1 st₀ t) :
    H.size ≤ T'.heap.size ∧ (∀ q : Nat, q < H.size → ¬ A1 q → T'.heap[q]? = H[q]?) ∧ va_S A0 H0 T'.heap (locs ++ L) := by
  obtain ⟨hz, hk⟩ := hF
  rw [h0] at hz hk
  exact ⟨by rw [e1]; exact hz, fun q h1 h2 => by rw [e1]; exact hk q h1 h2,
    ⟨Nat.le_trans hS.1 (by rw [e1]; exact hz), fun q h1 h2 => by rw [e1, hk q (Nat.lt_of_lt_of_le h1 hS.1) (fun z => h2 (hA q (Nat.lt_of_lt_of_le h1 hS.1) z))]; exact hS.2.1 q h1 h2, fun q hq => by
      rcases List.mem_append.mp hq with h | h
      · exact hS.2.2 q h
      · exact hf _ (hL q h)⟩⟩
theorem vx_calli {S SX : Type} {post : Int32 → S → Prop} {px : SX → Prop} {B : S → State → Prop} {BX : String → SX → State → Prop} {AX : Nat → Prop} (hr : vx_Run p l e R s m args below meth c H locs cells slots mc ms (F0 m pc ls st0) rest (va_Qi post B A1 a) (vx_X px BX AX) free) (hS : va_S A0 H0 H locs) (hA : ∀ q, q < H.size → A1 q → A0 q) (hf : ∀ q, free q → A0 q) (hAX : ∀ q, q < H.size → AX q → A0 q)
    (kx : ∀ (E : String) (ce : Cell) (q9 : Addr) (u : SX) (t : State) (H1 : Heap) (locs1 : List Loc), t.heap = H1 → s.vm.Alike t.vm → px u → BX E u t → H.size ≤ H1.size → (∀ q : Nat, q < H.size → ¬ AX q → H1[q]? = H[q]?) → va_S A0 H0 H1 locs1 → H1[q9]? = some ce → ce.vm = .none → s.vm.findClass E = some ce.cls → vx_W p l e R s m args below meth c H1 locs1 (cells + mc) (slots + ms) Q (F0 m pc ls rest) q9)
    (kk : ∀ (r : Int32) (u : S) (t : State) (H1 : Heap) (locs1 : List Loc), t.heap = H1 → s.vm.Alike t.vm → post r u → B u t → H.size ≤ H1.size → (∀ q : Nat, q < H.size → ¬ A1 q → H1[q]? = H[q]?) → va_S A0 H0 H1 locs1 → W p l e R s m args below meth c H1 locs1 (cells + mc) (slots + ms) Q (F0 m (pc + 3) ls (.int r :: rest))) : W p l e R s m args below meth c H locs cells slots Q (F0 m pc ls st0) := by
  intro T hT X
  rcases hr T hT X with ⟨v, st₀, t, T', L, h0, X', hL, e1, e2, ⟨⟨r, u, hv, hp, hb⟩, hF⟩, st⟩ | ⟨q, st₀, t, T', L, E, ce, h0, X', hL, e1, e2, ⟨u, hp, hb, hF⟩, hce, hcv, hcl, st⟩
  · cases hv
    obtain ⟨k1, k2, k3⟩ := vx_keep h0 e1 hS hA hf hL hF
    obtain ⟨t2, a1, b1⟩ := kk r u t T'.heap (locs ++ L) e1.symm (by rw [← e2]; exact X'.warmed.alike) hp hb k1 k2 k3 T' rfl X'
    exact ⟨t2, st t2 a1, b1⟩
  · obtain ⟨k1, k2, k3⟩ := vx_keep h0 e1 hS hAX hf hL hF
    obtain ⟨t2, a1, b1⟩ := kx E ce q u t T'.heap (locs ++ L) e1.symm (by rw [← e2]; exact X'.warmed.alike) hp hb k1 k2 k3 (by rw [e1]; exact hce) hcv hcl T' rfl X'
    exact ⟨t2, st.trans a1, b1⟩
theorem vx_calll {S SX : Type} {post : Int64 → S → Prop} {px : SX → Prop} {B : S → State → Prop} {BX : String → SX → State → Prop} {AX : Nat → Prop} (hr : vx_Run p l e R s m args below meth c H locs cells slots mc ms (F0 m pc ls st0) rest (va_Ql post B A1 a) (vx_X px BX AX) free) (hS : va_S A0 H0 H locs) (hA : ∀ q, q < H.size → A1 q → A0 q) (hf : ∀ q, free q → A0 q) (hAX : ∀ q, q < H.size → AX q → A0 q)
    (kx : ∀ (E : String) (ce : Cell) (q9 : Addr) (u : SX) (t : State) (H1 : Heap) (locs1 : List Loc), t.heap = H1 → s.vm.Alike t.vm → px u → BX E u t → H.size ≤ H1.size → (∀ q : Nat, q < H.size → ¬ AX q → H1[q]? = H[q]?) → va_S A0 H0 H1 locs1 → H1[q9]? = some ce → ce.vm = .none → s.vm.findClass E = some ce.cls → vx_W p l e R s m args below meth c H1 locs1 (cells + mc) (slots + ms) Q (F0 m pc ls rest) q9)
    (kk : ∀ (r : Int64) (u : S) (t : State) (H1 : Heap) (locs1 : List Loc), t.heap = H1 → s.vm.Alike t.vm → post r u → B u t → H.size ≤ H1.size → (∀ q : Nat, q < H.size → ¬ A1 q → H1[q]? = H[q]?) → va_S A0 H0 H1 locs1 → W p l e R s m args below meth c H1 locs1 (cells + mc) (slots + ms) Q (F0 m (pc + 3) ls (.long r :: rest))) : W p l e R s m args below meth c H locs cells slots Q (F0 m pc ls st0) := by
  intro T hT X
  rcases hr T hT X with ⟨v, st₀, t, T', L, h0, X', hL, e1, e2, ⟨⟨r, u, hv, hp, hb⟩, hF⟩, st⟩ | ⟨q, st₀, t, T', L, E, ce, h0, X', hL, e1, e2, ⟨u, hp, hb, hF⟩, hce, hcv, hcl, st⟩
  · cases hv
    obtain ⟨k1, k2, k3⟩ := vx_keep h0 e1 hS hA hf hL hF
    obtain ⟨t2, a1, b1⟩ := kk r u t T'.heap (locs ++ L) e1.symm (by rw [← e2]; exact X'.warmed.alike) hp hb k1 k2 k3 T' rfl X'
    exact ⟨t2, st t2 a1, b1⟩
  · obtain ⟨k1, k2, k3⟩ := vx_keep h0 e1 hS hAX hf hL hF
    obtain ⟨t2, a1, b1⟩ := kx E ce q u t T'.heap (locs ++ L) e1.symm (by rw [← e2]; exact X'.warmed.alike) hp hb k1 k2 k3 (by rw [e1]; exact hce) hcv hcl T' rfl X'
    exact ⟨t2, st.trans a1, b1⟩
theorem vx_callf {S SX : Type} {post : UInt32 → S → Prop} {px : SX → Prop} {B : S → State → Prop} {BX : String → SX → State → Prop} {AX : Nat → Prop} (hr : vx_Run p l e R s m args below meth c H locs cells slots mc ms (F0 m pc ls st0) rest (va_Qf post B A1 a) (vx_X px BX AX) free) (hS : va_S A0 H0 H locs) (hA : ∀ q, q < H.size → A1 q → A0 q) (hf : ∀ q, free q → A0 q) (hAX : ∀ q, q < H.size → AX q → A0 q)
    (kx : ∀ (E : String) (ce : Cell) (q9 : Addr) (u : SX) (t : State) (H1 : Heap) (locs1 : List Loc), t.heap = H1 → s.vm.Alike t.vm → px u → BX E u t → H.size ≤ H1.size → (∀ q : Nat, q < H.size → ¬ AX q → H1[q]? = H[q]?) → va_S A0 H0 H1 locs1 → H1[q9]? = some ce → ce.vm = .none → s.vm.findClass E = some ce.cls → vx_W p l e R s m args below meth c H1 locs1 (cells + mc) (slots + ms) Q (F0 m pc ls rest) q9)
    (kk : ∀ (r : UInt32) (u : S) (t : State) (H1 : Heap) (locs1 : List Loc), t.heap = H1 → s.vm.Alike t.vm → post r u → B u t → H.size ≤ H1.size → (∀ q : Nat, q < H.size → ¬ A1 q → H1[q]? = H[q]?) → va_S A0 H0 H1 locs1 → W p l e R s m args below meth c H1 locs1 (cells + mc) (slots + ms) Q (F0 m (pc + 3) ls (.float r :: rest))) : W p l e R s m args below meth c H locs cells slots Q (F0 m pc ls st0) := by
  intro T hT X
  rcases hr T hT X with ⟨v, st₀, t, T', L, h0, X', hL, e1, e2, ⟨⟨r, u, hv, hp, hb⟩, hF⟩, st⟩ | ⟨q, st₀, t, T', L, E, ce, h0, X', hL, e1, e2, ⟨u, hp, hb, hF⟩, hce, hcv, hcl, st⟩
  · cases hv
    obtain ⟨k1, k2, k3⟩ := vx_keep h0 e1 hS hA hf hL hF
    obtain ⟨t2, a1, b1⟩ := kk r u t T'.heap (locs ++ L) e1.symm (by rw [← e2]; exact X'.warmed.alike) hp hb k1 k2 k3 T' rfl X'
    exact ⟨t2, st t2 a1, b1⟩
  · obtain ⟨k1, k2, k3⟩ := vx_keep h0 e1 hS hAX hf hL hF
    obtain ⟨t2, a1, b1⟩ := kx E ce q u t T'.heap (locs ++ L) e1.symm (by rw [← e2]; exact X'.warmed.alike) hp hb k1 k2 k3 (by rw [e1]; exact hce) hcv hcl T' rfl X'
    exact ⟨t2, st.trans a1, b1⟩
theorem vx_calld {S SX : Type} {post : UInt64 → S → Prop} {px : SX → Prop} {B : S → State → Prop} {BX : String → SX → State → Prop} {AX : Nat → Prop} (hr : vx_Run p l e R s m args below meth c H locs cells slots mc ms (F0 m pc ls st0) rest (va_Qd post B A1 a) (vx_X px BX AX) free) (hS : va_S A0 H0 H locs) (hA : ∀ q, q < H.size → A1 q → A0 q) (hf : ∀ q, free q → A0 q) (hAX : ∀ q, q < H.size → AX q → A0 q)
    (kx : ∀ (E : String) (ce : Cell) (q9 : Addr) (u : SX) (t : State) (H1 : Heap) (locs1 : List Loc), t.heap = H1 → s.vm.Alike t.vm → px u → BX E u t → H.size ≤ H1.size → (∀ q : Nat, q < H.size → ¬ AX q → H1[q]? = H[q]?) → va_S A0 H0 H1 locs1 → H1[q9]? = some ce → ce.vm = .none → s.vm.findClass E = some ce.cls → vx_W p l e R s m args below meth c H1 locs1 (cells + mc) (slots + ms) Q (F0 m pc ls rest) q9)
    (kk : ∀ (r : UInt64) (u : S) (t : State) (H1 : Heap) (locs1 : List Loc), t.heap = H1 → s.vm.Alike t.vm → post r u → B u t → H.size ≤ H1.size → (∀ q : Nat, q < H.size → ¬ A1 q → H1[q]? = H[q]?) → va_S A0 H0 H1 locs1 → W p l e R s m args below meth c H1 locs1 (cells + mc) (slots + ms) Q (F0 m (pc + 3) ls (.double r :: rest))) : W p l e R s m args below meth c H locs cells slots Q (F0 m pc ls st0) := by
  intro T hT X
  rcases hr T hT X with ⟨v, st₀, t, T', L, h0, X', hL, e1, e2, ⟨⟨r, u, hv, hp, hb⟩, hF⟩, st⟩ | ⟨q, st₀, t, T', L, E, ce, h0, X', hL, e1, e2, ⟨u, hp, hb, hF⟩, hce, hcv, hcl, st⟩
  · cases hv
    obtain ⟨k1, k2, k3⟩ := vx_keep h0 e1 hS hA hf hL hF
    obtain ⟨t2, a1, b1⟩ := kk r u t T'.heap (locs ++ L) e1.symm (by rw [← e2]; exact X'.warmed.alike) hp hb k1 k2 k3 T' rfl X'
    exact ⟨t2, st t2 a1, b1⟩
  · obtain ⟨k1, k2, k3⟩ := vx_keep h0 e1 hS hAX hf hL hF
    obtain ⟨t2, a1, b1⟩ := kx E ce q u t T'.heap (locs ++ L) e1.symm (by rw [← e2]; exact X'.warmed.alike) hp hb k1 k2 k3 (by rw [e1]; exact hce) hcv hcl T' rfl X'
    exact ⟨t2, st.trans a1, b1⟩
theorem vx_callv {S SX : Type} {post : S → Prop} {px : SX → Prop} {B : S → State → Prop} {BX : String → SX → State → Prop} {AX : Nat → Prop} (hr : vx_Run p l e R s m args below meth c H locs cells slots mc ms (F0 m pc ls st0) rest (va_Qv post B A1 a) (vx_X px BX AX) free) (hS : va_S A0 H0 H locs) (hA : ∀ q, q < H.size → A1 q → A0 q) (hf : ∀ q, free q → A0 q) (hAX : ∀ q, q < H.size → AX q → A0 q)
    (kx : ∀ (E : String) (ce : Cell) (q9 : Addr) (u : SX) (t : State) (H1 : Heap) (locs1 : List Loc), t.heap = H1 → s.vm.Alike t.vm → px u → BX E u t → H.size ≤ H1.size → (∀ q : Nat, q < H.size → ¬ AX q → H1[q]? = H[q]?) → va_S A0 H0 H1 locs1 → H1[q9]? = some ce → ce.vm = .none → s.vm.findClass E = some ce.cls → vx_W p l e R s m args below meth c H1 locs1 (cells + mc) (slots + ms) Q (F0 m pc ls rest) q9)
    (kk : ∀ (u : S) (t : State) (H1 : Heap) (locs1 : List Loc), t.heap = H1 → s.vm.Alike t.vm → post u → B u t → H.size ≤ H1.size → (∀ q : Nat, q < H.size → ¬ A1 q → H1[q]? = H[q]?) → va_S A0 H0 H1 locs1 → W p l e R s m args below meth c H1 locs1 (cells + mc) (slots + ms) Q (F0 m (pc + 3) ls (rest))) : W p l e R s m args below meth c H locs cells slots Q (F0 m pc ls st0) := by
  intro T hT X
  rcases hr T hT X with ⟨v, st₀, t, T', L, h0, X', hL, e1, e2, ⟨⟨u, hv, hp, hb⟩, hF⟩, st⟩ | ⟨q, st₀, t, T', L, E, ce, h0, X', hL, e1, e2, ⟨u, hp, hb, hF⟩, hce, hcv, hcl, st⟩
  · cases hv
    obtain ⟨k1, k2, k3⟩ := vx_keep h0 e1 hS hA hf hL hF
    obtain ⟨t2, a1, b1⟩ := kk u t T'.heap (locs ++ L) e1.symm (by rw [← e2]; exact X'.warmed.alike) hp hb k1 k2 k3 T' rfl X'
    exact ⟨t2, st t2 a1, b1⟩
  · obtain ⟨k1, k2, k3⟩ := vx_keep h0 e1 hS hAX hf hL hF
    obtain ⟨t2, a1, b1⟩ := kx E ce q u t T'.heap (locs ++ L) e1.symm (by rw [← e2]; exact X'.warmed.alike) hp hb k1 k2 k3 (by rw [e1]; exact hce) hcv hcl T' rfl X'
    exact ⟨t2, st.trans a1, b1⟩
/-- caught by the row x of this method's table; the rows ahead don't take it -/
theorem vx_catch {own name : String} {E : String} {ce : Cell} {q : Addr} (hown : s.vm.findClass own = some m.cls) (pre : List ExceptionTableEntry) (x : ExceptionTableEntry) (suf : List ExceptionTableEntry) (hsplit : c.exceptionTable.toList = pre ++ x :: suf)
    (hpass : ∀ z ∈ pre, covers z pc = false ∨ (z.catchType ≠ 0 ∧ ∃ nm : String, (Cond.classLink own z.catchType nm).before args s = true ∧ va_Nc E nm s)) (hx : covers x pc = true) (h0 : x.catchType ≠ 0)
    (hlink : (Cond.classLink own x.catchType name).before args s = true) (hcast : (Cond.castable E name).before args s = true) (hcell : H[q]? = some ce) (hv : ce.vm = .none) (hcl : s.vm.findClass E = some ce.cls)
    (kk : W p l e R s m args below meth c H locs cells slots Q (F0 m x.handlerPc ls [.ref q])) : vx_W p l e R s m args below meth c H locs cells slots Q (F0 m pc ls rest) q := by
  intro T hT X
  have hpl : e.platform.magicAccessors = ({} : Platform).magicAccessors := by rw [X.admits.platform]
  obtain ⟨c3, c4, hc3, hc4, hasg⟩ := Cond.castable_spec hcast
  cases Option.some.inj (hc3.symm.trans hcl)
  obtain ⟨c5, hc5, hcl5⟩ := Cond.classLink_spec hown hlink e.platform hpl
  cases Option.some.inj (hc4.symm.trans hc5)
  obtain ⟨vm', X', st⟩ := X.thenCaughtThrough q (g := F0 m pc ls rest) rfl (Steps.refl _) (by rw [hT]; exact hcell) (by rw [hv]; rfl) (by obtain ⟨k9, h9, -⟩ := Vm.findClass_spec hcl; exact ⟨k9, h9⟩) pre x suf hsplit
    (fun z hz => by
      rcases hpass z hz with h | ⟨hz0, nm, hl1, hn1⟩
      · exact Or.inl h
      · obtain ⟨c6, hc6, hcl6⟩ := Cond.classLink_spec hown hl1 e.platform hpl
        obtain ⟨a8, b8, h1, h2, h3⟩ := hn1
        cases Option.some.inj (h1.symm.trans hcl)
        cases Option.some.inj (h2.symm.trans hc6)
        exact Or.inr ⟨hz0, _, hcl6, h3⟩) hx (Or.inr ⟨h0, c4, hcl5, hasg⟩)
  obtain ⟨t, a1, b1⟩ := kk (T.setVm vm') hT X'
  exact ⟨t, st.trans a1, b1⟩
end Rows
section Ends
variable {p : Program} {l : Launch} {e : Env} {R : Room} {s : State} {m : MethodId} {args : Array Value} {below : List Frame} {meth : Method} {c : Code} {H : Heap} {locs : List Loc} {cells slots : Nat} {Q : State → Prop}
variable {mc ms : Nat} {free : Addr → Prop} {A0 A1 : Nat → Prop} {H0 : Heap} {a : Array Value} {ls : Array Slot} {st0 rest : List Value}
variable {Qc : Array Value → State → Outcome → State → Prop} {XC : String → State → State → Prop}
/-- what a body that may throw owes at its end -/
def vx_MQ (below : List Frame) (Qc : Array Value → State → Outcome → State → Prop) (XC : String → State → State → Prop) (a : Array Value) (s : State) (mc ms : Nat) (free : Addr → Prop) : State → Prop := fun t =>
  ∃ o, t.status = .running ∧ Ended t below o ∧ vx_Q Qc XC mc ms free a s o t
theorem vx_ret {g : JFrame} {mc ms : Nat} (k : W p l e R s m args below meth c H locs cells slots (MQ below Qc args s mc ms free) g) : W p l e R s m args below meth c H locs cells slots (vx_MQ below Qc XC args s mc ms free) g := by
  intro T hT X
  obtain ⟨t, a1, o, b1, b2, b3, b4⟩ := k T hT X
  exact ⟨t, a1, o, b1, b2, Or.inl ⟨b3, b4⟩⟩
/-- not caught here: it goes on to the caller -/
theorem vx_widen {g : JFrame} {q : Addr} {k n : Nat} (h1 : cells ≤ k) (h2 : slots ≤ n) (kk : vx_W p l e R s m args below meth c H locs k n Q g q) : vx_W p l e R s m args below meth c H locs cells slots Q g q := fun T hT X => kk T hT (stand_widen X h1 h2)
theorem vx_out {pc : Nat} {E : String} {ce : Cell} {q : Addr} {mc ms : Nat} (hout : ∀ x ∈ c.exceptionTable.toList, covers x pc = false) (hlocks : meth.locks = false) (hcell : H[q]? = some ce) (hv : ce.vm = .none) (hcl : s.vm.findClass E = some ce.cls)
    (hx : ∀ t : State, t.heap = H → s.vm.Alike t.vm → XC E s t) (hf : ∀ z ∈ locs, free z.base) (hc : cells ≤ mc) (hs : slots ≤ ms) :
    vx_W p l e R s m args below meth c H locs cells slots (vx_MQ below Qc XC args s mc ms free) (F0 m pc ls rest) q := by
  intro T hT X
  obtain ⟨st1, hrun, hend, hW, hsm⟩ := X.leaveThrown q (g := F0 m pc ls rest) rfl rfl rfl hout hlocks
  have hcell9 : (T.setFrames (.throwing q :: below)).heap[q]? = some ce := by
    show T.heap[q]? = some ce
    rw [hT]; exact hcell
  exact ⟨_, st1, .threw q, hrun, hend, Or.inr ⟨q, rfl, E, ce, locs, hx _ hT hW.alike, hcell9, hv, hcl, hW, hsm.mono hc hs, hf⟩⟩
theorem vx_frame {U : State} {k n : Nat} (h : s.sameButNew ({ U with vm := s.vm } : State) locs k n) : s.heap.size ≤ U.heap.size ∧ ∀ q : Nat, q < s.heap.size → (∀ z ∈ locs, z.base ≠ q) → U.heap[q]? = s.heap[q]? := by
  obtain ⟨-, h2, -, -, -, h6⟩ := h
  refine ⟨h2, fun q hq hz => ?_⟩
  obtain ⟨c9, e1, e2, e3, e4⟩ := h6 q _ (Array.getElem?_eq_getElem hq)
  have hs : c9.slots = (s.heap[q]).slots := Array.ext_getElem? fun i => e4 i fun hm => hz _ hm rfl
  have h9 : c9 = s.heap[q] := by
    rw [hs] at e2
    exact e2
  have e5 : U.heap[q]? = some c9 := e1
  rw [e5, h9, Array.getElem?_eq_getElem hq]
/-- the words of a throw but the four that speak of the heap -/
def vx_no (w : Cond) : Bool := decide (w ≠ .isRef (.static Bundle.tN "UNASSIGNED_STACK" Bundle.steD)) && decide (w ≠ .isRef (.static Bundle.tN "SUPPRESSED_SENTINEL" Bundle.listD)) && decide (w ≠ .laysStatic Bundle.tN "UNASSIGNED_STACK" Bundle.steD) && decide (w ≠ .laysStatic Bundle.tN "SUPPRESSED_SENTINEL" Bundle.listD)
def vx_at0 (own : String) (ic : Nat) (X : String) (names : List String) : List Cond := (Bundle.ownAtoms0 own ic X names).filter vx_no
def vx_atS (own : String) (ic : Nat) (X : String) (names : List String) : List Cond := (Bundle.ownAtoms own ic X names).filter vx_no
/-- a word that the tables alone decide, or a good one -/
def vx_ot (w : Cond) : Bool := w.onTables || goodWord w
theorem vx_ot_at {args a' : Array Value} {s U : State} {w : Cond} (hW : s.WarmedH U.vm) (hvm : s.vm = U.vm) (hg : vx_ot w = true) (h : w.before args s = true) : w.before a' U = true := by
  simp only [vx_ot, Bool.or_eq_true] at hg
  rcases hg with hg | hg
  · exact va_tabs hg hvm h
  · exact word_at hW (good_of_word hg) h
/-- a list's words: the good ones out of the method's own list, the others by premises of their own -/
theorem vx_hat {args : Array Value} {s : State} {L B : List Cond} (h1 : ∀ w ∈ L.filter goodWord, w.before args s = true) (h2 : ∀ w ∈ L.filter (fun w => !goodWord w), w ∈ B) (h3 : ∀ w ∈ B, w.before args s = true) : ∀ w ∈ L, w.before args s = true := by
  intro w hw
  by_cases g : goodWord w = true
  · exact h1 w (List.mem_filter.mpr ⟨hw, g⟩)
  · refine h3 w (h2 w (List.mem_filter.mpr ⟨hw, ?_⟩))
    show (!goodWord w) = true
    cases hgw : goodWord w
    · rfl
    · exact absurd hgw g
theorem vx_c {args : Array Value} {s : State} {w : Cond} {B : List Cond} (h : w.before args s = true) (t : ∀ w ∈ B, w.before args s = true) : ∀ w' ∈ w :: B, w'.before args s = true := fun w' h' => (List.mem_cons.mp h').elim (fun e => by rw [e]; exact h) (t w')
theorem vx_n {args : Array Value} {s : State} : ∀ w ∈ ([] : List Cond), w.before args s = true := fun _ h => nomatch h
theorem vx_own {args : Array Value} {s : State} {L : List Cond} (h1 : ∀ w ∈ L.filter vx_no, w.before args s = true)
    (hU : (Cond.isRef (.static Bundle.tN "UNASSIGNED_STACK" Bundle.steD)).before args s = true) (hN : (Cond.isRef (.static Bundle.tN "SUPPRESSED_SENTINEL" Bundle.listD)).before args s = true)
    (lU : (Cond.laysStatic Bundle.tN "UNASSIGNED_STACK" Bundle.steD).before args s = true) (lN : (Cond.laysStatic Bundle.tN "SUPPRESSED_SENTINEL" Bundle.listD).before args s = true) : ∀ w ∈ L, w.before args s = true := by
  intro w hw
  by_cases e1 : w = .isRef (.static Bundle.tN "UNASSIGNED_STACK" Bundle.steD)
  · rw [e1]; exact hU
  · by_cases e2 : w = .isRef (.static Bundle.tN "SUPPRESSED_SENTINEL" Bundle.listD)
    · rw [e2]; exact hN
    · by_cases e3 : w = .laysStatic Bundle.tN "UNASSIGNED_STACK" Bundle.steD
      · rw [e3]; exact lU
      · by_cases e4 : w = .laysStatic Bundle.tN "SUPPRESSED_SENTINEL" Bundle.listD
        · rw [e4]; exact lN
        · exact h1 w (List.mem_filter.mpr ⟨hw, by unfold vx_no; rw [decide_eq_true e1, decide_eq_true e2, decide_eq_true e3, decide_eq_true e4]; rfl⟩)
/-- where a static field lies, its class's statics cell in H -/
def vx_L (C n d : String) (A : Nat → Prop) (U : State) (H : Heap) : Prop := ∃ (c : ClassId) (k : Class) (i : Nat) (f : Field) (a : Nat) (cell : Cell), U.vm.findClass C = some c ∧ U.fieldFound? C n d = some (c, k, i, f) ∧ f.isStatic = true ∧ k.statics = some a ∧ H[a]? = some cell ∧ cell.vm.isStatics = true ∧ cell.cls = c ∧ f.slot < cell.slots.size ∧ k.staticTypes[f.slot]? = some f.type ∧ ¬ A a
theorem vx_L.moved {C n d : String} {A : Nat → Prop} {u U : State} {H : Heap} (hvm : u.vm.Alike U.vm) (h : vx_L C n d A u H) : vx_L C n d A U H := by
  obtain ⟨c, k, i, f, a, cell, h1, h2, h3, h4, h5, h6, h7, h8, h9, h10⟩ := h
  obtain ⟨k', hi', he⟩ := State.fieldFound?_setVm hvm h2
  exact ⟨c, k', i, f, a, cell, by rw [hvm.findClass]; exact h1, hi', h3, by rw [he]; exact h4, h5, h6, h7, h8, by rw [he]; exact h9, h10⟩
theorem vx_L.kept {C n d : String} {A : Nat → Prop} {U : State} {H H1 : Heap} (h : vx_L C n d A U H) (hq : ∀ a : Nat, a < H.size → ¬ A a → H1[a]? = H[a]?) : vx_L C n d A U H1 := by
  obtain ⟨c, k, i, f, a, cell, h1, h2, h3, h4, h5, h6, h7, h8, h9, h10⟩ := h
  exact ⟨c, k, i, f, a, cell, h1, h2, h3, h4, by rw [hq a (Array.getElem?_eq_some_iff.mp h5).1 h10]; exact h5, h6, h7, h8, h9, h10⟩
theorem vx_L.narrow {C n d : String} {A B : Nat → Prop} {U : State} {H : Heap} (h : vx_L C n d A U H) (hAB : ∀ q, B q → A q) : vx_L C n d B U H := by
  obtain ⟨c, k, i, f, a, cell, h1, h2, h3, h4, h5, h6, h7, h8, h9, h10⟩ := h
  exact ⟨c, k, i, f, a, cell, h1, h2, h3, h4, h5, h6, h7, h8, h9, fun z => h10 (hAB _ z)⟩
theorem vx_L.word {C n d : String} {A : Nat → Prop} {s : State} {args : Array Value} (h : vx_L C n d A s s.heap) : (Cond.laysStatic C n d).before args s = true := by
  obtain ⟨c, k, i, f, a, cell, h1, h2, h3, h4, h5, h6, h7, h8, h9, -⟩ := h
  show (Cond.laysStatic C n d).holds args s none s [] = true
  exact Cond.laysStatic_of h1 h2 h3 h4 h5 h6 h7 h8 h9
/-- .. and what it holds: null or some reference -/
def vx_Zq (C n d : String) (A : Nat → Prop) (U : State) (H : Heap) : Prop := va_Zq C n d A U H ∧ vx_L C n d A U H
theorem vx_Zq.moved {C n d : String} {A : Nat → Prop} {u U : State} {H : Heap} (hvm : u.vm.Alike U.vm) (h : vx_Zq C n d A u H) : vx_Zq C n d A U H := ⟨va_Zq.moved hvm h.1, vx_L.moved hvm h.2⟩
theorem vx_Zq.kept {C n d : String} {A : Nat → Prop} {U : State} {H H1 : Heap} (h : vx_Zq C n d A U H) (hq : ∀ a : Nat, a < H.size → ¬ A a → H1[a]? = H[a]?) : vx_Zq C n d A U H1 := ⟨va_Zq.kept h.1 hq, vx_L.kept h.2 hq⟩
theorem vx_Zq.narrow {C n d : String} {A B : Nat → Prop} {U : State} {H : Heap} (h : vx_Zq C n d A U H) (hAB : ∀ q, B q → A q) : vx_Zq C n d B U H := ⟨va_Zq.narrow h.1 hAB, vx_L.narrow h.2 hAB⟩
theorem vx_Zqof {args : Array Value} {s : State} {C n d : String} {A : Nat → Prop} (hl : (Cond.laysStatic C n d).before args s = true) (hini : (Cond.initialized C).before args s = true) (h : (Cond.isRef (.static C n d)).before args s = true) (hA : ∀ a : Nat, a < s.heap.size → ¬ A a) : vx_Zq C n d A s s.heap := by
  refine ⟨va_Zqof hl hini h hA, ?_⟩
  obtain ⟨c, k, i, f, a, cell, h1, h2, h3, h4, h5, h6, h7, h8, h9⟩ := Cond.laysStatic_spec hl
  exact ⟨c, k, i, f, a, cell, h1, h2, h3, h4, h5, h6, h7, h8, h9, hA a (Array.getElem?_eq_some_iff.mp h5).1⟩
theorem vx_isRef {C n d : String} {v : Value} {A : Nat → Prop} {s : State} {args : Array Value} (h : va_Z C n d v A s s.heap) (hv : v.isRef = true) : (Cond.isRef (.static C n d)).before args s = true := by
  obtain ⟨cf, kf, fi, f, a, cell, h1, h2, h3, h4, h5, h6, h7, -⟩ := h
  have he : (Term.static C n d).eval args s none [] s = some v := by
    simp [Term.eval, State.fieldNamed?, h1, h2, h4, h5, h6, h7]
  simp only [Cond.before, Cond.holds, Cond.value, he]
  cases v <;> simp_all [Value.isRef]
theorem vx_isRefq {C n d : String} {A : Nat → Prop} {s : State} {args : Array Value} (h : va_Zq C n d A s s.heap) : (Cond.isRef (.static C n d)).before args s = true := by
  rcases h with h | ⟨t, h⟩
  · exact vx_isRef h rfl
  · exact vx_isRef h rfl
/-- the same frame, seen from here: as if the method were called anew in this heap -/
theorem vx_rebase {T : State} (X : Stand p l e R s m args below meth c T locs cells slots) {R' : Room} (hf : R'.frames ≤ R.frames) (hl : R'.locals ≤ R.locals) (hc : cells + R'.cells ≤ R.cells) (hs : slots + R'.slots ≤ R.slots) :
    Stand p l e R' ((T.setVm s.vm).setFrames (.invoking m args :: below)) m args below meth c T [] 0 0 := by
  have htop : (T.setVm s.vm).topJava?.isSome := X.here.top
  have hF : ((T.setVm s.vm).setFrames (.invoking m args :: below)).frames = .invoking m args :: below := State.frames_setFrames _ (State.cur_lt_of_top htop)
  obtain ⟨g₀, hg0⟩ := Option.isSome_iff_exists.mp htop
  obtain ⟨r, hr⟩ := State.topJava?_eq_some.mp hg0
  have hl9 : e.platform.stackLimits (T.setVm s.vm).me = e.platform.stackLimits s.me := X.limits
  have hb9 : (T.setVm s.vm).me.stackBytes = s.me.stackBytes := X.bytes
  refine ⟨X.admits, X.cas, X.clock, hF, ?_, X.hears, X.method, X.code, X.here, X.tail, X.warmed, ?_, ?_, ?_⟩
  · have h := X.room
    have hU : ((T.setVm s.vm).setFrames (.invoking m args :: below)).localsInUse = s.localsInUse := by
      rw [State.localsInUse_invoking hF (meth := meth) (c := c) X.method X.code, State.localsInUse_invoking X.frames X.method X.code]
    simp only [State.hasRoom, Bool.and_eq_true, decide_eq_true_eq] at h ⊢
    obtain ⟨⟨⟨⟨h1, h2, h3, h4, h5, h6⟩, h7⟩, h8⟩, h9⟩ := h
    rw [X.frames, List.length_cons] at h2 h3
    have q1 := X.heapSize
    have q2 := X.used
    simp only [hF, hU, List.length_cons, State.stackLimits_setFrames, State.stackBytes_setFrames, hl9, hb9]
    refine ⟨⟨⟨⟨by omega, by omega, by omega, by omega, by omega, h6⟩, ?_⟩, ?_⟩, X.book⟩
    · show T.heap.size + R'.cells ≤ e.platform.maxCells
      omega
    · show T.slotsUsed + R'.slots ≤ e.platform.maxSlots
      omega
  · rw [State.stackLimits_setFrames]; rfl
  · rw [State.stackBytes_setFrames]; rfl
  · refine ⟨?_, Nat.le_refl _, Nat.le_refl _, ?_, ?_, fun a c9 h9 => ⟨c9, h9, rfl, rfl, fun _ _ => rfl⟩⟩
    · obtain ⟨t, ht, -⟩ := State.frames_cons hr
      show T.setVm s.vm = { ((T.setVm s.vm).setFrames (.invoking m args :: below)).setFrames (T.setVm s.vm).frames with heap := T.heap, slotsUsed := T.slotsUsed }
      rw [State.setFrames_setFrames, State.setFrames_self ht]
      rfl
    · show T.slotsUsed = T.slotsUsed + ((T.heap.toList.drop T.heap.size).map (·.slots.size)).sum
      rw [List.drop_eq_nil_of_le (Nat.le_of_eq Array.length_toList)]
      rfl
    · show ((T.heap.toList.drop T.heap.size).map (·.slots.size)).sum ≤ 0
      rw [List.drop_eq_nil_of_le (Nat.le_of_eq Array.length_toList)]
      exact Nat.le_refl _
/-- 'throw new E()': new; dup; invokespecial; athrow -/
theorem vx_throw0 {cc : ByteArray} {pc : Nat} (hexec : p.tables.exec = Jvm.exec) (hb : c.code = cc) (hl : l.stackTraces = false) {own cls : String} {names : List String} {ik ic mc ms : Nat} {A : Nat → Prop}
    (hown : s.vm.findClass own = some m.cls) (hcls : Bundle.fit cls = true) (hnames : ∀ n ∈ names, Bundle.fit n = true)
    (hk : (Cond.classLink own ik cls).before args s = true) (hini : (Cond.initialized cls).before args s = true) (hat : ∀ w ∈ vx_at0 own ic cls names, w.before args s = true)
    (hgood : ∀ w ∈ Cond.classLink own ik cls :: Cond.initialized cls :: vx_at0 own ic cls names, vx_ot w = true)
    (hU : vx_Zq Bundle.tN "UNASSIGNED_STACK" Bundle.steD A s s.heap) (hN : vx_Zq Bundle.tN "SUPPRESSED_SENTINEL" Bundle.listD A s s.heap) (hS : va_S A s.heap H locs) (hsize : ls.size = c.maxLocals)
    (d0 : decode cc pc = .ok (.new ik, 3)) (d3 : decode cc (pc + 3) = .ok (.dup, 1)) (d4 : decode cc (pc + 4) = .ok (.invokespecial ic, 3)) (d7 : decode cc (pc + 7) = .ok (.athrow, 1))
    (hout : ∀ x ∈ c.exceptionTable.toList, covers x (pc + 7) = false)
    (hRframes : names.length + 3 < R.frames) (hRlocals : (rest.map fun v => v.category).sum + (13 * (names.length + 1) + 42) ≤ R.locals) (hRcells : cells + 1 ≤ R.cells) (hRslots : slots + 6 ≤ R.slots) (hlocks : meth.locks = false)
    (hx : ∀ t : State, s.vm.Alike t.vm → H.size ≤ t.heap.size → (∀ q : Nat, q < H.size → t.heap[q]? = H[q]?) → XC cls s t)
    (hf : ∀ z ∈ locs, free z.base) (hc : cells + 1 ≤ mc) (hs : slots + 6 ≤ ms) :
    W p l e R s m args below meth c H locs cells slots (vx_MQ below Qc XC args s mc ms free) (F0 m pc ls rest) := by
  intro T hT X
  have htr : e.platform.stackTraces = false := (show e.platform.stackTraces = l.stackTraces by rw [X.admits.platform]).trans hl
  have Y := vx_rebase X (R' := { frames := R.frames, locals := R.locals, cells := 1, slots := 6 }) (Nat.le_refl _) (Nat.le_refl _) hRcells hRslots
  obtain ⟨s', hA⟩ : ∃ z, z = (T.setVm s.vm).setFrames (.invoking m args :: below) := ⟨_, rfl⟩
  rw [← hA] at Y
  have hvm : s'.vm = s.vm := by rw [hA]; rfl
  have hhp : s'.heap = H := by rw [hA]; exact hT
  have hW0 : s.WarmedH s'.vm := by rw [hvm]; exact State.WarmedH.refl s
  have hat' : ∀ w ∈ vx_at0 own ic cls names, w.before args s' = true := fun w hw => vx_ot_at hW0 hvm.symm (hgood w (List.mem_cons_of_mem _ (List.mem_cons_of_mem _ hw))) (hat w hw)
  have hk' : (Cond.classLink own ik cls).before args s' = true := vx_ot_at hW0 hvm.symm (hgood _ List.mem_cons_self) hk
  have hini' : (Cond.initialized cls).before args s' = true := vx_ot_at hW0 hvm.symm (hgood _ (List.mem_cons_of_mem _ List.mem_cons_self)) hini
  have hU' : vx_Zq Bundle.tN "UNASSIGNED_STACK" Bundle.steD A s' s'.heap := by rw [hhp]; exact vx_Zq.moved hW0.alike (hU.kept hS.2.1)
  have hN' : vx_Zq Bundle.tN "SUPPRESSED_SENTINEL" Bundle.listD A s' s'.heap := by rw [hhp]; exact vx_Zq.moved hW0.alike (hN.kept hS.2.1)
  have h : ∀ w ∈ Bundle.ownAtoms0 own ic cls names, w.before args s' = true := vx_own hat' (vx_isRefq hU'.1) (vx_isRefq hN'.1) hU'.2.word hN'.2.word
  have hown' : s'.vm.findClass own = some m.cls := by rw [hvm]; exact hown
  have hins : (Cond.instantiable cls 6).before args s' = true := h _ (by simp [Bundle.ownAtoms0])
  obtain ⟨vm₁, cX, kX, hfX, hkX, -, -, X₁, st1⟩ := Y.newCold hexec (own := own) (C := cls) (index := ik) (n := 6) hown' hk' hins hini'
    (g := F0 m pc ls rest) rfl (by rw [hb]; exact d0) (Nat.le_refl _) (Nat.le_refl _)
  generalize hT1 : (T.setVm vm₁).pushCell { cls := cX, slots := kX.instanceTypes.map defaultValue, vm := .none } = T1 at X₁ st1
  have hcat : (Value.ref T.heap.size).category = 1 := rfl
  have hcellA : T1.heap[T.heap.size]? = some (freshCell cX kX) := by rw [← hT1]; exact State.heap_pushCell_size _ _
  have d3' : decode c.code (pc + 3) = .ok (.dup, 1) := by rw [hb]; exact d3
  obtain ⟨U, hsteps, hrun, hend, hW, hsame, ce, hce, hO⟩ := X₁.ctorThrow0 hexec htr (own := own) (cls := cls) (names := names) (ic := ic) hown' hcls hnames h (fun x hx => nomatch hx) hfX hkX hcellA (by rw [hhp, hT]; exact Nat.le_refl _)
    (g := { method := m, pc := pc + 4, locals := ls, stack := .ref T.heap.size :: .ref T.heap.size :: rest, locked := none }) rfl hsize rfl rfl (rest := rest) rfl
    (by rw [hb]; exact d4) (by rw [hb]; exact d7) hout hRframes (by simp only [List.map_cons, List.sum_cons, hcat]; omega) hlocks
  obtain ⟨f1, f2⟩ := vx_frame hsame
  rw [hhp] at f1 f2
  have hWs : s.WarmedH U.vm := State.WarmedH.trans hW0 hW
  have hcl : s.vm.findClass cls = some ce.cls := by
    have h9 := hO.cls
    rw [hvm] at h9
    exact h9
  have hall : s.sameButNew ({ U with vm := s.vm } : State) locs mc ms := by
    subst hA
    obtain ⟨e1, e2⟩ := hsame
    rw [State.setFrames_setFrames] at e1
    have h2 : (T.setVm s.vm).sameButNew ({ U with vm := s.vm } : State) [] (0 + 1) (0 + 6) := ⟨e1, e2⟩
    have h3 := X.same.trans h2
    rw [List.append_nil] at h3
    exact h3.mono hc hs
  refine ⟨U, ?_, .threw T.heap.size, hrun, hend, Or.inr ⟨T.heap.size, rfl, cls, ce, locs, hx U hWs.alike f1 (fun q hq => f2 q hq (fun z hz => nomatch hz)), hce, hO.vm, hcl, hWs, hall, hf⟩⟩
  refine st1 _ ?_
  show Steps p.tables e below (T1.setTop { method := m, pc := pc + 3, locals := ls, stack := .ref T.heap.size :: rest, locked := none }) _
  jvm_step X₁.here [X₁.here.top, hexec, d3', Value.category]
  exact hsteps
/-- 'throw new E("text")': new; dup; ldc; invokespecial; athrow -/
theorem vx_throwS {cc : ByteArray} {pc : Nat} (hexec : p.tables.exec = Jvm.exec) (hb : c.code = cc) (hl : l.stackTraces = false) {own cls text : String} {names : List String} {ik is ic mc ms sa : Nat} {A : Nat → Prop}
    (hown : s.vm.findClass own = some m.cls) (hcls : Bundle.fit cls = true) (hnames : ∀ n ∈ names, Bundle.fit n = true)
    (hk : (Cond.classLink own ik cls).before args s = true) (hini : (Cond.initialized cls).before args s = true) (hstr : vk_R own is text sa s) (hat : ∀ w ∈ vx_atS own ic cls names, w.before args s = true)
    (hgood : ∀ w ∈ Cond.classLink own ik cls :: Cond.initialized cls :: vx_atS own ic cls names, vx_ot w = true)
    (hU : vx_Zq Bundle.tN "UNASSIGNED_STACK" Bundle.steD A s s.heap) (hN : vx_Zq Bundle.tN "SUPPRESSED_SENTINEL" Bundle.listD A s s.heap) (hS : va_S A s.heap H locs) (hsize : ls.size = c.maxLocals)
    (d0 : decode cc pc = .ok (.new ik, 3)) (d3 : decode cc (pc + 3) = .ok (.dup, 1)) (d4 : decode cc (pc + 4) = .ok (.ldc is, 2)) (d6 : decode cc (pc + 6) = .ok (.invokespecial ic, 3)) (d9 : decode cc (pc + 9) = .ok (.athrow, 1))
    (hout : ∀ x ∈ c.exceptionTable.toList, covers x (pc + 9) = false)
    (hRframes : names.length + 3 < R.frames) (hRlocals : (rest.map fun v => v.category).sum + (13 * (names.length + 1) + 43) ≤ R.locals) (hRcells : cells + 1 ≤ R.cells) (hRslots : slots + 6 ≤ R.slots) (hlocks : meth.locks = false)
    (hx : ∀ t : State, s.vm.Alike t.vm → H.size ≤ t.heap.size → (∀ q : Nat, q < H.size → t.heap[q]? = H[q]?) → XC cls s t)
    (hf : ∀ z ∈ locs, free z.base) (hc : cells + 1 ≤ mc) (hs : slots + 6 ≤ ms) :
    W p l e R s m args below meth c H locs cells slots (vx_MQ below Qc XC args s mc ms free) (F0 m pc ls rest) := by
  intro T hT X
  have htr : e.platform.stackTraces = false := (show e.platform.stackTraces = l.stackTraces by rw [X.admits.platform]).trans hl
  have Y := vx_rebase X (R' := { frames := R.frames, locals := R.locals, cells := 1, slots := 6 }) (Nat.le_refl _) (Nat.le_refl _) hRcells hRslots
  obtain ⟨s', hA⟩ : ∃ z, z = (T.setVm s.vm).setFrames (.invoking m args :: below) := ⟨_, rfl⟩
  rw [← hA] at Y
  have hvm : s'.vm = s.vm := by rw [hA]; rfl
  have hhp : s'.heap = H := by rw [hA]; exact hT
  have hW0 : s.WarmedH s'.vm := by rw [hvm]; exact State.WarmedH.refl s
  have hat' : ∀ w ∈ vx_atS own ic cls names, w.before args s' = true := fun w hw => vx_ot_at hW0 hvm.symm (hgood w (List.mem_cons_of_mem _ (List.mem_cons_of_mem _ hw))) (hat w hw)
  have hk' : (Cond.classLink own ik cls).before args s' = true := vx_ot_at hW0 hvm.symm (hgood _ List.mem_cons_self) hk
  have hini' : (Cond.initialized cls).before args s' = true := vx_ot_at hW0 hvm.symm (hgood _ (List.mem_cons_of_mem _ List.mem_cons_self)) hini
  have hU' : vx_Zq Bundle.tN "UNASSIGNED_STACK" Bundle.steD A s' s'.heap := by rw [hhp]; exact vx_Zq.moved hW0.alike (hU.kept hS.2.1)
  have hN' : vx_Zq Bundle.tN "SUPPRESSED_SENTINEL" Bundle.listD A s' s'.heap := by rw [hhp]; exact vx_Zq.moved hW0.alike (hN.kept hS.2.1)
  have h : ∀ w ∈ Bundle.ownAtoms own ic cls names, w.before args s' = true := vx_own hat' (vx_isRefq hU'.1) (vx_isRefq hN'.1) hU'.2.word hN'.2.word
  have hown' : s'.vm.findClass own = some m.cls := by rw [hvm]; exact hown
  have hins : (Cond.instantiable cls 6).before args s' = true := h _ (by simp [Bundle.ownAtoms])
  obtain ⟨vm₁, cX, kX, hfX, hkX, -, -, X₁, st1⟩ := Y.newCold hexec (own := own) (C := cls) (index := ik) (n := 6) hown' hk' hins hini'
    (g := F0 m pc ls rest) rfl (by rw [hb]; exact d0) (Nat.le_refl _) (Nat.le_refl _)
  generalize hT1 : (T.setVm vm₁).pushCell { cls := cX, slots := kX.instanceTypes.map defaultValue, vm := .none } = T1 at X₁ st1
  have hcat : (Value.ref T.heap.size).category = 1 := rfl
  have hcellA : T1.heap[T.heap.size]? = some (freshCell cX kX) := by rw [← hT1]; exact State.heap_pushCell_size _ _
  have d3' : decode c.code (pc + 3) = .ok (.dup, 1) := by rw [hb]; exact d3
  have d4' : decode c.code (pc + 4) = .ok (.ldc is, 2) := by rw [hb]; exact d4
  have hstr' : vk_R own is text sa s' := vk_R.warm hW0 hstr
  obtain ⟨U, hsteps, hrun, hend, hW, hsame, ce, hce, hO⟩ := X₁.ctorThrowS hexec htr (own := own) (cls := cls) (names := names) (ic := ic) hown' hcls hnames h (fun x hx => nomatch hx) hfX hkX hcellA (by rw [hhp, hT]; exact Nat.le_refl _) (msg := .ref sa) rfl
    (g := { method := m, pc := pc + 6, locals := ls, stack := .ref sa :: .ref T.heap.size :: .ref T.heap.size :: rest, locked := none }) rfl hsize rfl rfl (rest := rest) rfl
    (by rw [hb]; exact d6) (by rw [hb]; exact d9) hout hRframes (by simp only [List.map_cons, List.sum_cons, hcat]; omega) hlocks
  obtain ⟨f1, f2⟩ := vx_frame hsame
  rw [hhp] at f1 f2
  have hWs : s.WarmedH U.vm := State.WarmedH.trans hW0 hW
  have hcl : s.vm.findClass cls = some ce.cls := by
    have h9 := hO.cls
    rw [hvm] at h9
    exact h9
  have hall : s.sameButNew ({ U with vm := s.vm } : State) locs mc ms := by
    subst hA
    obtain ⟨e1, e2⟩ := hsame
    rw [State.setFrames_setFrames] at e1
    have h2 : (T.setVm s.vm).sameButNew ({ U with vm := s.vm } : State) [] (0 + 1) (0 + 6) := ⟨e1, e2⟩
    have h3 := X.same.trans h2
    rw [List.append_nil] at h3
    exact h3.mono hc hs
  refine ⟨U, ?_, .threw T.heap.size, hrun, hend, Or.inr ⟨T.heap.size, rfl, cls, ce, locs, hx U hWs.alike f1 (fun q hq => f2 q hq (fun z hz => nomatch hz)), hce, hO.vm, hcl, hWs, hall, hf⟩⟩
  refine st1 _ ?_
  show Steps p.tables e below (T1.setTop { method := m, pc := pc + 3, locals := ls, stack := .ref T.heap.size :: rest, locked := none }) _
  jvm_step X₁.here [X₁.here.top, hexec, d3', Value.category]
  exact X₁.ldcString hexec (own := own) (text := text) (index := is) (a := sa) hown' hstr'.1 hstr'.2
    (g := { method := m, pc := pc + 4, locals := ls, stack := .ref T.heap.size :: .ref T.heap.size :: rest, locked := none }) rfl d4' _ hsteps
/-- 'throw new E("text")', the text by a wide index -/
theorem vx_throwSW {cc : ByteArray} {pc : Nat} (hexec : p.tables.exec = Jvm.exec) (hb : c.code = cc) (hl : l.stackTraces = false) {own cls text : String} {names : List String} {ik is ic mc ms sa : Nat} {A : Nat → Prop}
    (hown : s.vm.findClass own = some m.cls) (hcls : Bundle.fit cls = true) (hnames : ∀ n ∈ names, Bundle.fit n = true)
    (hk : (Cond.classLink own ik cls).before args s = true) (hini : (Cond.initialized cls).before args s = true) (hstr : vk_R own is text sa s) (hat : ∀ w ∈ vx_atS own ic cls names, w.before args s = true)
    (hgood : ∀ w ∈ Cond.classLink own ik cls :: Cond.initialized cls :: vx_atS own ic cls names, vx_ot w = true)
    (hU : vx_Zq Bundle.tN "UNASSIGNED_STACK" Bundle.steD A s s.heap) (hN : vx_Zq Bundle.tN "SUPPRESSED_SENTINEL" Bundle.listD A s s.heap) (hS : va_S A s.heap H locs) (hsize : ls.size = c.maxLocals)
    (d0 : decode cc pc = .ok (.new ik, 3)) (d3 : decode cc (pc + 3) = .ok (.dup, 1)) (d4 : decode cc (pc + 4) = .ok (.ldc_w is, 3)) (d7 : decode cc (pc + 7) = .ok (.invokespecial ic, 3)) (d10 : decode cc (pc + 10) = .ok (.athrow, 1))
    (hout : ∀ x ∈ c.exceptionTable.toList, covers x (pc + 10) = false)
    (hRframes : names.length + 3 < R.frames) (hRlocals : (rest.map fun v => v.category).sum + (13 * (names.length + 1) + 43) ≤ R.locals) (hRcells : cells + 1 ≤ R.cells) (hRslots : slots + 6 ≤ R.slots) (hlocks : meth.locks = false)
    (hx : ∀ t : State, s.vm.Alike t.vm → H.size ≤ t.heap.size → (∀ q : Nat, q < H.size → t.heap[q]? = H[q]?) → XC cls s t)
    (hf : ∀ z ∈ locs, free z.base) (hc : cells + 1 ≤ mc) (hs : slots + 6 ≤ ms) :
    W p l e R s m args below meth c H locs cells slots (vx_MQ below Qc XC args s mc ms free) (F0 m pc ls rest) := by
  intro T hT X
  have htr : e.platform.stackTraces = false := (show e.platform.stackTraces = l.stackTraces by rw [X.admits.platform]).trans hl
  have Y := vx_rebase X (R' := { frames := R.frames, locals := R.locals, cells := 1, slots := 6 }) (Nat.le_refl _) (Nat.le_refl _) hRcells hRslots
  obtain ⟨s', hA⟩ : ∃ z, z = (T.setVm s.vm).setFrames (.invoking m args :: below) := ⟨_, rfl⟩
  rw [← hA] at Y
  have hvm : s'.vm = s.vm := by rw [hA]; rfl
  have hhp : s'.heap = H := by rw [hA]; exact hT
  have hW0 : s.WarmedH s'.vm := by rw [hvm]; exact State.WarmedH.refl s
  have hat' : ∀ w ∈ vx_atS own ic cls names, w.before args s' = true := fun w hw => vx_ot_at hW0 hvm.symm (hgood w (List.mem_cons_of_mem _ (List.mem_cons_of_mem _ hw))) (hat w hw)
  have hk' : (Cond.classLink own ik cls).before args s' = true := vx_ot_at hW0 hvm.symm (hgood _ List.mem_cons_self) hk
  have hini' : (Cond.initialized cls).before args s' = true := vx_ot_at hW0 hvm.symm (hgood _ (List.mem_cons_of_mem _ List.mem_cons_self)) hini
  have hU' : vx_Zq Bundle.tN "UNASSIGNED_STACK" Bundle.steD A s' s'.heap := by rw [hhp]; exact vx_Zq.moved hW0.alike (hU.kept hS.2.1)
  have hN' : vx_Zq Bundle.tN "SUPPRESSED_SENTINEL" Bundle.listD A s' s'.heap := by rw [hhp]; exact vx_Zq.moved hW0.alike (hN.kept hS.2.1)
  have h : ∀ w ∈ Bundle.ownAtoms own ic cls names, w.before args s' = true := vx_own hat' (vx_isRefq hU'.1) (vx_isRefq hN'.1) hU'.2.word hN'.2.word
  have hown' : s'.vm.findClass own = some m.cls := by rw [hvm]; exact hown
  have hins : (Cond.instantiable cls 6).before args s' = true := h _ (by simp [Bundle.ownAtoms])
  obtain ⟨vm₁, cX, kX, hfX, hkX, -, -, X₁, st1⟩ := Y.newCold hexec (own := own) (C := cls) (index := ik) (n := 6) hown' hk' hins hini'
    (g := F0 m pc ls rest) rfl (by rw [hb]; exact d0) (Nat.le_refl _) (Nat.le_refl _)
  generalize hT1 : (T.setVm vm₁).pushCell { cls := cX, slots := kX.instanceTypes.map defaultValue, vm := .none } = T1 at X₁ st1
  have hcat : (Value.ref T.heap.size).category = 1 := rfl
  have hcellA : T1.heap[T.heap.size]? = some (freshCell cX kX) := by rw [← hT1]; exact State.heap_pushCell_size _ _
  have d3' : decode c.code (pc + 3) = .ok (.dup, 1) := by rw [hb]; exact d3
  have d4' : decode c.code (pc + 4) = .ok (.ldc_w is, 3) := by rw [hb]; exact d4
  have hstr' : vk_R own is text sa s' := vk_R.warm hW0 hstr
  obtain ⟨U, hsteps, hrun, hend, hW, hsame, ce, hce, hO⟩ := X₁.ctorThrowS hexec htr (own := own) (cls := cls) (names := names) (ic := ic) hown' hcls hnames h (fun x hx => nomatch hx) hfX hkX hcellA (by rw [hhp, hT]; exact Nat.le_refl _) (msg := .ref sa) rfl
    (g := { method := m, pc := pc + 7, locals := ls, stack := .ref sa :: .ref T.heap.size :: .ref T.heap.size :: rest, locked := none }) rfl hsize rfl rfl (rest := rest) rfl
    (by rw [hb]; exact d7) (by rw [hb]; exact d10) hout hRframes (by simp only [List.map_cons, List.sum_cons, hcat]; omega) hlocks
  obtain ⟨f1, f2⟩ := vx_frame hsame
  rw [hhp] at f1 f2
  have hWs : s.WarmedH U.vm := State.WarmedH.trans hW0 hW
  have hcl : s.vm.findClass cls = some ce.cls := by
    have h9 := hO.cls
    rw [hvm] at h9
    exact h9
  have hall : s.sameButNew ({ U with vm := s.vm } : State) locs mc ms := by
    subst hA
    obtain ⟨e1, e2⟩ := hsame
    rw [State.setFrames_setFrames] at e1
    have h2 : (T.setVm s.vm).sameButNew ({ U with vm := s.vm } : State) [] (0 + 1) (0 + 6) := ⟨e1, e2⟩
    have h3 := X.same.trans h2
    rw [List.append_nil] at h3
    exact h3.mono hc hs
  refine ⟨U, ?_, .threw T.heap.size, hrun, hend, Or.inr ⟨T.heap.size, rfl, cls, ce, locs, hx U hWs.alike f1 (fun q hq => f2 q hq (fun z hz => nomatch hz)), hce, hO.vm, hcl, hWs, hall, hf⟩⟩
  refine st1 _ ?_
  show Steps p.tables e below (T1.setTop { method := m, pc := pc + 3, locals := ls, stack := .ref T.heap.size :: rest, locked := none }) _
  jvm_step X₁.here [X₁.here.top, hexec, d3', Value.category]
  exact X₁.ldcStringW hexec (own := own) (text := text) (index := is) (a := sa) hown' hstr'.1 hstr'.2
    (g := { method := m, pc := pc + 4, locals := ls, stack := .ref T.heap.size :: .ref T.heap.size :: rest, locked := none }) rfl d4' _ hsteps
end Ends
section Bodies
variable {l : Launch}
theorem vx_ofW {y : MethodName} {ws ws' : List Cond} {rm : Room} {Pc : Array Value → State → Prop} {Qc : Array Value → State → Outcome → State → Prop} {XC : String → State → State → Prop} {mc ms : Nat} {free : Addr → Prop} {cc : ByteArray} {maxL : Nat} {ret : Option FieldType}
    (hy : plainName y.cls = true) (hw : ws = Cond.code y cc maxL ret :: ws')
    (body : ∀ p e s m args below meth c s₁, BodyLoose p l y (headSpec ws rm) cc maxL ret e s m args below meth c s₁ → c.maxLocals = maxL → (∀ x ∈ c.exceptionTable.toList, False) → Pc args s →
      W p l e (headSpec ws rm).room s m args below meth c s.heap [] 0 0 (vx_MQ below Qc XC args s mc ms free) (entryFrame m args maxL)) : vx_Met l y ws rm Pc Qc XC mc ms free := by
  refine MetFree.of_bodyS (code := cc) (maxLocals := maxL) (ret := ret) hy ?_ ?_
  · intro args s m h hn
    obtain ⟨meth, c, h1, h2, h3, h4, h5, h6, -, -⟩ := Cond.code_spec hn (atoms_spec (ws := ws) h _ (by rw [hw]; exact List.mem_cons_self))
    exact ⟨meth, c, h1, h2, h3, h4, h5, h6⟩
  · intro p e s m args below meth c s₁ B hml hP _
    have hh0 : s₁.heap = s.heap := by rw [B.state]; rfl
    have ht : ∀ x ∈ c.exceptionTable.toList, False := by
      obtain ⟨meth9, c9, h1, h2, -, -, -, -, h7, -⟩ := Cond.code_spec B.named (atoms_spec (ws := ws) B.pre _ (by rw [hw]; exact List.mem_cons_self))
      cases Option.some.inj (h1.symm.trans B.method)
      cases Option.some.inj (h2.symm.trans (Stand.of_body B).code)
      intro x hx
      rw [Array.isEmpty_iff.mp h7] at hx
      cases hx
    obtain ⟨t, a1, o, b1, b2, b3⟩ := body p e s m args below meth c s₁ B hml ht hP s₁ hh0 (Stand.of_body B)
    exact ⟨t, o, a1, b1, b2, b3⟩
/-- the table of a body with handlers -/
theorem vx_table {p : Program} {x y : MethodName} {S : Spec} {cc bytes : ByteArray} {maxL maxL' : Nat} {ret ret' : Option FieldType} {e : Env} {s s₁ : State} {m : MethodId} {args : Array Value} {below : List Frame} {meth : Method} {c : Code} {hh : List (Nat × Nat × Nat × Nat)}
    (B : BodyLoose p l y S cc maxL ret e s m args below meth c s₁) (h : (Cond.codeWith y bytes maxL' ret' hh).before args s = true) : c.exceptionTable.toList = tableOf hh := by
  obtain ⟨m9, meth9, c9, hn9, h1, h2, -, -, h6, -⟩ := Cond.codeWith_spec h
  cases Option.some.inj (hn9.symm.trans B.named)
  cases Option.some.inj (h1.symm.trans B.method)
  cases Option.some.inj (h2.symm.trans (Stand.of_body B).code)
  rw [← h6, table_eq]
end Bodies
end VXA
/-! ===== END ===== -/
/-! ===== BEGIN a static call of a method with an exception table ===== -/
section VXS
variable {p : Program} {l : Launch} {e : Env} {R : Room} {s : State} {m : MethodId} {args : Array Value} {below : List Frame} {meth : Method} {c : Code} {T : State} {H : Heap} {locs : List Loc} {cells slots : Nat}
abbrev vx_CSW (R : Room) (s : State) (args : Array Value) (own : String) (index : Nat) (y : MethodName) (bytes : ByteArray) (maxL : Nat) (ret : Option FieldType) (hh : List (Nat × Nat × Nat × Nat)) (ws : List Cond) (rm : Room) (mc ms n : Nat) : Prop :=
  (rm.cells = mc ∧ rm.slots = ms ∧ rm.frames + 1 ≤ R.frames ∧ 8 + (maxL + 11) + rm.locals ≤ R.locals ∧ (∀ w ∈ ws, ∀ (a' : Array Value) (U : State), s.WarmedH U.vm → w.before a' U = true) ∧ Cond.codeWith y bytes maxL ret hh ∈ ws) ∧
  (Cond.codeWith y bytes maxL ret hh).before args s = true ∧ (Cond.initialized y.cls).before args s = true ∧ (y.cls ≠ "java/lang/invoke/MethodHandle" ∧ y.cls ≠ "java/lang/invoke/VarHandle") ∧
  (∀ sig, parseMethodDescriptor y.desc = some sig → n = sig.parameters.length) ∧ (Cond.methodLink own index y).before args s = true ∧ (Cond.static y).before args s = true
theorem vx_cwSW {own : String} {index maxL mc ms : Nat} {y : MethodName} {bytes : ByteArray} {ret : Option FieldType} {hh : List (Nat × Nat × Nat × Nat)} {Ts ws ws' : List Cond} {rm : Room} (n : Nat) (ht : ∀ w ∈ Ts, w.before args s = true) (hT : GoodIn Ts (va_wsS own index y ws)) (hw : ws = Cond.codeWith y bytes maxL ret hh :: ws') (hrc : rm.cells = mc) (hrs : rm.slots = ms)
    (hd : y.cls ≠ "java/lang/invoke/MethodHandle" ∧ y.cls ≠ "java/lang/invoke/VarHandle" ∧ (parseMethodDescriptor y.desc).map (fun d => d.parameters.length) = some n) (hR : rm.frames + 1 ≤ R.frames ∧ 8 + (maxL + 11) + rm.locals ≤ R.locals) :
    vx_CSW R s args own index y bytes maxL ret hh ws rm mc ms n := by
  have ok : ∀ w ∈ va_wsS own index y ws, w.before args s = true := fun w h => ht w (hT w h).1
  have hG : GoodIn Ts ws := fun w h => hT w (by unfold va_wsS; exact List.mem_append_right _ h)
  have hc : Cond.codeWith y bytes maxL ret hh ∈ ws := by rw [hw]; exact List.mem_cons_self
  refine ⟨⟨hrc, hrs, hR.1, hR.2, pay_in ht hG, hc⟩, ht _ (hG _ hc).1, ok _ (by simp [va_wsS]), ⟨hd.1, hd.2.1⟩, fun sig h => ?_, ok _ (by simp [va_wsS]), ok _ (by simp [va_wsS])⟩
  have h2 := hd.2.2
  rw [h] at h2
  exact (Option.some.inj h2).symm
theorem vx_callSW (X : Stand p l e R s m args below meth c T locs cells slots) (hexec : p.tables.exec = Jvm.exec) {own : String} {index : Nat} {y : MethodName} {bytes : ByteArray} {maxL : Nat} {ret : Option FieldType} {hh : List (Nat × Nat × Nat × Nat)}
    (hown : s.vm.findClass own = some m.cls) (hlink : (Cond.methodLink own index y).before args s = true) (hstat : (Cond.static y).before args s = true) (hinit : (Cond.initialized y.cls).before args s = true)
    (hcode : (Cond.codeWith y bytes maxL ret hh).before args s = true) (hy : y.cls ≠ "java/lang/invoke/MethodHandle" ∧ y.cls ≠ "java/lang/invoke/VarHandle")
    {W9 : Nat} {Pre : Pt → Array Value → Prop} {Post : Pt → Array Value → Option Value → Pt → Prop} (hK : Back l R p e below s args y 3 W9 Pre Post)
    {g : JFrame} (hg : g.method = m) (hsize : g.locals.size = c.maxLocals) {argsL rest : List Value} (hlen : ∀ sig, parseMethodDescriptor y.desc = some sig → argsL.length = sig.parameters.length)
    (hstack : g.stack = argsL.reverse ++ rest) (hW : 2 * g.monitorRoom + (rest.map fun v => v.category).sum ≤ W9) (hdg : decode c.code g.pc = .ok (.invokestatic index, 3))
    (hpre : ∀ vm₁, s.WarmedH vm₁ → Pre ⟨T.setVm vm₁, locs, cells, slots⟩ argsL.toArray) :
    ∃ (v : Option Value) (vm₁ : Vm) (B : Pt), s.WarmedH vm₁ ∧ Stand p l e R s m args below meth c B.U B.locs B.cells B.slots ∧ Post ⟨T.setVm vm₁, locs, cells, slots⟩ argsL.toArray v B ∧
      ∀ target, Steps p.tables e below (B.U.setTop { g with pc := g.pc + 3, stack := v.toList ++ rest }) target → Steps p.tables e below (T.setTop g) target := by
  obtain ⟨mk, methM, cM, hnamed, hmethM, -, -, -, -, -, -, hsigM⟩ := Cond.codeWith_spec hcode
  have hstatic : methM.isStatic = true := Cond.static_spec hnamed hmethM hstat
  obtain ⟨kP, hkP, -⟩ := className_of_methodNamed hnamed
  have hinitP : kP.init = .initialized := Cond.initialized_spec (findClass_of_methodNamed hnamed) hkP hinit
  obtain ⟨vm₁, X₁, hstep₁⟩ := X.invokestatic hexec hown hlink hnamed hmethM hstatic hkP hinitP hy (g := g) hg (argsL := argsL) (rest := rest) (hlen _ hsigM) hstack hdg
  obtain ⟨v, B, X', hpost, hsteps⟩ := hK m meth c ⟨T.setVm vm₁, locs, cells, slots⟩ { g with stack := rest } (.invokestatic index) mk argsL.toArray X₁ hg hsize hdg hW (X₁.named hnamed) (hpre vm₁ X₁.warmed)
  exact ⟨v, vm₁, B, X₁.warmed, X', hpost, fun target h => hstep₁ _ fun acts => by rw [doInvoke_state]; exact hsteps.trans h⟩
theorem vx_runSW {y : MethodName} {bytes cc : ByteArray} {maxL nL mc ms n index : Nat} {ret : Option FieldType} {hh : List (Nat × Nat × Nat × Nat)} {ws : List Cond} {rm : Room} {Pc : Array Value → State → Prop} {Qc : Array Value → State → Outcome → State → Prop} {free : Addr → Prop} {Ts : List Cond} {own : String} {As rest : List Value} {g : JFrame}
    (S : CallFix p m c cc nL s args Ts own) (hM : Met l y ws rm Pc Qc mc ms free) (cw : vx_CSW R s args own index y bytes maxL ret hh ws rm mc ms n) (hp : PreS s H Pc As)
    (hg : g.method = m) (hn : As.length = n) (hsize : g.locals.size = nL) (hstack : g.stack = As.reverse ++ rest) (hW : 2 * g.monitorRoom + (rest.map fun v => v.category).sum ≤ 8) (hdg : decode cc g.pc = .ok (.invokestatic index, 3)) (hf : cells + mc ≤ R.cells ∧ slots + ms ≤ R.slots) :
    va_Run p l e R s m args below meth c H locs cells slots mc ms g rest (Qc As.toArray) (free) := by
  obtain ⟨⟨hrc, hrs, hfr, hlo, hws, hcw⟩, hcode, hini, hy, hlen, hl, hstt⟩ := cw
  have hK : Back l R p e below s args y 3 8 (PreOf R mc ms Pc) (PostOf Qc mc ms free) := va_backW (hh := hh) (bytes := bytes) (maxL := maxL) (ret := ret) hM hp.1 hrc hrs hfr hlo hws hcw (fun a' U hW => word_at hW (Or.inl (by first | rfl | simp [Cond.onTables, Cond.keeps, Cond.steady])) hini)
  obtain ⟨hx, hb, hml, ho, -⟩ := S
  intro T hT X
  obtain ⟨v, vm₁, ⟨U', l2, c2, s2⟩, hW₁, X', ⟨g', mk, t, L, e1, e2, hq, h1, hL, h2, h3⟩, st⟩ := vx_callSW X hx (hh := hh) (bytes := bytes) (maxL := maxL) (ret := ret) ho hl hstt hini hcode hy hK hg (hsize.trans hml.symm) (argsL := As) (rest := rest) (fun sig h => hn.trans (hlen sig h)) hstack hW (by rw [hb]; exact hdg)
    (fun vm₁ hW₁ => ⟨hf.1, hf.2, hp.2 (T.setVm vm₁) hT hW₁⟩)
  dsimp only [Pt.U, Pt.locs, Pt.cells, Pt.slots] at X' e1 e2 h1 h2 h3 st
  subst h1; subst h2; subst h3
  exact ⟨v, (T.setVm vm₁).calling g' mk As.toArray, t, U', L, hT, X', hL, e1, e2, hq, st⟩
/-- not caught here, past rows that name other classes: it goes on to the caller -/
theorem vx_outP {p : Program} {l : Launch} {e : Env} {R : Room} {s : State} {m : MethodId} {args : Array Value} {below : List Frame} {meth : Method} {c : Code} {H : Heap} {locs : List Loc} {cells slots : Nat} {free : Addr → Prop} {ls : Array Slot} {rest : List Value} {Qc : Array Value → State → Outcome → State → Prop} {XC : String → State → State → Prop}
    {pc : Nat} {own E : String} {ce : Cell} {q : Addr} {mc ms : Nat} (hown : s.vm.findClass own = some m.cls) (hlocks : meth.locks = false)
    (hpass : ∀ z ∈ c.exceptionTable.toList, covers z pc = false ∨ (z.catchType ≠ 0 ∧ ∃ nm : String, (Cond.classLink own z.catchType nm).before args s = true ∧ va_Nc E nm s)) (hcell : H[q]? = some ce) (hv : ce.vm = .none) (hcl : s.vm.findClass E = some ce.cls)
    (hx : ∀ t : State, t.heap = H → s.vm.Alike t.vm → XC E s t) (hf : ∀ z ∈ locs, free z.base) (hc : cells ≤ mc) (hs : slots ≤ ms) :
    vx_W p l e R s m args below meth c H locs cells slots (vx_MQ below Qc XC args s mc ms free) (F0 m pc ls rest) q := by
  intro T hT X
  have hpl : e.platform.magicAccessors = ({} : Platform).magicAccessors := by rw [X.admits.platform]
  obtain ⟨vm', hW', X', st⟩ := X.outThrough hlocks q (g := F0 m pc ls rest) rfl rfl rfl (cell := ce) (by rw [hT]; exact hcell) (by rw [hv]; rfl)
    (by obtain ⟨k9, h9, -⟩ := Vm.findClass_spec hcl; exact ⟨k9, h9⟩) (fun z hz => by
      rcases hpass z hz with h | ⟨hz0, nm, hl1, hn1⟩
      · exact Or.inl h
      · obtain ⟨c6, hc6, hcl6⟩ := Cond.classLink_spec hown hl1 e.platform hpl
        obtain ⟨a8, b8, h1, h2, h3⟩ := hn1
        cases Option.some.inj (h1.symm.trans hcl)
        cases Option.some.inj (h2.symm.trans hc6)
        exact Or.inr ⟨hz0, _, hcl6, h3⟩)
  obtain ⟨g₀, hfr⟩ := X'.frames_eq
  have hcell9 : ((T.setVm vm').setFrames (.throwing q :: below)).heap[q]? = some ce := by
    show T.heap[q]? = some ce
    rw [hT]; exact hcell
  have hend : Ended ((T.setVm vm').setFrames (.throwing q :: below)) below (.threw q) := State.frames_setFrames _ (State.cur_lt_of_frames hfr)
  refine ⟨(T.setVm vm').setFrames (.throwing q :: below), ?_, .threw q, X'.here.running, hend, Or.inr ⟨q, rfl, E, ce, locs, hx _ hT (X'.ends _).1.alike, hcell9, hv, hcl, (X'.ends _).1, (X'.ends _).2.mono hc hs, hf⟩⟩
  rw [X.pushThrowing_eq]
  exact st
/-- a thing of a world lies in the heap -/
theorem vx_lt {D : va_G} {cl : List vw_C} {ws : va_W} {H1 : Heap} (h : va_P D cl ws H1) {k : Nat} {q : Nat × va_E} (hk : ws[k]? = some q) : q.1 < H1.size := (h k q hk).lt
end VXS
/-! ===== END ===== -/
/-! ===== BEGIN methods with a table of their own: called by a name, returning or throwing ===== -/
section VXH
/-! vx_backW, vx_callVX, vx_callSX, vx_callVW, vx_runVW, vx_runVX, vx_runSX, vx_ofWH follow the same proofs as their sisters above (Free/Laws.lean, Shelf42/LK1.lean); vx_outP calls Shelf42/NT130.lean (outThrough). -/
section
variable {l : Launch} {R : Room} {p : Program} {e : Env} {below : List Frame} {s : State} {sargs : Array Value} {y : MethodName} {len W9 : Nat}
theorem vx_backW {ws : List Cond} {rm : Room} {Pc : Array Value → State → Prop} {Qc : Array Value → State → Outcome → State → Prop} {XC : String → State → State → Prop} {mc ms : Nat} {free : Addr → Prop} {bytes : ByteArray} {maxL : Nat} {ret : Option FieldType} {hh : List (Nat × Nat × Nat × Nat)}
    (hM : vx_Met l y ws rm Pc Qc XC mc ms free) (hblind : FrameBlind Pc) (hrc : rm.cells = mc) (hrs : rm.slots = ms)
    (hframes : rm.frames + 1 ≤ R.frames) (hlocals : W9 + (maxL + 11) + rm.locals ≤ R.locals)
    (hws : ∀ w ∈ ws, ∀ a' U, s.WarmedH U.vm → w.before a' U = true) (hcode : Cond.codeWith y bytes maxL ret hh ∈ ws) (hinit : ∀ a' U, s.WarmedH U.vm → (Cond.initialized y.cls).before a' U = true) :
    vx_Back l R p e below s sargs y len W9 (PreOf R mc ms Pc) (PostOf Qc mc ms free) (vx_Post XC mc ms free) := by
  intro m meth c A g ig mk a X hg hsize hdg hW hn hp
  have h1 : (headSpec ws rm).pre.before a A.U = true := atoms_intro fun w hw => hws w hw _ _ X.warmed
  have h2 : (Cond.codeWith y bytes maxL ret hh).before a A.U = true := hws _ hcode _ _ X.warmed
  have h3 : (Cond.initialized y.cls).before a A.U = true := hinit _ _ X.warmed
  have h4 : A.cells + (headSpec ws rm).room.cells ≤ R.cells := by rw [show (headSpec ws rm).room.cells = mc from hrc]; exact hp.1
  have h5 : A.slots + (headSpec ws rm).room.slots ≤ R.slots := by rw [show (headSpec ws rm).room.slots = ms from hrs]; exact hp.2.1
  have hPc : Pc a (A.U.calling g mk a) := hblind _ _ _ _ hp.2.2
  obtain ⟨U, Ls, c0, s0⟩ := A
  dsimp only [Pt.U, Pt.locs, Pt.cells, Pt.slots] at h1 h2 h3 h4 h5 X hn hPc ⊢
  obtain ⟨m9, methY, cY, hn9, hmY, hcY, -, hlY, -⟩ := Cond.codeWith_spec h2
  cases Option.some.inj (hn9.symm.trans hn)
  obtain ⟨kY, hkY, -⟩ := className_of_methodNamed hn
  have hinitY : kY.init = .initialized := Cond.initialized_spec (findClass_of_methodNamed hn) hkY h3
  have h : At U g.method c below := by rw [hg]; exact X.here
  have hlocals9 : W9 + (maxL + 11) + (headSpec ws rm).room.locals ≤ R.locals := hlocals
  have happ : (headSpec ws rm).appliesLoose y e.platform (U.calling g mk a) = true :=
    Spec.appliesLoose_calling (g := g) h hdg hn hkY hinitY
      (X.room_calling (g := g) (R' := (headSpec ws rm).room) hsize hmY hcY hframes (by rw [hlY]; omega) h4 h5) h1
  obtain ⟨mid, hmid⟩ := h.above
  have hfr : (U.setTop g).frames = (.java g :: mid) ++ below := by rw [State.frames_setTop' g h.top, hmid]; rfl
  obtain ⟨o, s₂, hsteps, -, hend, hq⟩ := Steps.callFree hM p X.admits X.cas X.clock (acts := []) hfr happ hPc trivial
  have hq' : vx_Q Qc XC mc ms free a (U.calling g mk a) o s₂ := hq
  rw [State.frames_setTop' g h.top] at hend
  obtain ⟨g₀, hg0⟩ := Option.isSome_iff_exists.mp h.top
  obtain ⟨r, hr⟩ := State.topJava?_eq_some.mp hg0
  have hr' : (({ U with heap := s₂.heap, slotsUsed := s₂.slotsUsed } : State).setVm s₂.vm).frames = .java g₀ :: r := hr
  rcases hq' with ⟨hqc, L, hfe, hL⟩ | ⟨q, rfl, E, ce, L, hx, hce, hcv, hcl, hW₂, hsm, hL⟩
  · obtain ⟨⟨v, rfl⟩, hW₂, e2, q2, q3, q4, q5, q6⟩ := id hfe
    have e3 : s₂ = ({ (U.calling g mk a).setFrames s₂.frames with heap := s₂.heap, slotsUsed := s₂.slotsUsed } : State).setVm s₂.vm := by
      have : s₂ = ({ s₂ with vm := (U.calling g mk a).vm } : State).setVm s₂.vm := rfl
      rw [e2] at this
      exact this
    obtain ⟨c₂, i₂, len₂, hc₂, hd₂, hf₂⟩ := hend
    have hW' : U.WarmedH s₂.vm := hW₂
    have hcc : c₂ = c := by
      have h1 : s₂.code? g.method = U.code? g.method := by
        rw [State.code?_eq, State.code?_eq, hW'.alike.method?]
      exact Option.some.inj (hc₂.symm.trans (h1.trans h.code))
    subst hcc
    have hlen : len₂ = len := by rw [hdg] at hd₂; cases hd₂; rfl
    subst hlen
    have hs₂ : s₂ = (({ U with heap := s₂.heap, slotsUsed := s₂.slotsUsed } : State).setVm s₂.vm).setTop { g with pc := g.pc + len₂, stack := v.toList ++ g.stack } := by
      refine e3.trans ?_
      rw [hf₂, State.calling_eq h.top, State.setFrames_setFrames, State.setTop_of_frames _ hr', hr]
      rfl
    have hsame : U.sameButNew ({ U with heap := s₂.heap, slotsUsed := s₂.slotsUsed } : State) L mc ms := by
      refine ⟨?_, q2, q3, q4, q5, q6⟩
      obtain ⟨t, ht, -⟩ := State.frames_cons hr
      show ({ U with heap := s₂.heap, slotsUsed := s₂.slotsUsed } : State) = { U.setFrames U.frames with heap := s₂.heap, slotsUsed := s₂.slotsUsed }
      rw [State.setFrames_self ht]
    subst hg
    refine Or.inl ⟨v, ⟨(({ U with heap := s₂.heap, slotsUsed := s₂.slotsUsed } : State).setVm s₂.vm), Ls ++ L, c0 + mc, s0 + ms⟩,
      ⟨X.admits, X.cas, X.clock, X.frames, X.room, X.hears, X.method, X.code, (X.here.setHeapUsed s₂.heap s₂.slotsUsed).setVm hW'.alike, X.tail, State.WarmedH.trans X.warmed hW', X.limits, X.bytes, X.same.trans (hsame.setVm s.vm)⟩,
      ⟨g, mk, s₂, L, rfl, rfl, hqc, rfl, hL, rfl, rfl⟩, ?_⟩
    show Steps p.tables e below _ ((({ U with heap := s₂.heap, slotsUsed := s₂.slotsUsed } : State).setVm s₂.vm).setTop { g with pc := g.pc + len₂, stack := v.toList ++ g.stack })
    rw [← hs₂]
    exact hsteps
  · obtain ⟨e2, q2, q3, q4, q5, q6⟩ := id hsm
    have e3 : s₂ = ({ (U.calling g mk a).setFrames s₂.frames with heap := s₂.heap, slotsUsed := s₂.slotsUsed } : State).setVm s₂.vm := by
      have : s₂ = ({ s₂ with vm := (U.calling g mk a).vm } : State).setVm s₂.vm := rfl
      rw [e2] at this
      exact this
    have hf₂ : s₂.frames = .throwing q :: .java g :: U.frames.tail := hend
    have hW' : U.WarmedH s₂.vm := hW₂
    have hs₂ : s₂ = ((({ U with heap := s₂.heap, slotsUsed := s₂.slotsUsed } : State).setVm s₂.vm).setTop g).pushFrame (.throwing q) := by
      refine e3.trans ?_
      rw [hf₂, State.calling_eq h.top, State.setFrames_setFrames, State.pushFrame, State.frames_setTop _ hr', State.setTop_of_frames _ hr', State.setFrames_setFrames, hr]
      rfl
    have hsame : U.sameButNew ({ U with heap := s₂.heap, slotsUsed := s₂.slotsUsed } : State) L mc ms := by
      refine ⟨?_, q2, q3, q4, q5, q6⟩
      obtain ⟨t, ht, -⟩ := State.frames_cons hr
      show ({ U with heap := s₂.heap, slotsUsed := s₂.slotsUsed } : State) = { U.setFrames U.frames with heap := s₂.heap, slotsUsed := s₂.slotsUsed }
      rw [State.setFrames_self ht]
    subst hg
    refine Or.inr ⟨q, ⟨(({ U with heap := s₂.heap, slotsUsed := s₂.slotsUsed } : State).setVm s₂.vm), Ls ++ L, c0 + mc, s0 + ms⟩,
      ⟨X.admits, X.cas, X.clock, X.frames, X.room, X.hears, X.method, X.code, (X.here.setHeapUsed s₂.heap s₂.slotsUsed).setVm hW'.alike, X.tail, State.WarmedH.trans X.warmed hW', X.limits, X.bytes, X.same.trans (hsame.setVm s.vm)⟩,
      ⟨g, mk, s₂, L, E, ce, rfl, rfl, hx, hce, hcv, hcl, rfl, hL, rfl, rfl⟩, ?_⟩
    show Steps p.tables e below _ (((({ U with heap := s₂.heap, slotsUsed := s₂.slotsUsed } : State).setVm s₂.vm).setTop g).pushFrame (.throwing q))
    rw [← hs₂]
    exact hsteps
end
variable {p : Program} {l : Launch} {e : Env} {R : Room} {s : State} {m : MethodId} {args : Array Value} {below : List Frame} {meth : Method} {c : Code} {T : State} {H : Heap} {locs : List Loc} {cells slots : Nat}
theorem vx_callVX (X : Stand p l e R s m args below meth c T locs cells slots) (hexec : p.tables.exec = Jvm.exec) {own C : String} {index : Nat} {y : MethodName} {bytes : ByteArray} {maxL : Nat} {ret : Option FieldType} {hh : List (Nat × Nat × Nat × Nat)}
    (hown : s.vm.findClass own = some m.cls) (hlink : (Cond.methodLink own index y).before args s = true) (hinst : (Cond.instanceMethod y).before args s = true) (hsel : (Cond.selects C y y).before args s = true)
    (hcode : (Cond.codeWith y bytes maxL ret hh).before args s = true) (hy : y.cls ≠ "java/lang/invoke/MethodHandle" ∧ y.cls ≠ "java/lang/invoke/VarHandle")
    {W9 : Nat} {Pre : Pt → Array Value → Prop} {Post : Pt → Array Value → Option Value → Pt → Prop} {PostX : Pt → Array Value → Addr → Pt → Prop} (hK : vx_Back l R p e below s args y 3 W9 Pre Post PostX)
    {b : Addr} {cellB : Cell} (hcell : T.heap[b]? = some cellB) (hobj : cellB.vm.isStatics = false) (hcls : s.vm.findClass C = some cellB.cls)
    {g : JFrame} (hg : g.method = m) (hsize : g.locals.size = c.maxLocals) {argsL rest : List Value} (hlen : ∀ sig, parseMethodDescriptor y.desc = some sig → argsL.length = sig.parameters.length)
    (hstack : g.stack = argsL.reverse ++ .ref b :: rest) (hW : 2 * g.monitorRoom + (rest.map fun v => v.category).sum ≤ W9) (hdg : decode c.code g.pc = .ok (.invokevirtual index, 3))
    (hpre : ∀ vm₁, s.WarmedH vm₁ → Pre ⟨T.setVm vm₁, locs, cells, slots⟩ (Value.ref b :: argsL).toArray) :
    (∃ (v : Option Value) (vm₁ : Vm) (B : Pt), s.WarmedH vm₁ ∧ Stand p l e R s m args below meth c B.U B.locs B.cells B.slots ∧ Post ⟨T.setVm vm₁, locs, cells, slots⟩ (Value.ref b :: argsL).toArray v B ∧
      ∀ target, Steps p.tables e below (B.U.setTop { g with pc := g.pc + 3, stack := v.toList ++ rest }) target → Steps p.tables e below (T.setTop g) target) ∨
    (∃ (q : Addr) (vm₁ : Vm) (B : Pt), s.WarmedH vm₁ ∧ Stand p l e R s m args below meth c B.U B.locs B.cells B.slots ∧ PostX ⟨T.setVm vm₁, locs, cells, slots⟩ (Value.ref b :: argsL).toArray q B ∧
      Steps p.tables e below (T.setTop g) ((B.U.setTop { g with stack := rest }).pushFrame (.throwing q))) := by
  obtain ⟨mk, methM, hnamed, hmethM, hstM, habM⟩ := Cond.instanceMethod_spec hinst
  obtain ⟨m8, methM', cM, hn8, hmethM', -, -, -, -, -, -, hsigM⟩ := Cond.codeWith_spec hcode
  cases Option.some.inj (hn8.symm.trans hnamed)
  cases hmethM.symm.trans hmethM'
  obtain ⟨c2, r2, m2, q1, q2, q3, q4, kP, hkP, hkPi⟩ := Cond.selects_spec hsel
  cases hcls.symm.trans q1
  cases (State.methodFound?_of_named hnamed hy).symm.trans q2
  cases hnamed.symm.trans q3
  have hselP : selectMethod e.platform s.vm cellB.cls mk = .method mk := by rw [Launch.admits_selectMethod X.admits]; exact q4
  obtain ⟨vm₁, X₁, hstep₁⟩ := X.invokevirtual hexec hown hlink hnamed hmethM hstM hkP hkPi hy (a := b) (cell := cellB) hcell
    (fun z h => by rw [h] at hobj; cases hobj) hselP hmethM habM hkP hkPi (g := g) hg (argsL := argsL) (rest := rest) (hlen _ hsigM) hstack hdg
  rcases hK m meth c ⟨T.setVm vm₁, locs, cells, slots⟩ { g with stack := rest } (.invokevirtual index) mk (Value.ref b :: argsL).toArray X₁ hg hsize hdg hW (X₁.named hnamed) (hpre vm₁ X₁.warmed) with ⟨v, B, X', hpost, hsteps⟩ | ⟨q, B, X', hpost, hsteps⟩
  · exact Or.inl ⟨v, vm₁, B, X₁.warmed, X', hpost, fun target h => hstep₁ _ fun acts => by rw [doInvoke_state]; exact hsteps.trans h⟩
  · exact Or.inr ⟨q, vm₁, B, X₁.warmed, X', hpost, hstep₁ _ fun acts => by rw [doInvoke_state]; exact hsteps⟩
theorem vx_callSX (X : Stand p l e R s m args below meth c T locs cells slots) (hexec : p.tables.exec = Jvm.exec) {own : String} {index : Nat} {y : MethodName} {bytes : ByteArray} {maxL : Nat} {ret : Option FieldType} {hh : List (Nat × Nat × Nat × Nat)}
    (hown : s.vm.findClass own = some m.cls) (hlink : (Cond.methodLink own index y).before args s = true) (hstat : (Cond.static y).before args s = true) (hinit : (Cond.initialized y.cls).before args s = true)
    (hcode : (Cond.codeWith y bytes maxL ret hh).before args s = true) (hy : y.cls ≠ "java/lang/invoke/MethodHandle" ∧ y.cls ≠ "java/lang/invoke/VarHandle")
    {W9 : Nat} {Pre : Pt → Array Value → Prop} {Post : Pt → Array Value → Option Value → Pt → Prop} {PostX : Pt → Array Value → Addr → Pt → Prop} (hK : vx_Back l R p e below s args y 3 W9 Pre Post PostX)
    {g : JFrame} (hg : g.method = m) (hsize : g.locals.size = c.maxLocals) {argsL rest : List Value} (hlen : ∀ sig, parseMethodDescriptor y.desc = some sig → argsL.length = sig.parameters.length)
    (hstack : g.stack = argsL.reverse ++ rest) (hW : 2 * g.monitorRoom + (rest.map fun v => v.category).sum ≤ W9) (hdg : decode c.code g.pc = .ok (.invokestatic index, 3))
    (hpre : ∀ vm₁, s.WarmedH vm₁ → Pre ⟨T.setVm vm₁, locs, cells, slots⟩ argsL.toArray) :
    (∃ (v : Option Value) (vm₁ : Vm) (B : Pt), s.WarmedH vm₁ ∧ Stand p l e R s m args below meth c B.U B.locs B.cells B.slots ∧ Post ⟨T.setVm vm₁, locs, cells, slots⟩ argsL.toArray v B ∧
      ∀ target, Steps p.tables e below (B.U.setTop { g with pc := g.pc + 3, stack := v.toList ++ rest }) target → Steps p.tables e below (T.setTop g) target) ∨
    (∃ (q : Addr) (vm₁ : Vm) (B : Pt), s.WarmedH vm₁ ∧ Stand p l e R s m args below meth c B.U B.locs B.cells B.slots ∧ PostX ⟨T.setVm vm₁, locs, cells, slots⟩ argsL.toArray q B ∧
      Steps p.tables e below (T.setTop g) ((B.U.setTop { g with stack := rest }).pushFrame (.throwing q))) := by
  obtain ⟨mk, methM, cM, hnamed, hmethM, -, -, -, -, -, -, hsigM⟩ := Cond.codeWith_spec hcode
  have hstatic : methM.isStatic = true := Cond.static_spec hnamed hmethM hstat
  obtain ⟨kP, hkP, -⟩ := className_of_methodNamed hnamed
  have hinitP : kP.init = .initialized := Cond.initialized_spec (findClass_of_methodNamed hnamed) hkP hinit
  obtain ⟨vm₁, X₁, hstep₁⟩ := X.invokestatic hexec hown hlink hnamed hmethM hstatic hkP hinitP hy (g := g) hg (argsL := argsL) (rest := rest) (hlen _ hsigM) hstack hdg
  rcases hK m meth c ⟨T.setVm vm₁, locs, cells, slots⟩ { g with stack := rest } (.invokestatic index) mk argsL.toArray X₁ hg hsize hdg hW (X₁.named hnamed) (hpre vm₁ X₁.warmed) with ⟨v, B, X', hpost, hsteps⟩ | ⟨q, B, X', hpost, hsteps⟩
  · exact Or.inl ⟨v, vm₁, B, X₁.warmed, X', hpost, fun target h => hstep₁ _ fun acts => by rw [doInvoke_state]; exact hsteps.trans h⟩
  · exact Or.inr ⟨q, vm₁, B, X₁.warmed, X', hpost, hstep₁ _ fun acts => by rw [doInvoke_state]; exact hsteps⟩
theorem vx_callVW (X : Stand p l e R s m args below meth c T locs cells slots) (hexec : p.tables.exec = Jvm.exec) {own C : String} {index : Nat} {y : MethodName} {bytes : ByteArray} {maxL : Nat} {ret : Option FieldType} {hh : List (Nat × Nat × Nat × Nat)}
    (hown : s.vm.findClass own = some m.cls) (hlink : (Cond.methodLink own index y).before args s = true) (hinst : (Cond.instanceMethod y).before args s = true) (hsel : (Cond.selects C y y).before args s = true)
    (hcode : (Cond.codeWith y bytes maxL ret hh).before args s = true) (hy : y.cls ≠ "java/lang/invoke/MethodHandle" ∧ y.cls ≠ "java/lang/invoke/VarHandle")
    {W9 : Nat} {Pre : Pt → Array Value → Prop} {Post : Pt → Array Value → Option Value → Pt → Prop} (hK : Back l R p e below s args y 3 W9 Pre Post)
    {b : Addr} {cellB : Cell} (hcell : T.heap[b]? = some cellB) (hobj : cellB.vm.isStatics = false) (hcls : s.vm.findClass C = some cellB.cls)
    {g : JFrame} (hg : g.method = m) (hsize : g.locals.size = c.maxLocals) {argsL rest : List Value} (hlen : ∀ sig, parseMethodDescriptor y.desc = some sig → argsL.length = sig.parameters.length)
    (hstack : g.stack = argsL.reverse ++ .ref b :: rest) (hW : 2 * g.monitorRoom + (rest.map fun v => v.category).sum ≤ W9) (hdg : decode c.code g.pc = .ok (.invokevirtual index, 3))
    (hpre : ∀ vm₁, s.WarmedH vm₁ → Pre ⟨T.setVm vm₁, locs, cells, slots⟩ (Value.ref b :: argsL).toArray) :
    ∃ (v : Option Value) (vm₁ : Vm) (B : Pt), s.WarmedH vm₁ ∧ Stand p l e R s m args below meth c B.U B.locs B.cells B.slots ∧ Post ⟨T.setVm vm₁, locs, cells, slots⟩ (Value.ref b :: argsL).toArray v B ∧
      ∀ target, Steps p.tables e below (B.U.setTop { g with pc := g.pc + 3, stack := v.toList ++ rest }) target → Steps p.tables e below (T.setTop g) target := by
  obtain ⟨mk, methM, hnamed, hmethM, hstM, habM⟩ := Cond.instanceMethod_spec hinst
  obtain ⟨m8, methM', cM, hn8, hmethM', -, -, -, -, -, -, hsigM⟩ := Cond.codeWith_spec hcode
  cases Option.some.inj (hn8.symm.trans hnamed)
  cases hmethM.symm.trans hmethM'
  obtain ⟨c2, r2, m2, q1, q2, q3, q4, kP, hkP, hkPi⟩ := Cond.selects_spec hsel
  cases hcls.symm.trans q1
  cases (State.methodFound?_of_named hnamed hy).symm.trans q2
  cases hnamed.symm.trans q3
  have hselP : selectMethod e.platform s.vm cellB.cls mk = .method mk := by rw [Launch.admits_selectMethod X.admits]; exact q4
  obtain ⟨vm₁, X₁, hstep₁⟩ := X.invokevirtual hexec hown hlink hnamed hmethM hstM hkP hkPi hy (a := b) (cell := cellB) hcell
    (fun z h => by rw [h] at hobj; cases hobj) hselP hmethM habM hkP hkPi (g := g) hg (argsL := argsL) (rest := rest) (hlen _ hsigM) hstack hdg
  obtain ⟨v, B, X', hpost, hsteps⟩ := hK m meth c ⟨T.setVm vm₁, locs, cells, slots⟩ { g with stack := rest } (.invokevirtual index) mk (Value.ref b :: argsL).toArray X₁ hg hsize hdg hW (X₁.named hnamed) (hpre vm₁ X₁.warmed)
  exact ⟨v, vm₁, B, X₁.warmed, X', hpost, fun target h => hstep₁ _ fun acts => by rw [doInvoke_state]; exact hsteps.trans h⟩
abbrev vx_CVW (R : Room) (s : State) (args : Array Value) (own C : String) (index : Nat) (y : MethodName) (bytes : ByteArray) (maxL : Nat) (ret : Option FieldType) (hh : List (Nat × Nat × Nat × Nat)) (ws : List Cond) (rm : Room) (mc ms n : Nat) : Prop :=
  (rm.cells = mc ∧ rm.slots = ms ∧ rm.frames + 1 ≤ R.frames ∧ 8 + (maxL + 11) + rm.locals ≤ R.locals ∧ (∀ w ∈ ws, ∀ (a' : Array Value) (U : State), s.WarmedH U.vm → w.before a' U = true) ∧ Cond.codeWith y bytes maxL ret hh ∈ ws) ∧
  (Cond.codeWith y bytes maxL ret hh).before args s = true ∧ (Cond.initialized y.cls).before args s = true ∧ (y.cls ≠ "java/lang/invoke/MethodHandle" ∧ y.cls ≠ "java/lang/invoke/VarHandle") ∧
  (∀ sig, parseMethodDescriptor y.desc = some sig → n = sig.parameters.length) ∧ (Cond.methodLink own index y).before args s = true ∧ (Cond.instanceMethod y).before args s = true ∧ (Cond.selects C y y).before args s = true
theorem vx_cwVW {own C : String} {index maxL mc ms : Nat} {y : MethodName} {bytes : ByteArray} {ret : Option FieldType} {hh : List (Nat × Nat × Nat × Nat)} {Ts ws ws' : List Cond} {rm : Room} (n : Nat) (ht : ∀ w ∈ Ts, w.before args s = true) (hT : GoodIn Ts (wsV own index C y ws)) (hw : ws = Cond.codeWith y bytes maxL ret hh :: ws') (hrc : rm.cells = mc) (hrs : rm.slots = ms)
    (hd : y.cls = C ∧ y.cls ≠ "java/lang/invoke/MethodHandle" ∧ y.cls ≠ "java/lang/invoke/VarHandle" ∧ (parseMethodDescriptor y.desc).map (fun d => d.parameters.length) = some n) (hR : rm.frames + 1 ≤ R.frames ∧ 8 + (maxL + 11) + rm.locals ≤ R.locals) :
    vx_CVW R s args own C index y bytes maxL ret hh ws rm mc ms n := by
  obtain ⟨hC, hd⟩ := hd
  subst hC
  have ok : ∀ w ∈ wsV own index y.cls y ws, w.before args s = true := fun w h => ht w (hT w h).1
  have hG : GoodIn Ts ws := fun w h => hT w (by unfold wsV; exact List.mem_append_right _ h)
  have hc : Cond.codeWith y bytes maxL ret hh ∈ ws := by rw [hw]; exact List.mem_cons_self
  refine ⟨⟨hrc, hrs, hR.1, hR.2, pay_in ht hG, hc⟩, ht _ (hG _ hc).1, ok _ (by simp [wsV]), ⟨hd.1, hd.2.1⟩, fun sig h => ?_, ok _ (by simp [wsV]), ok _ (by simp [wsV]), ok _ (by simp [wsV])⟩
  have h2 := hd.2.2
  rw [h] at h2
  exact (Option.some.inj h2).symm
theorem vx_runVW {y : MethodName} {bytes cc : ByteArray} {maxL nL mc ms n index : Nat} {ret : Option FieldType} {hh : List (Nat × Nat × Nat × Nat)} {ws : List Cond} {rm : Room} {Pc : Array Value → State → Prop} {Qc : Array Value → State → Outcome → State → Prop} {free : Addr → Prop} {Ts : List Cond} {own C : String} {b : Addr} {As rest : List Value} {g : JFrame}
    (S : CallFix p m c cc nL s args Ts own) (hM : Met l y ws rm Pc Qc mc ms free) (cw : vx_CVW R s args own C index y bytes maxL ret hh ws rm mc ms n) (hp : PreV s H C b Pc As)
    (hg : g.method = m) (hn : As.length = n) (hsize : g.locals.size = nL) (hstack : g.stack = As.reverse ++ .ref b :: rest) (hW : 2 * g.monitorRoom + (rest.map fun v => v.category).sum ≤ 8) (hdg : decode cc g.pc = .ok (.invokevirtual index, 3)) (hf : cells + mc ≤ R.cells ∧ slots + ms ≤ R.slots) :
    va_Run p l e R s m args below meth c H locs cells slots mc ms g rest (Qc (Value.ref b :: As).toArray) free := by
  obtain ⟨⟨hrc, hrs, hfr, hlo, hws, hcw⟩, hcode, hini, hy, hlen, hl, hin, hse⟩ := cw
  have hK : Back l R p e below s args y 3 8 (PreOf R mc ms Pc) (PostOf Qc mc ms free) := va_backW (hh := hh) (bytes := bytes) (maxL := maxL) (ret := ret) hM hp.1 hrc hrs hfr hlo hws hcw (fun a' U hW => word_at hW (Or.inl (by first | rfl | simp [Cond.onTables, Cond.keeps, Cond.steady])) hini)
  obtain ⟨hx, hb, hml, ho, -⟩ := S
  obtain ⟨-, ⟨cellB, hcB, hoB, hclB⟩, hPc⟩ := hp
  intro T hT X
  obtain ⟨v, vm₁, ⟨U', l2, c2, s2⟩, hW₁, X', ⟨g', mk, t, L, e1, e2, hq, h1, hL, h2, h3⟩, st⟩ := vx_callVW X hx (C := C) (hh := hh) (bytes := bytes) (maxL := maxL) (ret := ret) ho hl hin hse hcode hy hK (by rw [hT]; exact hcB) hoB hclB hg (hsize.trans hml.symm) (argsL := As) (rest := rest) (fun sig h => hn.trans (hlen sig h)) hstack hW (by rw [hb]; exact hdg)
    (fun vm₁ hW₁ => ⟨hf.1, hf.2, hPc (T.setVm vm₁) hT hW₁⟩)
  dsimp only [Pt.U, Pt.locs, Pt.cells, Pt.slots] at X' e1 e2 h1 h2 h3 st
  subst h1; subst h2; subst h3
  exact ⟨v, (T.setVm vm₁).calling g' mk (Value.ref b :: As).toArray, t, U', L, hT, X', hL, e1, e2, hq, st⟩
section
variable {y : MethodName} {bytes cc : ByteArray} {maxL nL mc ms n index : Nat} {ret : Option FieldType} {ws : List Cond} {rm : Room} {Pc : Array Value → State → Prop} {Qc : Array Value → State → Outcome → State → Prop} {XC : String → State → State → Prop} {free : Addr → Prop} {Ts : List Cond} {own C : String} {b : Addr} {As rest : List Value} {g : JFrame}
theorem vx_runVX {hh : List (Nat × Nat × Nat × Nat)} (S : CallFix p m c cc nL s args Ts own) (hM : vx_Met l y ws rm Pc Qc XC mc ms free) (cw : vx_CVW R s args own C index y bytes maxL ret hh ws rm mc ms n) (hp : PreV s H C b Pc As)
    (hg : g.method = m) (hn : As.length = n) (hsize : g.locals.size = nL) (hstack : g.stack = As.reverse ++ .ref b :: rest) (hW : 2 * g.monitorRoom + (rest.map fun v => v.category).sum ≤ 8) (hdg : decode cc g.pc = .ok (.invokevirtual index, 3)) (hf : cells + mc ≤ R.cells ∧ slots + ms ≤ R.slots) :
    vx_Run p l e R s m args below meth c H locs cells slots mc ms g rest (Qc (Value.ref b :: As).toArray) XC free := by
  obtain ⟨⟨hrc, hrs, hfr, hlo, hws, hcw⟩, hcode, hini, hy, hlen, hl, hin, hse⟩ := cw
  have hK : vx_Back l R p e below s args y 3 8 (PreOf R mc ms Pc) (PostOf Qc mc ms free) (vx_Post XC mc ms free) := vx_backW (hh := hh) (bytes := bytes) (maxL := maxL) (ret := ret) hM hp.1 hrc hrs hfr hlo hws hcw (fun a' U hW => word_at hW (Or.inl (by first | rfl | simp [Cond.onTables, Cond.keeps, Cond.steady])) hini)
  obtain ⟨hx, hb, hml, ho, -⟩ := S
  obtain ⟨-, ⟨cellB, hcB, hoB, hclB⟩, hPc⟩ := hp
  intro T hT X
  rcases vx_callVX X hx (C := C) (hh := hh) (bytes := bytes) (maxL := maxL) (ret := ret) ho hl hin hse hcode hy hK (by rw [hT]; exact hcB) hoB hclB hg (hsize.trans hml.symm) (argsL := As) (rest := rest) (fun sig h => hn.trans (hlen sig h)) hstack hW (by rw [hb]; exact hdg)
    (fun vm₁ hW₁ => ⟨hf.1, hf.2, hPc (T.setVm vm₁) hT hW₁⟩) with ⟨v, vm₁, ⟨U', l2, c2, s2⟩, hW₁, X', ⟨g', mk, t, L, e1, e2, hq, h1, hL, h2, h3⟩, st⟩ | ⟨q, vm₁, ⟨U', l2, c2, s2⟩, hW₁, X', ⟨g', mk, t, L, E, ce, e1, e2, hq, hce, hcv, hcl, h1, hL, h2, h3⟩, st⟩
  · dsimp only [Pt.U, Pt.locs, Pt.cells, Pt.slots] at X' e1 e2 h1 h2 h3 st
    subst h1; subst h2; subst h3
    exact Or.inl ⟨v, (T.setVm vm₁).calling g' mk (Value.ref b :: As).toArray, t, U', L, hT, X', hL, e1, e2, hq, st⟩
  · dsimp only [Pt.U, Pt.locs, Pt.cells, Pt.slots] at X' e1 e2 h1 h2 h3 st hcl
    subst h1; subst h2; subst h3
    exact Or.inr ⟨q, (T.setVm vm₁).calling g' mk (Value.ref b :: As).toArray, t, U', L, E, ce, hT, X', hL, e1, e2, hq, hce, hcv, vx_cls hW₁ hcl, st⟩
theorem vx_runSX {hh : List (Nat × Nat × Nat × Nat)} (S : CallFix p m c cc nL s args Ts own) (hM : vx_Met l y ws rm Pc Qc XC mc ms free) (cw : vx_CSW R s args own index y bytes maxL ret hh ws rm mc ms n) (hp : PreS s H Pc As)
    (hg : g.method = m) (hn : As.length = n) (hsize : g.locals.size = nL) (hstack : g.stack = As.reverse ++ rest) (hW : 2 * g.monitorRoom + (rest.map fun v => v.category).sum ≤ 8) (hdg : decode cc g.pc = .ok (.invokestatic index, 3)) (hf : cells + mc ≤ R.cells ∧ slots + ms ≤ R.slots) :
    vx_Run p l e R s m args below meth c H locs cells slots mc ms g rest (Qc As.toArray) XC free := by
  obtain ⟨⟨hrc, hrs, hfr, hlo, hws, hcw⟩, hcode, hini, hy, hlen, hl, hstt⟩ := cw
  have hK : vx_Back l R p e below s args y 3 8 (PreOf R mc ms Pc) (PostOf Qc mc ms free) (vx_Post XC mc ms free) := vx_backW (hh := hh) (bytes := bytes) (maxL := maxL) (ret := ret) hM hp.1 hrc hrs hfr hlo hws hcw (fun a' U hW => word_at hW (Or.inl (by first | rfl | simp [Cond.onTables, Cond.keeps, Cond.steady])) hini)
  obtain ⟨hx, hb, hml, ho, -⟩ := S
  intro T hT X
  rcases vx_callSX X hx (hh := hh) (bytes := bytes) (maxL := maxL) (ret := ret) ho hl hstt hini hcode hy hK hg (hsize.trans hml.symm) (argsL := As) (rest := rest) (fun sig h => hn.trans (hlen sig h)) hstack hW (by rw [hb]; exact hdg)
    (fun vm₁ hW₁ => ⟨hf.1, hf.2, hp.2 (T.setVm vm₁) hT hW₁⟩) with ⟨v, vm₁, ⟨U', l2, c2, s2⟩, hW₁, X', ⟨g', mk, t, L, e1, e2, hq, h1, hL, h2, h3⟩, st⟩ | ⟨q, vm₁, ⟨U', l2, c2, s2⟩, hW₁, X', ⟨g', mk, t, L, E, ce, e1, e2, hq, hce, hcv, hcl, h1, hL, h2, h3⟩, st⟩
  · dsimp only [Pt.U, Pt.locs, Pt.cells, Pt.slots] at X' e1 e2 h1 h2 h3 st
    subst h1; subst h2; subst h3
    exact Or.inl ⟨v, (T.setVm vm₁).calling g' mk As.toArray, t, U', L, hT, X', hL, e1, e2, hq, st⟩
  · dsimp only [Pt.U, Pt.locs, Pt.cells, Pt.slots] at X' e1 e2 h1 h2 h3 st hcl
    subst h1; subst h2; subst h3
    exact Or.inr ⟨q, (T.setVm vm₁).calling g' mk As.toArray, t, U', L, E, ce, hT, X', hL, e1, e2, hq, hce, hcv, vx_cls hW₁ hcl, st⟩
end
end VXH
theorem vx_ofWH {l : Launch} {y : MethodName} {ws ws' : List Cond} {rm : Room} {Pc : Array Value → State → Prop} {Qc : Array Value → State → Outcome → State → Prop} {XC : String → State → State → Prop} {mc ms : Nat} {free : Addr → Prop} {cc : ByteArray} {maxL : Nat} {ret : Option FieldType} {hh : List (Nat × Nat × Nat × Nat)}
    (hy : plainName y.cls = true) (hw : ws = Cond.codeWith y cc maxL ret hh :: ws')
    (body : ∀ p e s m args below meth c s₁, BodyLoose p l y (headSpec ws rm) cc maxL ret e s m args below meth c s₁ → c.maxLocals = maxL → Pc args s →
      W p l e (headSpec ws rm).room s m args below meth c s.heap [] 0 0 (vx_MQ below Qc XC args s mc ms free) (entryFrame m args maxL)) : vx_Met l y ws rm Pc Qc XC mc ms free := by
  refine MetFree.of_bodyS (code := cc) (maxLocals := maxL) (ret := ret) hy ?_ ?_
  · intro args s m h hn
    obtain ⟨m9, meth, c, hn9, h1, h2, h3, h4, -, h5, h6, -⟩ := Cond.codeWith_spec (atoms_spec (ws := ws) h _ (by rw [hw]; exact List.mem_cons_self))
    cases hn.symm.trans hn9
    exact ⟨meth, c, h1, h2, h3, h4, h5, h6⟩
  · intro p e s m args below meth c s₁ B hml hP _
    have hh0 : s₁.heap = s.heap := by rw [B.state]; rfl
    obtain ⟨t, a1, o, b1, b2, b3⟩ := body p e s m args below meth c s₁ B hml hP s₁ hh0 (Stand.of_body B)
    exact ⟨t, o, a1, b1, b2, b3⟩
/-! ===== END ===== -/
end
section
/-! ===== BEGIN printed: names, fields, word lists, decode rows ===== -/
def RX0 : String := "CuckooShop$Clock"
def TX0 : u_T := fun k => match k with
  | 0 => ("CuckooShop$Clock", "gearA", "I", false)
  | 1 => ("CuckooShop$Clock", "gearB", "I", false)
  | 2 => ("CuckooShop$Clock", "swing", "I", false)
  | 3 => ("CuckooShop$Clock", "chain", "I", false)
  | 4 => ("CuckooShop$Clock", "oil", "I", false)
  | 5 => ("CuckooShop$Clock", "bellows", "I", false)
  | 6 => ("CuckooShop$Clock", "goes", "Z", false)
  | 7 => ("CuckooShop$Clock", "shown", "I", false)
  | 8 => ("CuckooShop$Clock", "rest", "I", false)
  | 9 => ("CuckooShop$Clock", "shutFrom", "I", false)
  | 10 => ("CuckooShop$Clock", "shutTill", "I", false)
  | 11 => ("CuckooShop$Clock", "calls", "I", false)
  | 12 => ("CuckooShop$Clock", "missed", "I", false)
  | _ => ("CuckooShop$Clock", "latestCalls", "I", false)
def tyX0 : Nat → FieldType := fun k => match k with
  | 0 => .int
  | 1 => .int
  | 2 => .int
  | 3 => .int
  | 4 => .int
  | 5 => .int
  | 6 => .boolean
  | 7 => .int
  | 8 => .int
  | 9 => .int
  | 10 => .int
  | 11 => .int
  | 12 => .int
  | _ => .int
abbrev wsX00 : List Cond := u_ws RX0 TX0 14
theorem nmX0 : ∀ a, a < 14 → ∀ b, b < 14 → a ≠ b → (TX0 a).2.1 ≠ (TX0 b).2.1 := by decide +kernel
theorem tyX0_ok : ∀ k, k < 14 → parseFieldDescriptor (TX0 k).2.2.1 = some (tyX0 k) := by decide +kernel
abbrev cX0_init : ByteArray := prog_2_method_1_code
def yX0_init : MethodName := ⟨RX0, "<init>", "()V"⟩
abbrev cX0_copyFrom : ByteArray := prog_2_method_2_code
def yX0_copyFrom : MethodName := ⟨RX0, "copyFrom", "(LCuckooShop$Clock;)V"⟩
abbrev cX0_putHands : ByteArray := prog_2_method_3_code
def yX0_putHands : MethodName := ⟨RX0, "putHands", "(I)V"⟩
abbrev cX0_fitTrain : ByteArray := prog_2_method_4_code
def yX0_fitTrain : MethodName := ⟨RX0, "fitTrain", "(III)V"⟩
abbrev cX0_drawUp : ByteArray := prog_2_method_5_code
def yX0_drawUp : MethodName := ⟨RX0, "drawUp", "()I"⟩
abbrev cX0_fillOil : ByteArray := prog_2_method_6_code
def yX0_fillOil : MethodName := ⟨RX0, "fillOil", "()I"⟩
abbrev cX0_patchBellows : ByteArray := prog_2_method_7_code
def yX0_patchBellows : MethodName := ⟨RX0, "patchBellows", "()I"⟩
abbrev cX0_nudge : ByteArray := prog_2_method_8_code
def yX0_nudge : MethodName := ⟨RX0, "nudge", "()I"⟩
abbrev cX0_silence : ByteArray := prog_2_method_9_code
def yX0_silence : MethodName := ⟨RX0, "silence", "(II)I"⟩
abbrev cX0_advance : ByteArray := prog_2_method_10_code
def yX0_advance : MethodName := ⟨RX0, "advance", "()I"⟩
abbrev cX0_advanceWith : ByteArray := prog_2_method_11_code
def yX0_advanceWith : MethodName := ⟨RX0, "advanceWith", "(II)I"⟩
abbrev cX0_truestGears : ByteArray := prog_2_method_12_code
def yX0_truestGears : MethodName := ⟨RX0, "truestGears", "()I"⟩
abbrev cX0_runMinute : ByteArray := prog_2_method_13_code
def yX0_runMinute : MethodName := ⟨RX0, "runMinute", "(I)V"⟩
abbrev cX0_turn : ByteArray := prog_2_method_14_code
def yX0_turn : MethodName := ⟨RX0, "turn", "()V"⟩
abbrev cX0_wear : ByteArray := prog_2_method_15_code
def yX0_wear : MethodName := ⟨RX0, "wear", "(I)V"⟩
abbrev cX0_callsDueAt : ByteArray := prog_2_method_16_code
def yX0_callsDueAt : MethodName := ⟨RX0, "callsDueAt", "(I)I"⟩
abbrev cX0_cuckoo : ByteArray := prog_2_method_17_code
def yX0_cuckoo : MethodName := ⟨RX0, "cuckoo", "(I)V"⟩
abbrev cX0_isShutAt : ByteArray := prog_2_method_18_code
def yX0_isShutAt : MethodName := ⟨RX0, "isShutAt", "(I)Z"⟩
abbrev cX0_minutesToStand : ByteArray := prog_2_method_19_code
def yX0_minutesToStand : MethodName := ⟨RX0, "minutesToStand", "()I"⟩
abbrev cX0_reading : ByteArray := prog_2_method_20_code
def yX0_reading : MethodName := ⟨RX0, "reading", "(I)I"⟩
abbrev cX0_mixInto : ByteArray := prog_2_method_21_code
def yX0_mixInto : MethodName := ⟨RX0, "mixInto", "(J)J"⟩
def RX1 : String := "CuckooShop"
def TX1 : u_T := fun k => match k with
  | 0 => ("CuckooShop", "clocks", "[LCuckooShop$Clock;", true)
  | 1 => ("CuckooShop", "copies", "[LCuckooShop$Clock;", true)
  | 2 => ("CuckooShop", "present", "I", false)
  | _ => ("CuckooShop", "minute", "I", false)
def tyX1 : Nat → FieldType := fun k => match k with
  | 0 => .array (.object "CuckooShop$Clock")
  | 1 => .array (.object "CuckooShop$Clock")
  | 2 => .int
  | _ => .int
abbrev wsX10 : List Cond := u_ws RX1 TX1 4
theorem nmX1 : ∀ a, a < 4 → ∀ b, b < 4 → a ≠ b → (TX1 a).2.1 ≠ (TX1 b).2.1 := by decide +kernel
theorem tyX1_ok : ∀ k, k < 4 → parseFieldDescriptor (TX1 k).2.2.1 = some (tyX1 k) := by decide +kernel
abbrev cX1_init : ByteArray := prog_1_method_1_code
def yX1_init : MethodName := ⟨RX1, "<init>", "()V"⟩
abbrev cX1_come : ByteArray := prog_1_method_2_code
def yX1_come : MethodName := ⟨RX1, "come", "(I)I"⟩
abbrev cX1_gear : ByteArray := prog_1_method_3_code
def yX1_gear : MethodName := ⟨RX1, "gear", "(IIII)I"⟩
abbrev cX1_set : ByteArray := prog_1_method_4_code
def yX1_set : MethodName := ⟨RX1, "set", "(II)I"⟩
abbrev cX1_wind : ByteArray := prog_1_method_5_code
def yX1_wind : MethodName := ⟨RX1, "wind", "(I)I"⟩
abbrev cX1_mend : ByteArray := prog_1_method_6_code
def yX1_mend : MethodName := ⟨RX1, "mend", "(II)I"⟩
abbrev cX1_shut : ByteArray := prog_1_method_7_code
def yX1_shut : MethodName := ⟨RX1, "shut", "(III)I"⟩
abbrev cX1_clock : ByteArray := prog_1_method_8_code
def yX1_clock : MethodName := ⟨RX1, "clock", "(II)I"⟩
abbrev cX1_off : ByteArray := prog_1_method_9_code
def yX1_off : MethodName := ⟨RX1, "off", "(I)I"⟩
abbrev cX1_count : ByteArray := prog_1_method_10_code
def yX1_count : MethodName := ⟨RX1, "count", "(I)I"⟩
abbrev cX1_pass : ByteArray := prog_1_method_11_code
def yX1_pass : MethodName := ⟨RX1, "pass", "(I)I"⟩
abbrev cX1_next : ByteArray := prog_1_method_12_code
def yX1_next : MethodName := ⟨RX1, "next", "(I)I"⟩
abbrev cX1_stands : ByteArray := prog_1_method_13_code
def yX1_stands : MethodName := ⟨RX1, "stands", "(I)I"⟩
abbrev cX1_loudest : ByteArray := prog_1_method_14_code
def yX1_loudest : MethodName := ⟨RX1, "loudest", "(I)I"⟩
abbrev cX1_foresee : ByteArray := prog_1_method_15_code
def yX1_foresee : MethodName := ⟨RX1, "foresee", "(II)I"⟩
abbrev cX1_advise : ByteArray := prog_1_method_16_code
def yX1_advise : MethodName := ⟨RX1, "advise", "(I)I"⟩
abbrev cX1_mean : ByteArray := prog_1_method_17_code
def yX1_mean : MethodName := ⟨RX1, "mean", "()D"⟩
abbrev cX1_digest : ByteArray := prog_1_method_18_code
def yX1_digest : MethodName := ⟨RX1, "digest", "()J"⟩
abbrev cX1_checkClock : ByteArray := prog_1_method_19_code
def yX1_checkClock : MethodName := ⟨RX1, "checkClock", "(I)V"⟩
abbrev cX1_checkTime : ByteArray := prog_1_method_20_code
def yX1_checkTime : MethodName := ⟨RX1, "checkTime", "(I)V"⟩
abbrev cX1_checkMinutes : ByteArray := prog_1_method_21_code
def yX1_checkMinutes : MethodName := ⟨RX1, "checkMinutes", "(I)V"⟩
abbrev cX1_isWithin : ByteArray := prog_1_method_22_code
def yX1_isWithin : MethodName := ⟨RX1, "isWithin", "(III)Z"⟩
abbrev cX1_trueTime : ByteArray := prog_1_method_23_code
def yX1_trueTime : MethodName := ⟨RX1, "trueTime", "(I)I"⟩
abbrev cX1_offOf : ByteArray := prog_1_method_24_code
def yX1_offOf : MethodName := ⟨RX1, "offOf", "(LCuckooShop$Clock;I)I"⟩
abbrev cX1_runRow : ByteArray := prog_1_method_25_code
def yX1_runRow : MethodName := ⟨RX1, "runRow", "([LCuckooShop$Clock;I)I"⟩
abbrev cX1_copyClocks : ByteArray := prog_1_method_26_code
def yX1_copyClocks : MethodName := ⟨RX1, "copyClocks", "()V"⟩
abbrev cX1_tally : ByteArray := prog_1_method_27_code
def yX1_tally : MethodName := ⟨RX1, "tally", "(I)I"⟩
abbrev cX1_sumOf : ByteArray := prog_1_method_28_code
def yX1_sumOf : MethodName := ⟨RX1, "sumOf", "([LCuckooShop$Clock;I)I"⟩
abbrev cX1_offOfAll : ByteArray := prog_1_method_29_code
def yX1_offOfAll : MethodName := ⟨RX1, "offOfAll", "([LCuckooShop$Clock;I)I"⟩
abbrev cX1_trueClocks : ByteArray := prog_1_method_30_code
def yX1_trueClocks : MethodName := ⟨RX1, "trueClocks", "()I"⟩
def RX2 : String := "CuckooShopModel"
def TX2 : u_T := fun k => match k with
  | 0 => ("CuckooShopModel", "thrown", "I", false)
  | 1 => ("CuckooShopModel", "clocks", "I", false)
  | 2 => ("CuckooShopModel", "shop", "[I", true)
  | _ => ("CuckooShopModel", "minute", "[I", true)
def tyX2 : Nat → FieldType := fun k => match k with
  | 0 => .int
  | 1 => .int
  | 2 => .array .int
  | _ => .array .int
abbrev wsX20 : List Cond := u_ws RX2 TX2 4
theorem nmX2 : ∀ a, a < 4 → ∀ b, b < 4 → a ≠ b → (TX2 a).2.1 ≠ (TX2 b).2.1 := by decide +kernel
theorem tyX2_ok : ∀ k, k < 4 → parseFieldDescriptor (TX2 k).2.2.1 = some (tyX2 k) := by decide +kernel
abbrev cX2_init : ByteArray := prog_4_method_1_code
def yX2_init : MethodName := ⟨RX2, "<init>", "()V"⟩
abbrev cX2_thrown : ByteArray := prog_4_method_2_code
def yX2_thrown : MethodName := ⟨RX2, "thrown", "()I"⟩
abbrev cX2_fail : ByteArray := prog_4_method_3_code
def yX2_fail : MethodName := ⟨RX2, "fail", "(I)I"⟩
abbrev cX2_isIn : ByteArray := prog_4_method_4_code
def yX2_isIn : MethodName := ⟨RX2, "isIn", "(III)Z"⟩
abbrev cX2_isClock : ByteArray := prog_4_method_5_code
def yX2_isClock : MethodName := ⟨RX2, "isClock", "(I)Z"⟩
abbrev cX2_sh : ByteArray := prog_4_method_6_code
def yX2_sh : MethodName := ⟨RX2, "sh", "(II)I"⟩
abbrev cX2_put : ByteArray := prog_4_method_7_code
def yX2_put : MethodName := ⟨RX2, "put", "(III)V"⟩
abbrev cX2_add : ByteArray := prog_4_method_8_code
def yX2_add : MethodName := ⟨RX2, "add", "(III)V"⟩
abbrev cX2_come : ByteArray := prog_4_method_9_code
def yX2_come : MethodName := ⟨RX2, "come", "(I)I"⟩
abbrev cX2_advance : ByteArray := prog_4_method_10_code
def yX2_advance : MethodName := ⟨RX2, "advance", "(III)I"⟩
abbrev cX2_advance_ : ByteArray := prog_4_method_11_code
def yX2_advance_ : MethodName := ⟨RX2, "advance", "(I)I"⟩
abbrev cX2_gear : ByteArray := prog_4_method_12_code
def yX2_gear : MethodName := ⟨RX2, "gear", "(IIII)I"⟩
abbrev cX2_offBy : ByteArray := prog_4_method_13_code
def yX2_offBy : MethodName := ⟨RX2, "offBy", "(I)I"⟩
abbrev cX2_set : ByteArray := prog_4_method_14_code
def yX2_set : MethodName := ⟨RX2, "set", "(II)I"⟩
abbrev cX2_wind : ByteArray := prog_4_method_15_code
def yX2_wind : MethodName := ⟨RX2, "wind", "(I)I"⟩
abbrev cX2_mend : ByteArray := prog_4_method_16_code
def yX2_mend : MethodName := ⟨RX2, "mend", "(II)I"⟩
abbrev cX2_shut : ByteArray := prog_4_method_17_code
def yX2_shut : MethodName := ⟨RX2, "shut", "(III)I"⟩
abbrev cX2_isShut : ByteArray := prog_4_method_18_code
def yX2_isShut : MethodName := ⟨RX2, "isShut", "(I)Z"⟩
abbrev cX2_clockTold : ByteArray := prog_4_method_19_code
def yX2_clockTold : MethodName := ⟨RX2, "clockTold", "(II)I"⟩
abbrev cX2_clock : ByteArray := prog_4_method_20_code
def yX2_clock : MethodName := ⟨RX2, "clock", "(II)I"⟩
abbrev cX2_off : ByteArray := prog_4_method_21_code
def yX2_off : MethodName := ⟨RX2, "off", "(I)I"⟩
abbrev cX2_all : ByteArray := prog_4_method_22_code
def yX2_all : MethodName := ⟨RX2, "all", "(I)I"⟩
abbrev cX2_counted : ByteArray := prog_4_method_23_code
def yX2_counted : MethodName := ⟨RX2, "counted", "(I)I"⟩
abbrev cX2_count : ByteArray := prog_4_method_24_code
def yX2_count : MethodName := ⟨RX2, "count", "(I)I"⟩
abbrev cX2_call : ByteArray := prog_4_method_25_code
def yX2_call : MethodName := ⟨RX2, "call", "(I)V"⟩
abbrev cX2_minuteOn : ByteArray := prog_4_method_26_code
def yX2_minuteOn : MethodName := ⟨RX2, "minuteOn", "()V"⟩
abbrev cX2_minutesOn : ByteArray := prog_4_method_27_code
def yX2_minutesOn : MethodName := ⟨RX2, "minutesOn", "(I)V"⟩
abbrev cX2_pass : ByteArray := prog_4_method_28_code
def yX2_pass : MethodName := ⟨RX2, "pass", "(I)I"⟩
abbrev cX2_kept : ByteArray := prog_4_method_29_code
def yX2_kept : MethodName := ⟨RX2, "kept", "()[[I"⟩
abbrev cX2_bringBack : ByteArray := prog_4_method_30_code
def yX2_bringBack : MethodName := ⟨RX2, "bringBack", "([[I)V"⟩
abbrev cX2_next : ByteArray := prog_4_method_31_code
def yX2_next : MethodName := ⟨RX2, "next", "(I)I"⟩
abbrev cX2_stands : ByteArray := prog_4_method_32_code
def yX2_stands : MethodName := ⟨RX2, "stands", "(I)I"⟩
abbrev cX2_loudest : ByteArray := prog_4_method_33_code
def yX2_loudest : MethodName := ⟨RX2, "loudest", "(I)I"⟩
abbrev cX2_foresee : ByteArray := prog_4_method_34_code
def yX2_foresee : MethodName := ⟨RX2, "foresee", "(II)I"⟩
abbrev cX2_advise : ByteArray := prog_4_method_35_code
def yX2_advise : MethodName := ⟨RX2, "advise", "(I)I"⟩
abbrev cX2_mean : ByteArray := prog_4_method_36_code
def yX2_mean : MethodName := ⟨RX2, "mean", "()D"⟩
abbrev cX2_digest : ByteArray := prog_4_method_37_code
def yX2_digest : MethodName := ⟨RX2, "digest", "()J"⟩
def RJx8e188 : String := "java/lang/Cloneable"
def TJx8e188 : u_T := fun k => match k with
  | _ => ("", "", "", false)
def tyJx8e188 : Nat → FieldType := fun k => match k with
  | _ => .int
abbrev wsJx8e1880 : List Cond := u_ws RJx8e188 TJx8e188 0
theorem nmJx8e188 : ∀ a, a < 0 → ∀ b, b < 0 → a ≠ b → (TJx8e188 a).2.1 ≠ (TJx8e188 b).2.1 := by decide +kernel
theorem tyJx8e188_ok : ∀ k, k < 0 → parseFieldDescriptor (TJx8e188 k).2.2.1 = some (tyJx8e188 k) := by decide +kernel
def RJ9 : String := "java/lang/Math"
def TJ9 : u_T := fun k => match k with
  | _ => ("", "", "", false)
def tyJ9 : Nat → FieldType := fun k => match k with
  | _ => .int
abbrev wsJ90 : List Cond := u_ws RJ9 TJ9 0
theorem nmJ9 : ∀ a, a < 0 → ∀ b, b < 0 → a ≠ b → (TJ9 a).2.1 ≠ (TJ9 b).2.1 := by decide +kernel
theorem tyJ9_ok : ∀ k, k < 0 → parseFieldDescriptor (TJ9 k).2.2.1 = some (tyJ9 k) := by decide +kernel
abbrev cJ9_floorMod_7cf53 : ByteArray := prog_10_method_50_code
def yJ9_floorMod_7cf53 : MethodName := ⟨RJ9, "floorMod", "(II)I"⟩
abbrev cJ9_abs_0f7a4 : ByteArray := prog_10_method_59_code
def yJ9_abs_0f7a4 : MethodName := ⟨RJ9, "abs", "(I)I"⟩
abbrev cJ9_max_7cf53 : ByteArray := prog_10_method_65_code
def yJ9_max_7cf53 : MethodName := ⟨RJ9, "max", "(II)I"⟩
abbrev cJ9_min_7cf53 : ByteArray := prog_10_method_69_code
def yJ9_min_7cf53 : MethodName := ⟨RJ9, "min", "(II)I"⟩
def RJ0 : String := "java/lang/String"
def TJ0 : u_T := fun k => match k with
  | _ => ("", "", "", false)
def tyJ0 : Nat → FieldType := fun k => match k with
  | _ => .int
abbrev wsJ00 : List Cond := u_ws RJ0 TJ0 0
theorem nmJ0 : ∀ a, a < 0 → ∀ b, b < 0 → a ≠ b → (TJ0 a).2.1 ≠ (TJ0 b).2.1 := by decide +kernel
theorem tyJ0_ok : ∀ k, k < 0 → parseFieldDescriptor (TJ0 k).2.2.1 = some (tyJ0 k) := by decide +kernel
def RJ10 : String := "java/lang/System"
def TJ10 : u_T := fun k => match k with
  | _ => ("", "", "", false)
def tyJ10 : Nat → FieldType := fun k => match k with
  | _ => .int
abbrev wsJ100 : List Cond := u_ws RJ10 TJ10 0
theorem nmJ10 : ∀ a, a < 0 → ∀ b, b < 0 → a ≠ b → (TJ10 a).2.1 ≠ (TJ10 b).2.1 := by decide +kernel
theorem tyJ10_ok : ∀ k, k < 0 → parseFieldDescriptor (TJ10 k).2.2.1 = some (tyJ10 k) := by decide +kernel
def RL : String := "CuckooShopLaw"
abbrev cL_come : ByteArray := method_3_code
def yL_come : MethodName := ⟨RL, "come", "(LCuckooShop;I[J)I"⟩
abbrev cL_gear : ByteArray := method_4_code
def yL_gear : MethodName := ⟨RL, "gear", "(LCuckooShop;IIII[J)I"⟩
abbrev cL_set : ByteArray := method_5_code
def yL_set : MethodName := ⟨RL, "set", "(LCuckooShop;II[J)I"⟩
abbrev cL_wind : ByteArray := method_6_code
def yL_wind : MethodName := ⟨RL, "wind", "(LCuckooShop;I[J)I"⟩
abbrev cL_mend : ByteArray := method_7_code
def yL_mend : MethodName := ⟨RL, "mend", "(LCuckooShop;II[J)I"⟩
abbrev cL_shut : ByteArray := method_8_code
def yL_shut : MethodName := ⟨RL, "shut", "(LCuckooShop;III[J)I"⟩
abbrev cL_clock : ByteArray := method_9_code
def yL_clock : MethodName := ⟨RL, "clock", "(LCuckooShop;II[J)I"⟩
abbrev cL_off : ByteArray := method_10_code
def yL_off : MethodName := ⟨RL, "off", "(LCuckooShop;I[J)I"⟩
abbrev cL_count : ByteArray := method_11_code
def yL_count : MethodName := ⟨RL, "count", "(LCuckooShop;I[J)I"⟩
abbrev cL_pass : ByteArray := method_12_code
def yL_pass : MethodName := ⟨RL, "pass", "(LCuckooShop;I[J)I"⟩
abbrev cL_next : ByteArray := method_13_code
def yL_next : MethodName := ⟨RL, "next", "(LCuckooShop;I[J)I"⟩
abbrev cL_stands : ByteArray := method_14_code
def yL_stands : MethodName := ⟨RL, "stands", "(LCuckooShop;I[J)I"⟩
abbrev cL_loudest : ByteArray := method_15_code
def yL_loudest : MethodName := ⟨RL, "loudest", "(LCuckooShop;I[J)I"⟩
abbrev cL_foresee : ByteArray := method_16_code
def yL_foresee : MethodName := ⟨RL, "foresee", "(LCuckooShop;II[J)I"⟩
abbrev cL_advise : ByteArray := method_17_code
def yL_advise : MethodName := ⟨RL, "advise", "(LCuckooShop;I[J)I"⟩
abbrev cL_law : ByteArray := code
def yL_law : MethodName := ⟨RL, "law", "([I)Z"⟩
def wsX0_init : List Cond := .code yX0_init cX0_init 1 none :: ([.methodLink RX0 3 objectInit, .instanceMethod objectInit, .code objectInit ⟨#[0xb1]⟩ 1 none, .fieldLink RX0 9 "CuckooShop$Clock" "gearA" "I", .fieldLink RX0 15 "CuckooShop$Clock" "gearB" "I", .fieldLink RX0 18 "CuckooShop$Clock" "swing" "I", .fieldLink RX0 21 "CuckooShop$Clock" "chain" "I", .fieldLink RX0 24 "CuckooShop$Clock" "oil" "I", .fieldLink RX0 27 "CuckooShop$Clock" "bellows" "I", .fieldLink RX0 30 "CuckooShop$Clock" "goes" "Z", .fieldLink RX0 34 "CuckooShop$Clock" "shown" "I", .fieldLink RX0 37 "CuckooShop$Clock" "rest" "I", .fieldLink RX0 40 "CuckooShop$Clock" "shutFrom" "I", .fieldLink RX0 43 "CuckooShop$Clock" "shutTill" "I", .fieldLink RX0 46 "CuckooShop$Clock" "calls" "I", .fieldLink RX0 49 "CuckooShop$Clock" "missed" "I", .fieldLink RX0 52 "CuckooShop$Clock" "latestCalls" "I"] ++ wsX00)
def wsX0_copyFrom : List Cond := .code yX0_copyFrom cX0_copyFrom 2 none :: ([.fieldLink RX0 9 "CuckooShop$Clock" "gearA" "I", .fieldLink RX0 15 "CuckooShop$Clock" "gearB" "I", .fieldLink RX0 18 "CuckooShop$Clock" "swing" "I", .fieldLink RX0 21 "CuckooShop$Clock" "chain" "I", .fieldLink RX0 24 "CuckooShop$Clock" "oil" "I", .fieldLink RX0 27 "CuckooShop$Clock" "bellows" "I", .fieldLink RX0 30 "CuckooShop$Clock" "goes" "Z", .fieldLink RX0 34 "CuckooShop$Clock" "shown" "I", .fieldLink RX0 37 "CuckooShop$Clock" "rest" "I", .fieldLink RX0 40 "CuckooShop$Clock" "shutFrom" "I", .fieldLink RX0 43 "CuckooShop$Clock" "shutTill" "I", .fieldLink RX0 46 "CuckooShop$Clock" "calls" "I", .fieldLink RX0 49 "CuckooShop$Clock" "missed" "I", .fieldLink RX0 52 "CuckooShop$Clock" "latestCalls" "I"] ++ wsX00)
def wsX0_putHands : List Cond := .code yX0_putHands cX0_putHands 2 none :: ([.fieldLink RX0 34 "CuckooShop$Clock" "shown" "I", .fieldLink RX0 37 "CuckooShop$Clock" "rest" "I"] ++ wsX00)
def wsX0_fitTrain : List Cond := .code yX0_fitTrain cX0_fitTrain 4 none :: ([.fieldLink RX0 9 "CuckooShop$Clock" "gearA" "I", .fieldLink RX0 15 "CuckooShop$Clock" "gearB" "I", .fieldLink RX0 18 "CuckooShop$Clock" "swing" "I"] ++ wsX00)
def wsX0_drawUp : List Cond := .code yX0_drawUp cX0_drawUp 2 (some .int) :: ([.fieldLink RX0 21 "CuckooShop$Clock" "chain" "I", .fieldLink RX0 30 "CuckooShop$Clock" "goes" "Z"] ++ wsX00)
def wsX0_fillOil : List Cond := .code yX0_fillOil cX0_fillOil 2 (some .int) :: ([.fieldLink RX0 24 "CuckooShop$Clock" "oil" "I"] ++ wsX00)
def wsX0_patchBellows : List Cond := .code yX0_patchBellows cX0_patchBellows 2 (some .int) :: ([.fieldLink RX0 27 "CuckooShop$Clock" "bellows" "I"] ++ wsX00)
def wsX0_nudge : List Cond := .code yX0_nudge cX0_nudge 1 (some .int) :: ([.fieldLink RX0 30 "CuckooShop$Clock" "goes" "Z", .fieldLink RX0 21 "CuckooShop$Clock" "chain" "I"] ++ wsX00)
def wsX0_silence : List Cond := .code yX0_silence cX0_silence 4 (some .int) :: ([.fieldLink RX0 40 "CuckooShop$Clock" "shutFrom" "I", .fieldLink RX0 43 "CuckooShop$Clock" "shutTill" "I"] ++ wsX00)
def wsX0_advanceWith : List Cond := .code yX0_advanceWith cX0_advanceWith 4 (some .int) :: ([.fieldLink RX0 18 "CuckooShop$Clock" "swing" "I", .fieldLink RX0 24 "CuckooShop$Clock" "oil" "I"] ++ wsX00)
def wsX0_advance : List Cond := .code yX0_advance cX0_advance 1 (some .int) :: ([.fieldLink RX0 9 "CuckooShop$Clock" "gearA" "I", .fieldLink RX0 15 "CuckooShop$Clock" "gearB" "I", .methodLink RX0 55 yX0_advanceWith, .instanceMethod yX0_advanceWith, .selects RX0 yX0_advanceWith yX0_advanceWith, .initialized RX0, .code yX0_advanceWith cX0_advanceWith 4 (some .int), .fieldLink RX0 18 "CuckooShop$Clock" "swing" "I", .fieldLink RX0 24 "CuckooShop$Clock" "oil" "I"] ++ wsX00)
def wsX0_truestGears : List Cond := .code yX0_truestGears cX0_truestGears 6 (some .int) :: ([.constant RX0 59 (1000000), .methodLink RX0 60 Lib.Math.abs.name, .static Lib.Math.abs.name, .initialized "java/lang/Math", .code Lib.Math.abs.name Lib.Math.abs.code 1 (some .int), .methodLink RX0 55 yX0_advanceWith, .instanceMethod yX0_advanceWith, .selects RX0 yX0_advanceWith yX0_advanceWith, .initialized RX0, .code yX0_advanceWith cX0_advanceWith 4 (some .int), .fieldLink RX0 18 "CuckooShop$Clock" "swing" "I", .fieldLink RX0 24 "CuckooShop$Clock" "oil" "I"] ++ wsX00)
def wsX0_isShutAt : List Cond := .code yX0_isShutAt cX0_isShutAt 2 (some .boolean) :: ([.fieldLink RX0 40 "CuckooShop$Clock" "shutFrom" "I", .fieldLink RX0 43 "CuckooShop$Clock" "shutTill" "I"] ++ wsX00)
def wsX0_callsDueAt : List Cond := .code yX0_callsDueAt cX0_callsDueAt 1 (some .int) :: ([])
def wsX0_cuckoo : List Cond := .code yX0_cuckoo cX0_cuckoo 3 none :: ([.fieldLink RX0 27 "CuckooShop$Clock" "bellows" "I", .methodLink RX0 87 Lib.Math.min.name, .static Lib.Math.min.name, .initialized "java/lang/Math", .code Lib.Math.min.name Lib.Math.min.code 2 (some .int), .fieldLink RX0 46 "CuckooShop$Clock" "calls" "I", .fieldLink RX0 52 "CuckooShop$Clock" "latestCalls" "I", .fieldLink RX0 49 "CuckooShop$Clock" "missed" "I"] ++ wsX00)
def wsX0_turn_r1 : List Cond := [Cond.fieldLink RX0 37 "CuckooShop$Clock" "rest" "I", Cond.fieldLink RX0 34 "CuckooShop$Clock" "shown" "I", Cond.methodLink RX0 73 yX0_advance, Cond.instanceMethod yX0_advance, Cond.selects RX0 yX0_advance yX0_advance, Cond.initialized RX0, Cond.code yX0_advance cX0_advance 1 (some .int), Cond.fieldLink RX0 9 "CuckooShop$Clock" "gearA" "I", Cond.fieldLink RX0 15 "CuckooShop$Clock" "gearB" "I", Cond.methodLink RX0 55 yX0_advanceWith, Cond.instanceMethod yX0_advanceWith, Cond.selects RX0 yX0_advanceWith yX0_advanceWith, Cond.code yX0_advanceWith cX0_advanceWith 4 (some .int), Cond.fieldLink RX0 18 "CuckooShop$Clock" "swing" "I", Cond.fieldLink RX0 24 "CuckooShop$Clock" "oil" "I", Cond.methodLink RX0 77 yX0_isShutAt, Cond.instanceMethod yX0_isShutAt, Cond.selects RX0 yX0_isShutAt yX0_isShutAt, Cond.code yX0_isShutAt cX0_isShutAt 2 (some .boolean), Cond.fieldLink RX0 40 "CuckooShop$Clock" "shutFrom" "I", Cond.fieldLink RX0 43 "CuckooShop$Clock" "shutTill" "I", Cond.methodLink RX0 81 yX0_callsDueAt, Cond.static yX0_callsDueAt, Cond.code yX0_callsDueAt cX0_callsDueAt 1 (some .int)]
def wsX0_turn_r2 : List Cond := [Cond.methodLink RX0 84 yX0_cuckoo, Cond.instanceMethod yX0_cuckoo, Cond.selects RX0 yX0_cuckoo yX0_cuckoo, Cond.code yX0_cuckoo cX0_cuckoo 3 none, Cond.fieldLink RX0 27 "CuckooShop$Clock" "bellows" "I", Cond.methodLink RX0 87 Lib.Math.min.name, Cond.static Lib.Math.min.name, Cond.initialized "java/lang/Math", Cond.code Lib.Math.min.name Lib.Math.min.code 2 (some .int), Cond.fieldLink RX0 46 "CuckooShop$Clock" "calls" "I", Cond.fieldLink RX0 52 "CuckooShop$Clock" "latestCalls" "I", Cond.fieldLink RX0 49 "CuckooShop$Clock" "missed" "I"]
def wsX0_turn : List Cond := .code yX0_turn cX0_turn 3 none :: ((wsX0_turn_r1 ++ wsX0_turn_r2) ++ wsX00)
def wsX0_wear : List Cond := .code yX0_wear cX0_wear 2 none :: ([.fieldLink RX0 21 "CuckooShop$Clock" "chain" "I", .fieldLink RX0 24 "CuckooShop$Clock" "oil" "I", .fieldLink RX0 30 "CuckooShop$Clock" "goes" "Z"] ++ wsX00)
def wsX0_runMinute_r1 : List Cond := [Cond.fieldLink RX0 52 "CuckooShop$Clock" "latestCalls" "I", Cond.fieldLink RX0 30 "CuckooShop$Clock" "goes" "Z", Cond.methodLink RX0 66 yX0_turn, Cond.instanceMethod yX0_turn, Cond.selects RX0 yX0_turn yX0_turn, Cond.initialized RX0, Cond.code yX0_turn cX0_turn 3 none, Cond.fieldLink RX0 37 "CuckooShop$Clock" "rest" "I", Cond.fieldLink RX0 34 "CuckooShop$Clock" "shown" "I", Cond.methodLink RX0 73 yX0_advance, Cond.instanceMethod yX0_advance, Cond.selects RX0 yX0_advance yX0_advance, Cond.code yX0_advance cX0_advance 1 (some .int), Cond.fieldLink RX0 9 "CuckooShop$Clock" "gearA" "I", Cond.fieldLink RX0 15 "CuckooShop$Clock" "gearB" "I", Cond.methodLink RX0 55 yX0_advanceWith, Cond.instanceMethod yX0_advanceWith, Cond.selects RX0 yX0_advanceWith yX0_advanceWith, Cond.code yX0_advanceWith cX0_advanceWith 4 (some .int), Cond.fieldLink RX0 18 "CuckooShop$Clock" "swing" "I", Cond.fieldLink RX0 24 "CuckooShop$Clock" "oil" "I", Cond.methodLink RX0 77 yX0_isShutAt, Cond.instanceMethod yX0_isShutAt, Cond.selects RX0 yX0_isShutAt yX0_isShutAt]
def wsX0_runMinute_r2 : List Cond := [Cond.code yX0_isShutAt cX0_isShutAt 2 (some .boolean), Cond.fieldLink RX0 40 "CuckooShop$Clock" "shutFrom" "I", Cond.fieldLink RX0 43 "CuckooShop$Clock" "shutTill" "I", Cond.methodLink RX0 81 yX0_callsDueAt, Cond.static yX0_callsDueAt, Cond.code yX0_callsDueAt cX0_callsDueAt 1 (some .int), Cond.methodLink RX0 84 yX0_cuckoo, Cond.instanceMethod yX0_cuckoo, Cond.selects RX0 yX0_cuckoo yX0_cuckoo, Cond.code yX0_cuckoo cX0_cuckoo 3 none, Cond.fieldLink RX0 27 "CuckooShop$Clock" "bellows" "I", Cond.methodLink RX0 87 Lib.Math.min.name, Cond.static Lib.Math.min.name, Cond.initialized "java/lang/Math", Cond.code Lib.Math.min.name Lib.Math.min.code 2 (some .int), Cond.fieldLink RX0 46 "CuckooShop$Clock" "calls" "I", Cond.fieldLink RX0 49 "CuckooShop$Clock" "missed" "I", Cond.methodLink RX0 69 yX0_wear, Cond.instanceMethod yX0_wear, Cond.selects RX0 yX0_wear yX0_wear, Cond.code yX0_wear cX0_wear 2 none, Cond.fieldLink RX0 21 "CuckooShop$Clock" "chain" "I"]
def wsX0_runMinute : List Cond := .code yX0_runMinute cX0_runMinute 2 none :: ((wsX0_runMinute_r1 ++ wsX0_runMinute_r2) ++ wsX00)
def wsX0_minutesToStand : List Cond := .code yX0_minutesToStand cX0_minutesToStand 1 (some .int) :: ([.fieldLink RX0 30 "CuckooShop$Clock" "goes" "Z", .fieldLink RX0 21 "CuckooShop$Clock" "chain" "I"] ++ wsX00)
def wsX0_reading_r1 : List Cond := [Cond.fieldLink RX0 34 "CuckooShop$Clock" "shown" "I", Cond.fieldLink RX0 37 "CuckooShop$Clock" "rest" "I", Cond.fieldLink RX0 21 "CuckooShop$Clock" "chain" "I", Cond.fieldLink RX0 24 "CuckooShop$Clock" "oil" "I", Cond.fieldLink RX0 27 "CuckooShop$Clock" "bellows" "I", Cond.fieldLink RX0 30 "CuckooShop$Clock" "goes" "Z", Cond.fieldLink RX0 46 "CuckooShop$Clock" "calls" "I", Cond.fieldLink RX0 49 "CuckooShop$Clock" "missed" "I", Cond.fieldLink RX0 52 "CuckooShop$Clock" "latestCalls" "I", Cond.methodLink RX0 73 yX0_advance, Cond.instanceMethod yX0_advance, Cond.selects RX0 yX0_advance yX0_advance, Cond.initialized RX0, Cond.code yX0_advance cX0_advance 1 (some .int), Cond.fieldLink RX0 9 "CuckooShop$Clock" "gearA" "I", Cond.fieldLink RX0 15 "CuckooShop$Clock" "gearB" "I", Cond.methodLink RX0 55 yX0_advanceWith, Cond.instanceMethod yX0_advanceWith, Cond.selects RX0 yX0_advanceWith yX0_advanceWith, Cond.code yX0_advanceWith cX0_advanceWith 4 (some .int), Cond.fieldLink RX0 18 "CuckooShop$Clock" "swing" "I", Cond.methodLink RX0 77 yX0_isShutAt, Cond.instanceMethod yX0_isShutAt, Cond.selects RX0 yX0_isShutAt yX0_isShutAt]
def wsX0_reading_r2 : List Cond := [Cond.code yX0_isShutAt cX0_isShutAt 2 (some .boolean), Cond.fieldLink RX0 40 "CuckooShop$Clock" "shutFrom" "I", Cond.fieldLink RX0 43 "CuckooShop$Clock" "shutTill" "I"]
def wsX0_reading : List Cond := .code yX0_reading cX0_reading 2 (some .int) :: ((wsX0_reading_r1 ++ wsX0_reading_r2) ++ wsX00)
def wsX0_mixInto_r1 : List Cond := [Cond.constantLong RX0 90 (31), Cond.fieldLink RX0 9 "CuckooShop$Clock" "gearA" "I", Cond.fieldLink RX0 15 "CuckooShop$Clock" "gearB" "I", Cond.fieldLink RX0 18 "CuckooShop$Clock" "swing" "I", Cond.fieldLink RX0 40 "CuckooShop$Clock" "shutFrom" "I", Cond.fieldLink RX0 43 "CuckooShop$Clock" "shutTill" "I", Cond.methodLink RX0 92 yX0_reading, Cond.instanceMethod yX0_reading, Cond.selects RX0 yX0_reading yX0_reading, Cond.initialized RX0, Cond.code yX0_reading cX0_reading 2 (some .int), Cond.fieldLink RX0 34 "CuckooShop$Clock" "shown" "I", Cond.fieldLink RX0 37 "CuckooShop$Clock" "rest" "I", Cond.fieldLink RX0 21 "CuckooShop$Clock" "chain" "I", Cond.fieldLink RX0 24 "CuckooShop$Clock" "oil" "I", Cond.fieldLink RX0 27 "CuckooShop$Clock" "bellows" "I", Cond.fieldLink RX0 30 "CuckooShop$Clock" "goes" "Z", Cond.fieldLink RX0 46 "CuckooShop$Clock" "calls" "I", Cond.fieldLink RX0 49 "CuckooShop$Clock" "missed" "I", Cond.fieldLink RX0 52 "CuckooShop$Clock" "latestCalls" "I", Cond.methodLink RX0 73 yX0_advance, Cond.instanceMethod yX0_advance, Cond.selects RX0 yX0_advance yX0_advance, Cond.code yX0_advance cX0_advance 1 (some .int)]
def wsX0_mixInto_r2 : List Cond := [Cond.methodLink RX0 55 yX0_advanceWith, Cond.instanceMethod yX0_advanceWith, Cond.selects RX0 yX0_advanceWith yX0_advanceWith, Cond.code yX0_advanceWith cX0_advanceWith 4 (some .int), Cond.methodLink RX0 77 yX0_isShutAt, Cond.instanceMethod yX0_isShutAt, Cond.selects RX0 yX0_isShutAt yX0_isShutAt, Cond.code yX0_isShutAt cX0_isShutAt 2 (some .boolean)]
def wsX0_mixInto : List Cond := .code yX0_mixInto cX0_mixInto 6 (some .long) :: ((wsX0_mixInto_r1 ++ wsX0_mixInto_r2) ++ wsX00)
def wsX1_init_r1 : List Cond := [Cond.methodLink RX1 1 objectInit, Cond.instanceMethod objectInit, Cond.code objectInit ⟨#[0xb1]⟩ 1 none, Cond.classLink RX1 9 RX0, Cond.fieldLink RX1 11 "CuckooShop" "clocks" "[LCuckooShop$Clock;", Cond.fieldLink RX1 15 "CuckooShop" "copies" "[LCuckooShop$Clock;", Cond.instantiable RX0 14, Cond.initialized RX0, Cond.fieldLink RX1 19 "CuckooShop" "present" "I", Cond.fieldLink RX1 23 "CuckooShop" "minute" "I", Cond.instanceMethod yX0_init, Cond.code yX0_init cX0_init 1 none, Cond.methodLink RX0 3 objectInit, Cond.fieldLink RX0 9 "CuckooShop$Clock" "gearA" "I", Cond.fieldLink RX0 15 "CuckooShop$Clock" "gearB" "I", Cond.fieldLink RX0 18 "CuckooShop$Clock" "swing" "I", Cond.fieldLink RX0 21 "CuckooShop$Clock" "chain" "I", Cond.fieldLink RX0 24 "CuckooShop$Clock" "oil" "I", Cond.fieldLink RX0 27 "CuckooShop$Clock" "bellows" "I", Cond.fieldLink RX0 30 "CuckooShop$Clock" "goes" "Z", Cond.fieldLink RX0 34 "CuckooShop$Clock" "shown" "I", Cond.fieldLink RX0 37 "CuckooShop$Clock" "rest" "I", Cond.fieldLink RX0 40 "CuckooShop$Clock" "shutFrom" "I", Cond.fieldLink RX0 43 "CuckooShop$Clock" "shutTill" "I"]
def wsX1_init_r2 : List Cond := [Cond.fieldLink RX0 46 "CuckooShop$Clock" "calls" "I", Cond.fieldLink RX0 49 "CuckooShop$Clock" "missed" "I", Cond.fieldLink RX0 52 "CuckooShop$Clock" "latestCalls" "I"]
def wsX1_init : List Cond := .code yX1_init cX1_init 2 none :: ((wsX1_init_r1 ++ wsX1_init_r2) ++ wsX10 ++ wsX00)
def wsX1_isWithin : List Cond := .code yX1_isWithin cX1_isWithin 3 (some .boolean) :: ([])
def wsX1_checkTime : List Cond := .code yX1_checkTime cX1_checkTime 1 none :: ([.classLink RX1 47 "java/lang/IllegalArgumentException", .initialized "java/lang/IllegalArgumentException", .methodLink RX1 43 yX1_isWithin, .static yX1_isWithin, .initialized RX1, .code yX1_isWithin cX1_isWithin 3 (some .boolean)] ++ (vx_atS RX1 51 "java/lang/IllegalArgumentException" ["java/lang/RuntimeException", "java/lang/Exception"]).filter goodWord)
def wsX1_come : List Cond := .code yX1_come cX1_come 2 (some .int) :: ([.classLink RX1 30 "java/lang/IllegalStateException", .initialized "java/lang/IllegalStateException", .fieldLink RX1 19 "CuckooShop" "present" "I", .fieldLink RX1 11 "CuckooShop" "clocks" "[LCuckooShop$Clock;", .methodLink RX1 26 yX1_checkTime, .static yX1_checkTime, .initialized RX1, .code yX1_checkTime cX1_checkTime 1 none, .classLink RX1 47 "java/lang/IllegalArgumentException", .initialized "java/lang/IllegalArgumentException", .methodLink RX1 43 yX1_isWithin, .static yX1_isWithin, .code yX1_isWithin cX1_isWithin 3 (some .boolean), .instanceMethod yX0_putHands, .initialized RX0, .selects RX0 yX0_putHands yX0_putHands, .code yX0_putHands cX0_putHands 2 none, .fieldLink RX0 34 "CuckooShop$Clock" "shown" "I", .fieldLink RX0 37 "CuckooShop$Clock" "rest" "I"] ++ wsX10 ++ wsX00 ++ (vx_atS RX1 34 "java/lang/IllegalStateException" ["java/lang/RuntimeException", "java/lang/Exception"]).filter goodWord ++ (vx_atS RX1 51 "java/lang/IllegalArgumentException" ["java/lang/RuntimeException", "java/lang/Exception"]).filter goodWord)
def wsX1_checkClock : List Cond := .code yX1_checkClock cX1_checkClock 2 none :: ([.classLink RX1 86 "java/lang/IndexOutOfBoundsException", .initialized "java/lang/IndexOutOfBoundsException", .fieldLink RX1 19 "CuckooShop" "present" "I"] ++ wsX10 ++ (vx_atS RX1 90 "java/lang/IndexOutOfBoundsException" ["java/lang/RuntimeException", "java/lang/Exception"]).filter goodWord)
def wsX1_gear_r1 : List Cond := [Cond.classLink RX1 47 "java/lang/IllegalArgumentException", Cond.initialized "java/lang/IllegalArgumentException", Cond.fieldLink RX1 11 "CuckooShop" "clocks" "[LCuckooShop$Clock;", Cond.methodLink RX1 40 yX1_checkClock, Cond.instanceMethod yX1_checkClock, Cond.selects RX1 yX1_checkClock yX1_checkClock, Cond.initialized RX1, Cond.code yX1_checkClock cX1_checkClock 2 none, Cond.classLink RX1 86 "java/lang/IndexOutOfBoundsException", Cond.initialized "java/lang/IndexOutOfBoundsException", Cond.fieldLink RX1 19 "CuckooShop" "present" "I", Cond.methodLink RX1 43 yX1_isWithin, Cond.static yX1_isWithin, Cond.code yX1_isWithin cX1_isWithin 3 (some .boolean), Cond.instanceMethod yX0_fitTrain, Cond.initialized RX0, Cond.selects RX0 yX0_fitTrain yX0_fitTrain, Cond.code yX0_fitTrain cX0_fitTrain 4 none, Cond.fieldLink RX0 9 "CuckooShop$Clock" "gearA" "I", Cond.fieldLink RX0 15 "CuckooShop$Clock" "gearB" "I", Cond.fieldLink RX0 18 "CuckooShop$Clock" "swing" "I", Cond.instanceMethod yX0_advance, Cond.selects RX0 yX0_advance yX0_advance, Cond.code yX0_advance cX0_advance 1 (some .int)]
def wsX1_gear_r2 : List Cond := [Cond.methodLink RX0 55 yX0_advanceWith, Cond.instanceMethod yX0_advanceWith, Cond.selects RX0 yX0_advanceWith yX0_advanceWith, Cond.code yX0_advanceWith cX0_advanceWith 4 (some .int), Cond.fieldLink RX0 24 "CuckooShop$Clock" "oil" "I"]
def wsX1_gear : List Cond := .code yX1_gear cX1_gear 5 (some .int) :: ((wsX1_gear_r1 ++ wsX1_gear_r2) ++ wsX10 ++ wsX00 ++ (vx_atS RX1 51 "java/lang/IllegalArgumentException" ["java/lang/RuntimeException", "java/lang/Exception"]).filter goodWord ++ (vx_atS RX1 90 "java/lang/IndexOutOfBoundsException" ["java/lang/RuntimeException", "java/lang/Exception"]).filter goodWord)
def wsJ9_floorMod_7cf53 : List Cond := .code yJ9_floorMod_7cf53 cJ9_floorMod_7cf53 3 (some .int) :: ([])
def wsX1_trueTime : List Cond := .code yX1_trueTime cX1_trueTime 1 (some .int) :: ([.methodLink RX1 152 yJ9_floorMod_7cf53, .static yJ9_floorMod_7cf53, .initialized RJ9, .code yJ9_floorMod_7cf53 cJ9_floorMod_7cf53 3 (some .int)])
def wsX1_offOf : List Cond := .code yX1_offOf cX1_offOf 3 (some .int) :: ([.methodLink RX1 160 yX1_trueTime, .static yX1_trueTime, .initialized RX1, .code yX1_trueTime cX1_trueTime 1 (some .int), .methodLink RX1 152 yJ9_floorMod_7cf53, .static yJ9_floorMod_7cf53, .initialized RJ9, .code yJ9_floorMod_7cf53 cJ9_floorMod_7cf53 3 (some .int)] ++ wsX00)
def wsX1_set_r1 : List Cond := [Cond.fieldLink RX1 11 "CuckooShop" "clocks" "[LCuckooShop$Clock;", Cond.fieldLink RX1 23 "CuckooShop" "minute" "I", Cond.methodLink RX1 40 yX1_checkClock, Cond.instanceMethod yX1_checkClock, Cond.selects RX1 yX1_checkClock yX1_checkClock, Cond.initialized RX1, Cond.code yX1_checkClock cX1_checkClock 2 none, Cond.classLink RX1 86 "java/lang/IndexOutOfBoundsException", Cond.initialized "java/lang/IndexOutOfBoundsException", Cond.fieldLink RX1 19 "CuckooShop" "present" "I", Cond.methodLink RX1 26 yX1_checkTime, Cond.static yX1_checkTime, Cond.code yX1_checkTime cX1_checkTime 1 none, Cond.classLink RX1 47 "java/lang/IllegalArgumentException", Cond.initialized "java/lang/IllegalArgumentException", Cond.methodLink RX1 43 yX1_isWithin, Cond.static yX1_isWithin, Cond.code yX1_isWithin cX1_isWithin 3 (some .boolean), Cond.methodLink RX1 62 yX1_offOf, Cond.static yX1_offOf, Cond.code yX1_offOf cX1_offOf 3 (some .int), Cond.methodLink RX1 160 yX1_trueTime, Cond.static yX1_trueTime, Cond.code yX1_trueTime cX1_trueTime 1 (some .int)]
def wsX1_set_r2 : List Cond := [Cond.methodLink RX1 152 yJ9_floorMod_7cf53, Cond.static yJ9_floorMod_7cf53, Cond.initialized RJ9, Cond.code yJ9_floorMod_7cf53 cJ9_floorMod_7cf53 3 (some .int), Cond.instanceMethod yX0_putHands, Cond.initialized RX0, Cond.selects RX0 yX0_putHands yX0_putHands, Cond.code yX0_putHands cX0_putHands 2 none, Cond.fieldLink RX0 34 "CuckooShop$Clock" "shown" "I", Cond.fieldLink RX0 37 "CuckooShop$Clock" "rest" "I"]
def wsX1_set : List Cond := .code yX1_set cX1_set 4 (some .int) :: ((wsX1_set_r1 ++ wsX1_set_r2) ++ wsX10 ++ wsX00 ++ (vx_atS RX1 90 "java/lang/IndexOutOfBoundsException" ["java/lang/RuntimeException", "java/lang/Exception"]).filter goodWord ++ (vx_atS RX1 51 "java/lang/IllegalArgumentException" ["java/lang/RuntimeException", "java/lang/Exception"]).filter goodWord)
def wsX1_wind : List Cond := .code yX1_wind cX1_wind 2 (some .int) :: ([.fieldLink RX1 11 "CuckooShop" "clocks" "[LCuckooShop$Clock;", .methodLink RX1 40 yX1_checkClock, .instanceMethod yX1_checkClock, .selects RX1 yX1_checkClock yX1_checkClock, .initialized RX1, .code yX1_checkClock cX1_checkClock 2 none, .classLink RX1 86 "java/lang/IndexOutOfBoundsException", .initialized "java/lang/IndexOutOfBoundsException", .fieldLink RX1 19 "CuckooShop" "present" "I", .instanceMethod yX0_drawUp, .initialized RX0, .selects RX0 yX0_drawUp yX0_drawUp, .code yX0_drawUp cX0_drawUp 2 (some .int), .fieldLink RX0 21 "CuckooShop$Clock" "chain" "I", .fieldLink RX0 30 "CuckooShop$Clock" "goes" "Z"] ++ wsX10 ++ wsX00 ++ (vx_atS RX1 90 "java/lang/IndexOutOfBoundsException" ["java/lang/RuntimeException", "java/lang/Exception"]).filter goodWord)
def wsX1_mend_r1 : List Cond := [Cond.classLink RX1 47 "java/lang/IllegalArgumentException", Cond.initialized "java/lang/IllegalArgumentException", Cond.fieldLink RX1 11 "CuckooShop" "clocks" "[LCuckooShop$Clock;", Cond.methodLink RX1 40 yX1_checkClock, Cond.instanceMethod yX1_checkClock, Cond.selects RX1 yX1_checkClock yX1_checkClock, Cond.initialized RX1, Cond.code yX1_checkClock cX1_checkClock 2 none, Cond.classLink RX1 86 "java/lang/IndexOutOfBoundsException", Cond.initialized "java/lang/IndexOutOfBoundsException", Cond.fieldLink RX1 19 "CuckooShop" "present" "I", Cond.instanceMethod yX0_fillOil, Cond.initialized RX0, Cond.selects RX0 yX0_fillOil yX0_fillOil, Cond.code yX0_fillOil cX0_fillOil 2 (some .int), Cond.fieldLink RX0 24 "CuckooShop$Clock" "oil" "I", Cond.instanceMethod yX0_patchBellows, Cond.selects RX0 yX0_patchBellows yX0_patchBellows, Cond.code yX0_patchBellows cX0_patchBellows 2 (some .int), Cond.fieldLink RX0 27 "CuckooShop$Clock" "bellows" "I", Cond.instanceMethod yX0_nudge, Cond.selects RX0 yX0_nudge yX0_nudge, Cond.code yX0_nudge cX0_nudge 1 (some .int), Cond.fieldLink RX0 30 "CuckooShop$Clock" "goes" "Z"]
def wsX1_mend_r2 : List Cond := [Cond.fieldLink RX0 21 "CuckooShop$Clock" "chain" "I"]
def wsX1_mend : List Cond := .code yX1_mend cX1_mend 3 (some .int) :: ((wsX1_mend_r1 ++ wsX1_mend_r2) ++ wsX10 ++ wsX00 ++ (vx_atS RX1 51 "java/lang/IllegalArgumentException" ["java/lang/RuntimeException", "java/lang/Exception"]).filter goodWord ++ (vx_atS RX1 90 "java/lang/IndexOutOfBoundsException" ["java/lang/RuntimeException", "java/lang/Exception"]).filter goodWord)
def wsX1_shut : List Cond := .code yX1_shut cX1_shut 4 (some .int) :: ([.classLink RX1 47 "java/lang/IllegalArgumentException", .initialized "java/lang/IllegalArgumentException", .fieldLink RX1 11 "CuckooShop" "clocks" "[LCuckooShop$Clock;", .methodLink RX1 40 yX1_checkClock, .instanceMethod yX1_checkClock, .selects RX1 yX1_checkClock yX1_checkClock, .initialized RX1, .code yX1_checkClock cX1_checkClock 2 none, .classLink RX1 86 "java/lang/IndexOutOfBoundsException", .initialized "java/lang/IndexOutOfBoundsException", .fieldLink RX1 19 "CuckooShop" "present" "I", .methodLink RX1 26 yX1_checkTime, .static yX1_checkTime, .code yX1_checkTime cX1_checkTime 1 none, .methodLink RX1 43 yX1_isWithin, .static yX1_isWithin, .code yX1_isWithin cX1_isWithin 3 (some .boolean), .instanceMethod yX0_silence, .initialized RX0, .selects RX0 yX0_silence yX0_silence, .code yX0_silence cX0_silence 4 (some .int), .fieldLink RX0 40 "CuckooShop$Clock" "shutFrom" "I", .fieldLink RX0 43 "CuckooShop$Clock" "shutTill" "I"] ++ wsX10 ++ wsX00 ++ (vx_atS RX1 51 "java/lang/IllegalArgumentException" ["java/lang/RuntimeException", "java/lang/Exception"]).filter goodWord ++ (vx_atS RX1 90 "java/lang/IndexOutOfBoundsException" ["java/lang/RuntimeException", "java/lang/Exception"]).filter goodWord)
def wsX1_clock_r1 : List Cond := [Cond.classLink RX1 86 "java/lang/IndexOutOfBoundsException", Cond.initialized "java/lang/IndexOutOfBoundsException", Cond.fieldLink RX1 11 "CuckooShop" "clocks" "[LCuckooShop$Clock;", Cond.methodLink RX1 40 yX1_checkClock, Cond.instanceMethod yX1_checkClock, Cond.selects RX1 yX1_checkClock yX1_checkClock, Cond.initialized RX1, Cond.code yX1_checkClock cX1_checkClock 2 none, Cond.fieldLink RX1 19 "CuckooShop" "present" "I", Cond.methodLink RX1 43 yX1_isWithin, Cond.static yX1_isWithin, Cond.code yX1_isWithin cX1_isWithin 3 (some .boolean), Cond.instanceMethod yX0_reading, Cond.initialized RX0, Cond.selects RX0 yX0_reading yX0_reading, Cond.code yX0_reading cX0_reading 2 (some .int), Cond.fieldLink RX0 34 "CuckooShop$Clock" "shown" "I", Cond.fieldLink RX0 37 "CuckooShop$Clock" "rest" "I", Cond.fieldLink RX0 21 "CuckooShop$Clock" "chain" "I", Cond.fieldLink RX0 24 "CuckooShop$Clock" "oil" "I", Cond.fieldLink RX0 27 "CuckooShop$Clock" "bellows" "I", Cond.fieldLink RX0 30 "CuckooShop$Clock" "goes" "Z", Cond.fieldLink RX0 46 "CuckooShop$Clock" "calls" "I", Cond.fieldLink RX0 49 "CuckooShop$Clock" "missed" "I"]
def wsX1_clock_r2 : List Cond := [Cond.fieldLink RX0 52 "CuckooShop$Clock" "latestCalls" "I", Cond.methodLink RX0 73 yX0_advance, Cond.instanceMethod yX0_advance, Cond.selects RX0 yX0_advance yX0_advance, Cond.code yX0_advance cX0_advance 1 (some .int), Cond.fieldLink RX0 9 "CuckooShop$Clock" "gearA" "I", Cond.fieldLink RX0 15 "CuckooShop$Clock" "gearB" "I", Cond.methodLink RX0 55 yX0_advanceWith, Cond.instanceMethod yX0_advanceWith, Cond.selects RX0 yX0_advanceWith yX0_advanceWith, Cond.code yX0_advanceWith cX0_advanceWith 4 (some .int), Cond.fieldLink RX0 18 "CuckooShop$Clock" "swing" "I", Cond.methodLink RX0 77 yX0_isShutAt, Cond.instanceMethod yX0_isShutAt, Cond.selects RX0 yX0_isShutAt yX0_isShutAt, Cond.code yX0_isShutAt cX0_isShutAt 2 (some .boolean), Cond.fieldLink RX0 40 "CuckooShop$Clock" "shutFrom" "I", Cond.fieldLink RX0 43 "CuckooShop$Clock" "shutTill" "I"]
def wsX1_clock : List Cond := .code yX1_clock cX1_clock 3 (some .int) :: ((wsX1_clock_r1 ++ wsX1_clock_r2) ++ wsX10 ++ wsX00 ++ (vx_atS RX1 90 "java/lang/IndexOutOfBoundsException" ["java/lang/RuntimeException", "java/lang/Exception"]).filter goodWord)
def wsX1_off : List Cond := .code yX1_off cX1_off 2 (some .int) :: ([.fieldLink RX1 11 "CuckooShop" "clocks" "[LCuckooShop$Clock;", .fieldLink RX1 23 "CuckooShop" "minute" "I", .methodLink RX1 40 yX1_checkClock, .instanceMethod yX1_checkClock, .selects RX1 yX1_checkClock yX1_checkClock, .initialized RX1, .code yX1_checkClock cX1_checkClock 2 none, .classLink RX1 86 "java/lang/IndexOutOfBoundsException", .initialized "java/lang/IndexOutOfBoundsException", .fieldLink RX1 19 "CuckooShop" "present" "I", .methodLink RX1 62 yX1_offOf, .static yX1_offOf, .code yX1_offOf cX1_offOf 3 (some .int), .methodLink RX1 160 yX1_trueTime, .static yX1_trueTime, .code yX1_trueTime cX1_trueTime 1 (some .int), .methodLink RX1 152 yJ9_floorMod_7cf53, .static yJ9_floorMod_7cf53, .initialized RJ9, .code yJ9_floorMod_7cf53 cJ9_floorMod_7cf53 3 (some .int)] ++ wsX10 ++ wsX00 ++ (vx_atS RX1 90 "java/lang/IndexOutOfBoundsException" ["java/lang/RuntimeException", "java/lang/Exception"]).filter goodWord)
def wsX1_sumOf_r1 : List Cond := [Cond.fieldLink RX1 19 "CuckooShop" "present" "I", Cond.instanceMethod yX0_reading, Cond.initialized RX0, Cond.selects RX0 yX0_reading yX0_reading, Cond.code yX0_reading cX0_reading 2 (some .int), Cond.fieldLink RX0 34 "CuckooShop$Clock" "shown" "I", Cond.fieldLink RX0 37 "CuckooShop$Clock" "rest" "I", Cond.fieldLink RX0 21 "CuckooShop$Clock" "chain" "I", Cond.fieldLink RX0 24 "CuckooShop$Clock" "oil" "I", Cond.fieldLink RX0 27 "CuckooShop$Clock" "bellows" "I", Cond.fieldLink RX0 30 "CuckooShop$Clock" "goes" "Z", Cond.fieldLink RX0 46 "CuckooShop$Clock" "calls" "I", Cond.fieldLink RX0 49 "CuckooShop$Clock" "missed" "I", Cond.fieldLink RX0 52 "CuckooShop$Clock" "latestCalls" "I", Cond.methodLink RX0 73 yX0_advance, Cond.instanceMethod yX0_advance, Cond.selects RX0 yX0_advance yX0_advance, Cond.code yX0_advance cX0_advance 1 (some .int), Cond.fieldLink RX0 9 "CuckooShop$Clock" "gearA" "I", Cond.fieldLink RX0 15 "CuckooShop$Clock" "gearB" "I", Cond.methodLink RX0 55 yX0_advanceWith, Cond.instanceMethod yX0_advanceWith, Cond.selects RX0 yX0_advanceWith yX0_advanceWith, Cond.code yX0_advanceWith cX0_advanceWith 4 (some .int)]
def wsX1_sumOf_r2 : List Cond := [Cond.fieldLink RX0 18 "CuckooShop$Clock" "swing" "I", Cond.methodLink RX0 77 yX0_isShutAt, Cond.instanceMethod yX0_isShutAt, Cond.selects RX0 yX0_isShutAt yX0_isShutAt, Cond.code yX0_isShutAt cX0_isShutAt 2 (some .boolean), Cond.fieldLink RX0 40 "CuckooShop$Clock" "shutFrom" "I", Cond.fieldLink RX0 43 "CuckooShop$Clock" "shutTill" "I"]
def wsX1_sumOf : List Cond := .code yX1_sumOf cX1_sumOf 5 (some .int) :: ((wsX1_sumOf_r1 ++ wsX1_sumOf_r2) ++ wsX10 ++ wsX00)
def wsX1_trueClocks : List Cond := .code yX1_trueClocks cX1_trueClocks 3 (some .int) :: ([.fieldLink RX1 19 "CuckooShop" "present" "I", .fieldLink RX1 11 "CuckooShop" "clocks" "[LCuckooShop$Clock;", .fieldLink RX1 23 "CuckooShop" "minute" "I", .methodLink RX1 62 yX1_offOf, .static yX1_offOf, .initialized RX1, .code yX1_offOf cX1_offOf 3 (some .int), .methodLink RX1 160 yX1_trueTime, .static yX1_trueTime, .code yX1_trueTime cX1_trueTime 1 (some .int), .methodLink RX1 152 yJ9_floorMod_7cf53, .static yJ9_floorMod_7cf53, .initialized RJ9, .code yJ9_floorMod_7cf53 cJ9_floorMod_7cf53 3 (some .int)] ++ wsX10 ++ wsX00)
def wsX1_offOfAll : List Cond := .code yX1_offOfAll cX1_offOfAll 5 (some .int) :: ([.fieldLink RX1 19 "CuckooShop" "present" "I", .methodLink RX1 166 Lib.Math.abs.name, .static Lib.Math.abs.name, .initialized "java/lang/Math", .code Lib.Math.abs.name Lib.Math.abs.code 1 (some .int), .methodLink RX1 62 yX1_offOf, .static yX1_offOf, .initialized RX1, .code yX1_offOf cX1_offOf 3 (some .int), .methodLink RX1 160 yX1_trueTime, .static yX1_trueTime, .code yX1_trueTime cX1_trueTime 1 (some .int), .methodLink RX1 152 yJ9_floorMod_7cf53, .static yJ9_floorMod_7cf53, .initialized RJ9, .code yJ9_floorMod_7cf53 cJ9_floorMod_7cf53 3 (some .int)] ++ wsX10 ++ wsX00)
def wsX1_tally_r1 : List Cond := [Cond.fieldLink RX1 23 "CuckooShop" "minute" "I", Cond.fieldLink RX1 19 "CuckooShop" "present" "I", Cond.fieldLink RX1 11 "CuckooShop" "clocks" "[LCuckooShop$Clock;", Cond.methodLink RX1 160 yX1_trueTime, Cond.static yX1_trueTime, Cond.initialized RX1, Cond.code yX1_trueTime cX1_trueTime 1 (some .int), Cond.methodLink RX1 152 yJ9_floorMod_7cf53, Cond.static yJ9_floorMod_7cf53, Cond.initialized RJ9, Cond.code yJ9_floorMod_7cf53 cJ9_floorMod_7cf53 3 (some .int), Cond.methodLink RX1 125 yX1_sumOf, Cond.instanceMethod yX1_sumOf, Cond.selects RX1 yX1_sumOf yX1_sumOf, Cond.code yX1_sumOf cX1_sumOf 5 (some .int), Cond.instanceMethod yX0_reading, Cond.initialized RX0, Cond.selects RX0 yX0_reading yX0_reading, Cond.code yX0_reading cX0_reading 2 (some .int), Cond.fieldLink RX0 34 "CuckooShop$Clock" "shown" "I", Cond.fieldLink RX0 37 "CuckooShop$Clock" "rest" "I", Cond.fieldLink RX0 21 "CuckooShop$Clock" "chain" "I", Cond.fieldLink RX0 24 "CuckooShop$Clock" "oil" "I", Cond.fieldLink RX0 27 "CuckooShop$Clock" "bellows" "I"]
def wsX1_tally_r2 : List Cond := [Cond.fieldLink RX0 30 "CuckooShop$Clock" "goes" "Z", Cond.fieldLink RX0 46 "CuckooShop$Clock" "calls" "I", Cond.fieldLink RX0 49 "CuckooShop$Clock" "missed" "I", Cond.fieldLink RX0 52 "CuckooShop$Clock" "latestCalls" "I", Cond.methodLink RX0 73 yX0_advance, Cond.instanceMethod yX0_advance, Cond.selects RX0 yX0_advance yX0_advance, Cond.code yX0_advance cX0_advance 1 (some .int), Cond.fieldLink RX0 9 "CuckooShop$Clock" "gearA" "I", Cond.fieldLink RX0 15 "CuckooShop$Clock" "gearB" "I", Cond.methodLink RX0 55 yX0_advanceWith, Cond.instanceMethod yX0_advanceWith, Cond.selects RX0 yX0_advanceWith yX0_advanceWith, Cond.code yX0_advanceWith cX0_advanceWith 4 (some .int), Cond.fieldLink RX0 18 "CuckooShop$Clock" "swing" "I", Cond.methodLink RX0 77 yX0_isShutAt, Cond.instanceMethod yX0_isShutAt, Cond.selects RX0 yX0_isShutAt yX0_isShutAt, Cond.code yX0_isShutAt cX0_isShutAt 2 (some .boolean), Cond.fieldLink RX0 40 "CuckooShop$Clock" "shutFrom" "I", Cond.fieldLink RX0 43 "CuckooShop$Clock" "shutTill" "I", Cond.methodLink RX1 163 yX1_trueClocks, Cond.instanceMethod yX1_trueClocks, Cond.selects RX1 yX1_trueClocks yX1_trueClocks]
def wsX1_tally_r3 : List Cond := [Cond.code yX1_trueClocks cX1_trueClocks 3 (some .int), Cond.methodLink RX1 62 yX1_offOf, Cond.static yX1_offOf, Cond.code yX1_offOf cX1_offOf 3 (some .int), Cond.methodLink RX1 128 yX1_offOfAll, Cond.instanceMethod yX1_offOfAll, Cond.selects RX1 yX1_offOfAll yX1_offOfAll, Cond.code yX1_offOfAll cX1_offOfAll 5 (some .int), Cond.methodLink RX1 166 Lib.Math.abs.name, Cond.static Lib.Math.abs.name, Cond.initialized "java/lang/Math", Cond.code Lib.Math.abs.name Lib.Math.abs.code 1 (some .int)]
def wsX1_tally : List Cond := .code yX1_tally cX1_tally 2 (some .int) :: ((wsX1_tally_r1 ++ (wsX1_tally_r2 ++ wsX1_tally_r3)) ++ wsX10 ++ wsX00)
def wsX1_count_r1 : List Cond := [Cond.classLink RX1 86 "java/lang/IndexOutOfBoundsException", Cond.initialized "java/lang/IndexOutOfBoundsException", Cond.methodLink RX1 43 yX1_isWithin, Cond.static yX1_isWithin, Cond.initialized RX1, Cond.code yX1_isWithin cX1_isWithin 3 (some .boolean), Cond.methodLink RX1 97 yX1_tally, Cond.instanceMethod yX1_tally, Cond.selects RX1 yX1_tally yX1_tally, Cond.code yX1_tally cX1_tally 2 (some .int), Cond.fieldLink RX1 23 "CuckooShop" "minute" "I", Cond.fieldLink RX1 19 "CuckooShop" "present" "I", Cond.fieldLink RX1 11 "CuckooShop" "clocks" "[LCuckooShop$Clock;", Cond.methodLink RX1 160 yX1_trueTime, Cond.static yX1_trueTime, Cond.code yX1_trueTime cX1_trueTime 1 (some .int), Cond.methodLink RX1 152 yJ9_floorMod_7cf53, Cond.static yJ9_floorMod_7cf53, Cond.initialized RJ9, Cond.code yJ9_floorMod_7cf53 cJ9_floorMod_7cf53 3 (some .int), Cond.methodLink RX1 125 yX1_sumOf, Cond.instanceMethod yX1_sumOf, Cond.selects RX1 yX1_sumOf yX1_sumOf, Cond.code yX1_sumOf cX1_sumOf 5 (some .int)]
def wsX1_count_r2 : List Cond := [Cond.instanceMethod yX0_reading, Cond.initialized RX0, Cond.selects RX0 yX0_reading yX0_reading, Cond.code yX0_reading cX0_reading 2 (some .int), Cond.fieldLink RX0 34 "CuckooShop$Clock" "shown" "I", Cond.fieldLink RX0 37 "CuckooShop$Clock" "rest" "I", Cond.fieldLink RX0 21 "CuckooShop$Clock" "chain" "I", Cond.fieldLink RX0 24 "CuckooShop$Clock" "oil" "I", Cond.fieldLink RX0 27 "CuckooShop$Clock" "bellows" "I", Cond.fieldLink RX0 30 "CuckooShop$Clock" "goes" "Z", Cond.fieldLink RX0 46 "CuckooShop$Clock" "calls" "I", Cond.fieldLink RX0 49 "CuckooShop$Clock" "missed" "I", Cond.fieldLink RX0 52 "CuckooShop$Clock" "latestCalls" "I", Cond.methodLink RX0 73 yX0_advance, Cond.instanceMethod yX0_advance, Cond.selects RX0 yX0_advance yX0_advance, Cond.code yX0_advance cX0_advance 1 (some .int), Cond.fieldLink RX0 9 "CuckooShop$Clock" "gearA" "I", Cond.fieldLink RX0 15 "CuckooShop$Clock" "gearB" "I", Cond.methodLink RX0 55 yX0_advanceWith, Cond.instanceMethod yX0_advanceWith, Cond.selects RX0 yX0_advanceWith yX0_advanceWith, Cond.code yX0_advanceWith cX0_advanceWith 4 (some .int), Cond.fieldLink RX0 18 "CuckooShop$Clock" "swing" "I"]
def wsX1_count_r3 : List Cond := [Cond.methodLink RX0 77 yX0_isShutAt, Cond.instanceMethod yX0_isShutAt, Cond.selects RX0 yX0_isShutAt yX0_isShutAt, Cond.code yX0_isShutAt cX0_isShutAt 2 (some .boolean), Cond.fieldLink RX0 40 "CuckooShop$Clock" "shutFrom" "I", Cond.fieldLink RX0 43 "CuckooShop$Clock" "shutTill" "I", Cond.methodLink RX1 163 yX1_trueClocks, Cond.instanceMethod yX1_trueClocks, Cond.selects RX1 yX1_trueClocks yX1_trueClocks, Cond.code yX1_trueClocks cX1_trueClocks 3 (some .int), Cond.methodLink RX1 62 yX1_offOf, Cond.static yX1_offOf, Cond.code yX1_offOf cX1_offOf 3 (some .int), Cond.methodLink RX1 128 yX1_offOfAll, Cond.instanceMethod yX1_offOfAll, Cond.selects RX1 yX1_offOfAll yX1_offOfAll, Cond.code yX1_offOfAll cX1_offOfAll 5 (some .int), Cond.methodLink RX1 166 Lib.Math.abs.name, Cond.static Lib.Math.abs.name, Cond.initialized "java/lang/Math", Cond.code Lib.Math.abs.name Lib.Math.abs.code 1 (some .int)]
def wsX1_count : List Cond := .code yX1_count cX1_count 2 (some .int) :: ((wsX1_count_r1 ++ (wsX1_count_r2 ++ wsX1_count_r3)) ++ wsX10 ++ wsX00 ++ (vx_atS RX1 90 "java/lang/IndexOutOfBoundsException" ["java/lang/RuntimeException", "java/lang/Exception"]).filter goodWord)
def wsX1_checkMinutes : List Cond := .code yX1_checkMinutes cX1_checkMinutes 1 none :: ([.classLink RX1 47 "java/lang/IllegalArgumentException", .initialized "java/lang/IllegalArgumentException", .methodLink RX1 43 yX1_isWithin, .static yX1_isWithin, .initialized RX1, .code yX1_isWithin cX1_isWithin 3 (some .boolean)] ++ (vx_atS RX1 51 "java/lang/IllegalArgumentException" ["java/lang/RuntimeException", "java/lang/Exception"]).filter goodWord)
def wsX1_runRow_r1 : List Cond := [Cond.fieldLink RX1 19 "CuckooShop" "present" "I", Cond.instanceMethod yX0_runMinute, Cond.initialized RX0, Cond.selects RX0 yX0_runMinute yX0_runMinute, Cond.code yX0_runMinute cX0_runMinute 2 none, Cond.fieldLink RX0 52 "CuckooShop$Clock" "latestCalls" "I", Cond.fieldLink RX0 30 "CuckooShop$Clock" "goes" "Z", Cond.methodLink RX0 66 yX0_turn, Cond.instanceMethod yX0_turn, Cond.selects RX0 yX0_turn yX0_turn, Cond.code yX0_turn cX0_turn 3 none, Cond.fieldLink RX0 37 "CuckooShop$Clock" "rest" "I", Cond.fieldLink RX0 34 "CuckooShop$Clock" "shown" "I", Cond.methodLink RX0 73 yX0_advance, Cond.instanceMethod yX0_advance, Cond.selects RX0 yX0_advance yX0_advance, Cond.code yX0_advance cX0_advance 1 (some .int), Cond.fieldLink RX0 9 "CuckooShop$Clock" "gearA" "I", Cond.fieldLink RX0 15 "CuckooShop$Clock" "gearB" "I", Cond.methodLink RX0 55 yX0_advanceWith, Cond.instanceMethod yX0_advanceWith, Cond.selects RX0 yX0_advanceWith yX0_advanceWith, Cond.code yX0_advanceWith cX0_advanceWith 4 (some .int), Cond.fieldLink RX0 18 "CuckooShop$Clock" "swing" "I"]
def wsX1_runRow_r2 : List Cond := [Cond.fieldLink RX0 24 "CuckooShop$Clock" "oil" "I", Cond.methodLink RX0 77 yX0_isShutAt, Cond.instanceMethod yX0_isShutAt, Cond.selects RX0 yX0_isShutAt yX0_isShutAt, Cond.code yX0_isShutAt cX0_isShutAt 2 (some .boolean), Cond.fieldLink RX0 40 "CuckooShop$Clock" "shutFrom" "I", Cond.fieldLink RX0 43 "CuckooShop$Clock" "shutTill" "I", Cond.methodLink RX0 81 yX0_callsDueAt, Cond.static yX0_callsDueAt, Cond.code yX0_callsDueAt cX0_callsDueAt 1 (some .int), Cond.methodLink RX0 84 yX0_cuckoo, Cond.instanceMethod yX0_cuckoo, Cond.selects RX0 yX0_cuckoo yX0_cuckoo, Cond.code yX0_cuckoo cX0_cuckoo 3 none, Cond.fieldLink RX0 27 "CuckooShop$Clock" "bellows" "I", Cond.methodLink RX0 87 Lib.Math.min.name, Cond.static Lib.Math.min.name, Cond.initialized "java/lang/Math", Cond.code Lib.Math.min.name Lib.Math.min.code 2 (some .int), Cond.fieldLink RX0 46 "CuckooShop$Clock" "calls" "I", Cond.fieldLink RX0 49 "CuckooShop$Clock" "missed" "I", Cond.methodLink RX0 69 yX0_wear, Cond.instanceMethod yX0_wear, Cond.selects RX0 yX0_wear yX0_wear]
def wsX1_runRow_r3 : List Cond := [Cond.code yX0_wear cX0_wear 2 none, Cond.fieldLink RX0 21 "CuckooShop$Clock" "chain" "I"]
def wsX1_runRow : List Cond := .code yX1_runRow cX1_runRow 5 (some .int) :: ((wsX1_runRow_r1 ++ (wsX1_runRow_r2 ++ wsX1_runRow_r3)) ++ wsX10 ++ wsX00)
def wsX1_pass_r1 : List Cond := [Cond.fieldLink RX1 11 "CuckooShop" "clocks" "[LCuckooShop$Clock;", Cond.fieldLink RX1 23 "CuckooShop" "minute" "I", Cond.methodLink RX1 100 yX1_checkMinutes, Cond.static yX1_checkMinutes, Cond.initialized RX1, Cond.code yX1_checkMinutes cX1_checkMinutes 1 none, Cond.classLink RX1 47 "java/lang/IllegalArgumentException", Cond.initialized "java/lang/IllegalArgumentException", Cond.methodLink RX1 43 yX1_isWithin, Cond.static yX1_isWithin, Cond.code yX1_isWithin cX1_isWithin 3 (some .boolean), Cond.methodLink RX1 103 yX1_runRow, Cond.instanceMethod yX1_runRow, Cond.selects RX1 yX1_runRow yX1_runRow, Cond.code yX1_runRow cX1_runRow 5 (some .int), Cond.fieldLink RX1 19 "CuckooShop" "present" "I", Cond.instanceMethod yX0_runMinute, Cond.initialized RX0, Cond.selects RX0 yX0_runMinute yX0_runMinute, Cond.code yX0_runMinute cX0_runMinute 2 none, Cond.fieldLink RX0 52 "CuckooShop$Clock" "latestCalls" "I", Cond.fieldLink RX0 30 "CuckooShop$Clock" "goes" "Z", Cond.methodLink RX0 66 yX0_turn, Cond.instanceMethod yX0_turn]
def wsX1_pass_r2 : List Cond := [Cond.selects RX0 yX0_turn yX0_turn, Cond.code yX0_turn cX0_turn 3 none, Cond.fieldLink RX0 37 "CuckooShop$Clock" "rest" "I", Cond.fieldLink RX0 34 "CuckooShop$Clock" "shown" "I", Cond.methodLink RX0 73 yX0_advance, Cond.instanceMethod yX0_advance, Cond.selects RX0 yX0_advance yX0_advance, Cond.code yX0_advance cX0_advance 1 (some .int), Cond.fieldLink RX0 9 "CuckooShop$Clock" "gearA" "I", Cond.fieldLink RX0 15 "CuckooShop$Clock" "gearB" "I", Cond.methodLink RX0 55 yX0_advanceWith, Cond.instanceMethod yX0_advanceWith, Cond.selects RX0 yX0_advanceWith yX0_advanceWith, Cond.code yX0_advanceWith cX0_advanceWith 4 (some .int), Cond.fieldLink RX0 18 "CuckooShop$Clock" "swing" "I", Cond.fieldLink RX0 24 "CuckooShop$Clock" "oil" "I", Cond.methodLink RX0 77 yX0_isShutAt, Cond.instanceMethod yX0_isShutAt, Cond.selects RX0 yX0_isShutAt yX0_isShutAt, Cond.code yX0_isShutAt cX0_isShutAt 2 (some .boolean), Cond.fieldLink RX0 40 "CuckooShop$Clock" "shutFrom" "I", Cond.fieldLink RX0 43 "CuckooShop$Clock" "shutTill" "I", Cond.methodLink RX0 81 yX0_callsDueAt, Cond.static yX0_callsDueAt]
def wsX1_pass_r3 : List Cond := [Cond.code yX0_callsDueAt cX0_callsDueAt 1 (some .int), Cond.methodLink RX0 84 yX0_cuckoo, Cond.instanceMethod yX0_cuckoo, Cond.selects RX0 yX0_cuckoo yX0_cuckoo, Cond.code yX0_cuckoo cX0_cuckoo 3 none, Cond.fieldLink RX0 27 "CuckooShop$Clock" "bellows" "I", Cond.methodLink RX0 87 Lib.Math.min.name, Cond.static Lib.Math.min.name, Cond.initialized "java/lang/Math", Cond.code Lib.Math.min.name Lib.Math.min.code 2 (some .int), Cond.fieldLink RX0 46 "CuckooShop$Clock" "calls" "I", Cond.fieldLink RX0 49 "CuckooShop$Clock" "missed" "I", Cond.methodLink RX0 69 yX0_wear, Cond.instanceMethod yX0_wear, Cond.selects RX0 yX0_wear yX0_wear, Cond.code yX0_wear cX0_wear 2 none, Cond.fieldLink RX0 21 "CuckooShop$Clock" "chain" "I"]
def wsX1_pass : List Cond := .code yX1_pass cX1_pass 4 (some .int) :: ((wsX1_pass_r1 ++ (wsX1_pass_r2 ++ wsX1_pass_r3)) ++ wsX10 ++ wsX00 ++ (vx_atS RX1 51 "java/lang/IllegalArgumentException" ["java/lang/RuntimeException", "java/lang/Exception"]).filter goodWord)
def wsX1_next_r1 : List Cond := [Cond.fieldLink RX1 15 "CuckooShop" "copies" "[LCuckooShop$Clock;", Cond.fieldLink RX1 11 "CuckooShop" "clocks" "[LCuckooShop$Clock;", Cond.fieldLink RX1 23 "CuckooShop" "minute" "I", Cond.methodLink RX1 40 yX1_checkClock, Cond.instanceMethod yX1_checkClock, Cond.selects RX1 yX1_checkClock yX1_checkClock, Cond.initialized RX1, Cond.code yX1_checkClock cX1_checkClock 2 none, Cond.classLink RX1 86 "java/lang/IndexOutOfBoundsException", Cond.initialized "java/lang/IndexOutOfBoundsException", Cond.fieldLink RX1 19 "CuckooShop" "present" "I", Cond.instanceMethod yX0_copyFrom, Cond.initialized RX0, Cond.selects RX0 yX0_copyFrom yX0_copyFrom, Cond.code yX0_copyFrom cX0_copyFrom 2 none, Cond.fieldLink RX0 9 "CuckooShop$Clock" "gearA" "I", Cond.fieldLink RX0 15 "CuckooShop$Clock" "gearB" "I", Cond.fieldLink RX0 18 "CuckooShop$Clock" "swing" "I", Cond.fieldLink RX0 21 "CuckooShop$Clock" "chain" "I", Cond.fieldLink RX0 24 "CuckooShop$Clock" "oil" "I", Cond.fieldLink RX0 27 "CuckooShop$Clock" "bellows" "I", Cond.fieldLink RX0 30 "CuckooShop$Clock" "goes" "Z", Cond.fieldLink RX0 34 "CuckooShop$Clock" "shown" "I", Cond.fieldLink RX0 37 "CuckooShop$Clock" "rest" "I"]
def wsX1_next_r2 : List Cond := [Cond.fieldLink RX0 40 "CuckooShop$Clock" "shutFrom" "I", Cond.fieldLink RX0 43 "CuckooShop$Clock" "shutTill" "I", Cond.fieldLink RX0 46 "CuckooShop$Clock" "calls" "I", Cond.fieldLink RX0 49 "CuckooShop$Clock" "missed" "I", Cond.fieldLink RX0 52 "CuckooShop$Clock" "latestCalls" "I", Cond.instanceMethod yX0_runMinute, Cond.selects RX0 yX0_runMinute yX0_runMinute, Cond.code yX0_runMinute cX0_runMinute 2 none, Cond.methodLink RX0 66 yX0_turn, Cond.instanceMethod yX0_turn, Cond.selects RX0 yX0_turn yX0_turn, Cond.code yX0_turn cX0_turn 3 none, Cond.methodLink RX0 73 yX0_advance, Cond.instanceMethod yX0_advance, Cond.selects RX0 yX0_advance yX0_advance, Cond.code yX0_advance cX0_advance 1 (some .int), Cond.methodLink RX0 55 yX0_advanceWith, Cond.instanceMethod yX0_advanceWith, Cond.selects RX0 yX0_advanceWith yX0_advanceWith, Cond.code yX0_advanceWith cX0_advanceWith 4 (some .int), Cond.methodLink RX0 77 yX0_isShutAt, Cond.instanceMethod yX0_isShutAt, Cond.selects RX0 yX0_isShutAt yX0_isShutAt, Cond.code yX0_isShutAt cX0_isShutAt 2 (some .boolean)]
def wsX1_next_r3 : List Cond := [Cond.methodLink RX0 81 yX0_callsDueAt, Cond.static yX0_callsDueAt, Cond.code yX0_callsDueAt cX0_callsDueAt 1 (some .int), Cond.methodLink RX0 84 yX0_cuckoo, Cond.instanceMethod yX0_cuckoo, Cond.selects RX0 yX0_cuckoo yX0_cuckoo, Cond.code yX0_cuckoo cX0_cuckoo 3 none, Cond.methodLink RX0 87 Lib.Math.min.name, Cond.static Lib.Math.min.name, Cond.initialized "java/lang/Math", Cond.code Lib.Math.min.name Lib.Math.min.code 2 (some .int), Cond.methodLink RX0 69 yX0_wear, Cond.instanceMethod yX0_wear, Cond.selects RX0 yX0_wear yX0_wear, Cond.code yX0_wear cX0_wear 2 none]
def wsX1_next : List Cond := .code yX1_next cX1_next 4 (some .int) :: ((wsX1_next_r1 ++ (wsX1_next_r2 ++ wsX1_next_r3)) ++ wsX10 ++ wsX00 ++ (vx_atS RX1 90 "java/lang/IndexOutOfBoundsException" ["java/lang/RuntimeException", "java/lang/Exception"]).filter goodWord)
def wsX1_stands : List Cond := .code yX1_stands cX1_stands 2 (some .int) :: ([.fieldLink RX1 11 "CuckooShop" "clocks" "[LCuckooShop$Clock;", .methodLink RX1 40 yX1_checkClock, .instanceMethod yX1_checkClock, .selects RX1 yX1_checkClock yX1_checkClock, .initialized RX1, .code yX1_checkClock cX1_checkClock 2 none, .classLink RX1 86 "java/lang/IndexOutOfBoundsException", .initialized "java/lang/IndexOutOfBoundsException", .fieldLink RX1 19 "CuckooShop" "present" "I", .instanceMethod yX0_minutesToStand, .initialized RX0, .selects RX0 yX0_minutesToStand yX0_minutesToStand, .code yX0_minutesToStand cX0_minutesToStand 1 (some .int), .fieldLink RX0 30 "CuckooShop$Clock" "goes" "Z", .fieldLink RX0 21 "CuckooShop$Clock" "chain" "I"] ++ wsX10 ++ wsX00 ++ (vx_atS RX1 90 "java/lang/IndexOutOfBoundsException" ["java/lang/RuntimeException", "java/lang/Exception"]).filter goodWord)
def wsX1_copyClocks : List Cond := .code yX1_copyClocks cX1_copyClocks 2 none :: ([.fieldLink RX1 19 "CuckooShop" "present" "I", .fieldLink RX1 15 "CuckooShop" "copies" "[LCuckooShop$Clock;", .fieldLink RX1 11 "CuckooShop" "clocks" "[LCuckooShop$Clock;", .instanceMethod yX0_copyFrom, .initialized RX0, .selects RX0 yX0_copyFrom yX0_copyFrom, .code yX0_copyFrom cX0_copyFrom 2 none, .fieldLink RX0 9 "CuckooShop$Clock" "gearA" "I", .fieldLink RX0 15 "CuckooShop$Clock" "gearB" "I", .fieldLink RX0 18 "CuckooShop$Clock" "swing" "I", .fieldLink RX0 21 "CuckooShop$Clock" "chain" "I", .fieldLink RX0 24 "CuckooShop$Clock" "oil" "I", .fieldLink RX0 27 "CuckooShop$Clock" "bellows" "I", .fieldLink RX0 30 "CuckooShop$Clock" "goes" "Z", .fieldLink RX0 34 "CuckooShop$Clock" "shown" "I", .fieldLink RX0 37 "CuckooShop$Clock" "rest" "I", .fieldLink RX0 40 "CuckooShop$Clock" "shutFrom" "I", .fieldLink RX0 43 "CuckooShop$Clock" "shutTill" "I", .fieldLink RX0 46 "CuckooShop$Clock" "calls" "I", .fieldLink RX0 49 "CuckooShop$Clock" "missed" "I", .fieldLink RX0 52 "CuckooShop$Clock" "latestCalls" "I"] ++ wsX10 ++ wsX00)
def wsX1_loudest_r1 : List Cond := [Cond.fieldLink RX1 15 "CuckooShop" "copies" "[LCuckooShop$Clock;", Cond.fieldLink RX1 23 "CuckooShop" "minute" "I", Cond.methodLink RX1 100 yX1_checkMinutes, Cond.static yX1_checkMinutes, Cond.initialized RX1, Cond.code yX1_checkMinutes cX1_checkMinutes 1 none, Cond.classLink RX1 47 "java/lang/IllegalArgumentException", Cond.initialized "java/lang/IllegalArgumentException", Cond.methodLink RX1 43 yX1_isWithin, Cond.static yX1_isWithin, Cond.code yX1_isWithin cX1_isWithin 3 (some .boolean), Cond.methodLink RX1 120 yX1_copyClocks, Cond.instanceMethod yX1_copyClocks, Cond.selects RX1 yX1_copyClocks yX1_copyClocks, Cond.code yX1_copyClocks cX1_copyClocks 2 none, Cond.fieldLink RX1 19 "CuckooShop" "present" "I", Cond.fieldLink RX1 11 "CuckooShop" "clocks" "[LCuckooShop$Clock;", Cond.instanceMethod yX0_copyFrom, Cond.initialized RX0, Cond.selects RX0 yX0_copyFrom yX0_copyFrom, Cond.code yX0_copyFrom cX0_copyFrom 2 none, Cond.fieldLink RX0 9 "CuckooShop$Clock" "gearA" "I", Cond.fieldLink RX0 15 "CuckooShop$Clock" "gearB" "I", Cond.fieldLink RX0 18 "CuckooShop$Clock" "swing" "I"]
def wsX1_loudest_r2 : List Cond := [Cond.fieldLink RX0 21 "CuckooShop$Clock" "chain" "I", Cond.fieldLink RX0 24 "CuckooShop$Clock" "oil" "I", Cond.fieldLink RX0 27 "CuckooShop$Clock" "bellows" "I", Cond.fieldLink RX0 30 "CuckooShop$Clock" "goes" "Z", Cond.fieldLink RX0 34 "CuckooShop$Clock" "shown" "I", Cond.fieldLink RX0 37 "CuckooShop$Clock" "rest" "I", Cond.fieldLink RX0 40 "CuckooShop$Clock" "shutFrom" "I", Cond.fieldLink RX0 43 "CuckooShop$Clock" "shutTill" "I", Cond.fieldLink RX0 46 "CuckooShop$Clock" "calls" "I", Cond.fieldLink RX0 49 "CuckooShop$Clock" "missed" "I", Cond.fieldLink RX0 52 "CuckooShop$Clock" "latestCalls" "I", Cond.methodLink RX1 103 yX1_runRow, Cond.instanceMethod yX1_runRow, Cond.selects RX1 yX1_runRow yX1_runRow, Cond.code yX1_runRow cX1_runRow 5 (some .int), Cond.instanceMethod yX0_runMinute, Cond.selects RX0 yX0_runMinute yX0_runMinute, Cond.code yX0_runMinute cX0_runMinute 2 none, Cond.methodLink RX0 66 yX0_turn, Cond.instanceMethod yX0_turn, Cond.selects RX0 yX0_turn yX0_turn, Cond.code yX0_turn cX0_turn 3 none, Cond.methodLink RX0 73 yX0_advance, Cond.instanceMethod yX0_advance]
def wsX1_loudest_r3 : List Cond := [Cond.selects RX0 yX0_advance yX0_advance, Cond.code yX0_advance cX0_advance 1 (some .int), Cond.methodLink RX0 55 yX0_advanceWith, Cond.instanceMethod yX0_advanceWith, Cond.selects RX0 yX0_advanceWith yX0_advanceWith, Cond.code yX0_advanceWith cX0_advanceWith 4 (some .int), Cond.methodLink RX0 77 yX0_isShutAt, Cond.instanceMethod yX0_isShutAt, Cond.selects RX0 yX0_isShutAt yX0_isShutAt, Cond.code yX0_isShutAt cX0_isShutAt 2 (some .boolean), Cond.methodLink RX0 81 yX0_callsDueAt, Cond.static yX0_callsDueAt, Cond.code yX0_callsDueAt cX0_callsDueAt 1 (some .int), Cond.methodLink RX0 84 yX0_cuckoo, Cond.instanceMethod yX0_cuckoo, Cond.selects RX0 yX0_cuckoo yX0_cuckoo, Cond.code yX0_cuckoo cX0_cuckoo 3 none, Cond.methodLink RX0 87 Lib.Math.min.name, Cond.static Lib.Math.min.name, Cond.initialized "java/lang/Math", Cond.code Lib.Math.min.name Lib.Math.min.code 2 (some .int), Cond.methodLink RX0 69 yX0_wear, Cond.instanceMethod yX0_wear, Cond.selects RX0 yX0_wear yX0_wear]
def wsX1_loudest_r4 : List Cond := [Cond.code yX0_wear cX0_wear 2 none]
def wsX1_loudest : List Cond := .code yX1_loudest cX1_loudest 6 (some .int) :: ((wsX1_loudest_r1 ++ (wsX1_loudest_r2 ++ (wsX1_loudest_r3 ++ wsX1_loudest_r4))) ++ wsX10 ++ wsX00 ++ (vx_atS RX1 51 "java/lang/IllegalArgumentException" ["java/lang/RuntimeException", "java/lang/Exception"]).filter goodWord)
def wsX1_foresee_r1 : List Cond := [Cond.classLink RX1 86 "java/lang/IndexOutOfBoundsException", Cond.initialized "java/lang/IndexOutOfBoundsException", Cond.fieldLink RX1 15 "CuckooShop" "copies" "[LCuckooShop$Clock;", Cond.fieldLink RX1 23 "CuckooShop" "minute" "I", Cond.fieldLink RX1 11 "CuckooShop" "clocks" "[LCuckooShop$Clock;", Cond.methodLink RX1 100 yX1_checkMinutes, Cond.static yX1_checkMinutes, Cond.initialized RX1, Cond.code yX1_checkMinutes cX1_checkMinutes 1 none, Cond.classLink RX1 47 "java/lang/IllegalArgumentException", Cond.initialized "java/lang/IllegalArgumentException", Cond.methodLink RX1 43 yX1_isWithin, Cond.static yX1_isWithin, Cond.code yX1_isWithin cX1_isWithin 3 (some .boolean), Cond.methodLink RX1 120 yX1_copyClocks, Cond.instanceMethod yX1_copyClocks, Cond.selects RX1 yX1_copyClocks yX1_copyClocks, Cond.code yX1_copyClocks cX1_copyClocks 2 none, Cond.fieldLink RX1 19 "CuckooShop" "present" "I", Cond.instanceMethod yX0_copyFrom, Cond.initialized RX0, Cond.selects RX0 yX0_copyFrom yX0_copyFrom, Cond.code yX0_copyFrom cX0_copyFrom 2 none, Cond.fieldLink RX0 9 "CuckooShop$Clock" "gearA" "I"]
def wsX1_foresee_r2 : List Cond := [Cond.fieldLink RX0 15 "CuckooShop$Clock" "gearB" "I", Cond.fieldLink RX0 18 "CuckooShop$Clock" "swing" "I", Cond.fieldLink RX0 21 "CuckooShop$Clock" "chain" "I", Cond.fieldLink RX0 24 "CuckooShop$Clock" "oil" "I", Cond.fieldLink RX0 27 "CuckooShop$Clock" "bellows" "I", Cond.fieldLink RX0 30 "CuckooShop$Clock" "goes" "Z", Cond.fieldLink RX0 34 "CuckooShop$Clock" "shown" "I", Cond.fieldLink RX0 37 "CuckooShop$Clock" "rest" "I", Cond.fieldLink RX0 40 "CuckooShop$Clock" "shutFrom" "I", Cond.fieldLink RX0 43 "CuckooShop$Clock" "shutTill" "I", Cond.fieldLink RX0 46 "CuckooShop$Clock" "calls" "I", Cond.fieldLink RX0 49 "CuckooShop$Clock" "missed" "I", Cond.fieldLink RX0 52 "CuckooShop$Clock" "latestCalls" "I", Cond.methodLink RX1 103 yX1_runRow, Cond.instanceMethod yX1_runRow, Cond.selects RX1 yX1_runRow yX1_runRow, Cond.code yX1_runRow cX1_runRow 5 (some .int), Cond.instanceMethod yX0_runMinute, Cond.selects RX0 yX0_runMinute yX0_runMinute, Cond.code yX0_runMinute cX0_runMinute 2 none, Cond.methodLink RX0 66 yX0_turn, Cond.instanceMethod yX0_turn, Cond.selects RX0 yX0_turn yX0_turn, Cond.code yX0_turn cX0_turn 3 none]
def wsX1_foresee_r3 : List Cond := [Cond.methodLink RX0 73 yX0_advance, Cond.instanceMethod yX0_advance, Cond.selects RX0 yX0_advance yX0_advance, Cond.code yX0_advance cX0_advance 1 (some .int), Cond.methodLink RX0 55 yX0_advanceWith, Cond.instanceMethod yX0_advanceWith, Cond.selects RX0 yX0_advanceWith yX0_advanceWith, Cond.code yX0_advanceWith cX0_advanceWith 4 (some .int), Cond.methodLink RX0 77 yX0_isShutAt, Cond.instanceMethod yX0_isShutAt, Cond.selects RX0 yX0_isShutAt yX0_isShutAt, Cond.code yX0_isShutAt cX0_isShutAt 2 (some .boolean), Cond.methodLink RX0 81 yX0_callsDueAt, Cond.static yX0_callsDueAt, Cond.code yX0_callsDueAt cX0_callsDueAt 1 (some .int), Cond.methodLink RX0 84 yX0_cuckoo, Cond.instanceMethod yX0_cuckoo, Cond.selects RX0 yX0_cuckoo yX0_cuckoo, Cond.code yX0_cuckoo cX0_cuckoo 3 none, Cond.methodLink RX0 87 Lib.Math.min.name, Cond.static Lib.Math.min.name, Cond.initialized "java/lang/Math", Cond.code Lib.Math.min.name Lib.Math.min.code 2 (some .int), Cond.methodLink RX0 69 yX0_wear]
def wsX1_foresee_r4 : List Cond := [Cond.instanceMethod yX0_wear, Cond.selects RX0 yX0_wear yX0_wear, Cond.code yX0_wear cX0_wear 2 none, Cond.methodLink RX1 125 yX1_sumOf, Cond.instanceMethod yX1_sumOf, Cond.selects RX1 yX1_sumOf yX1_sumOf, Cond.code yX1_sumOf cX1_sumOf 5 (some .int), Cond.instanceMethod yX0_reading, Cond.selects RX0 yX0_reading yX0_reading, Cond.code yX0_reading cX0_reading 2 (some .int), Cond.methodLink RX1 128 yX1_offOfAll, Cond.instanceMethod yX1_offOfAll, Cond.selects RX1 yX1_offOfAll yX1_offOfAll, Cond.code yX1_offOfAll cX1_offOfAll 5 (some .int), Cond.methodLink RX1 166 Lib.Math.abs.name, Cond.static Lib.Math.abs.name, Cond.code Lib.Math.abs.name Lib.Math.abs.code 1 (some .int), Cond.methodLink RX1 62 yX1_offOf, Cond.static yX1_offOf, Cond.code yX1_offOf cX1_offOf 3 (some .int), Cond.methodLink RX1 160 yX1_trueTime, Cond.static yX1_trueTime, Cond.code yX1_trueTime cX1_trueTime 1 (some .int), Cond.methodLink RX1 152 yJ9_floorMod_7cf53]
def wsX1_foresee_r5 : List Cond := [Cond.static yJ9_floorMod_7cf53, Cond.initialized RJ9, Cond.code yJ9_floorMod_7cf53 cJ9_floorMod_7cf53 3 (some .int)]
def wsX1_foresee : List Cond := .code yX1_foresee cX1_foresee 5 (some .int) :: ((wsX1_foresee_r1 ++ (wsX1_foresee_r2 ++ (wsX1_foresee_r3 ++ (wsX1_foresee_r4 ++ wsX1_foresee_r5)))) ++ wsX10 ++ wsX00 ++ (vx_atS RX1 90 "java/lang/IndexOutOfBoundsException" ["java/lang/RuntimeException", "java/lang/Exception"]).filter goodWord ++ (vx_atS RX1 51 "java/lang/IllegalArgumentException" ["java/lang/RuntimeException", "java/lang/Exception"]).filter goodWord)
def wsX1_advise : List Cond := .code yX1_advise cX1_advise 2 (some .int) :: ([.fieldLink RX1 11 "CuckooShop" "clocks" "[LCuckooShop$Clock;", .methodLink RX1 40 yX1_checkClock, .instanceMethod yX1_checkClock, .selects RX1 yX1_checkClock yX1_checkClock, .initialized RX1, .code yX1_checkClock cX1_checkClock 2 none, .classLink RX1 86 "java/lang/IndexOutOfBoundsException", .initialized "java/lang/IndexOutOfBoundsException", .fieldLink RX1 19 "CuckooShop" "present" "I", .instanceMethod yX0_truestGears, .initialized RX0, .selects RX0 yX0_truestGears yX0_truestGears, .code yX0_truestGears cX0_truestGears 6 (some .int), .constant RX0 59 (1000000), .methodLink RX0 60 Lib.Math.abs.name, .static Lib.Math.abs.name, .initialized "java/lang/Math", .code Lib.Math.abs.name Lib.Math.abs.code 1 (some .int), .methodLink RX0 55 yX0_advanceWith, .instanceMethod yX0_advanceWith, .selects RX0 yX0_advanceWith yX0_advanceWith, .code yX0_advanceWith cX0_advanceWith 4 (some .int), .fieldLink RX0 18 "CuckooShop$Clock" "swing" "I", .fieldLink RX0 24 "CuckooShop$Clock" "oil" "I"] ++ wsX10 ++ wsX00 ++ (vx_atS RX1 90 "java/lang/IndexOutOfBoundsException" ["java/lang/RuntimeException", "java/lang/Exception"]).filter goodWord)
def wsX1_mean : List Cond := .code yX1_mean cX1_mean 4 (some .double) :: ([.fieldLink RX1 19 "CuckooShop" "present" "I", .fieldLink RX1 11 "CuckooShop" "clocks" "[LCuckooShop$Clock;", .instanceMethod yX0_advance, .initialized RX0, .selects RX0 yX0_advance yX0_advance, .code yX0_advance cX0_advance 1 (some .int), .fieldLink RX0 9 "CuckooShop$Clock" "gearA" "I", .fieldLink RX0 15 "CuckooShop$Clock" "gearB" "I", .methodLink RX0 55 yX0_advanceWith, .instanceMethod yX0_advanceWith, .selects RX0 yX0_advanceWith yX0_advanceWith, .code yX0_advanceWith cX0_advanceWith 4 (some .int), .fieldLink RX0 18 "CuckooShop$Clock" "swing" "I", .fieldLink RX0 24 "CuckooShop$Clock" "oil" "I"] ++ wsX10 ++ wsX00)
def wsX1_digest_r1 : List Cond := [Cond.constantLong RX1 138 (1009), Cond.constantLong RX1 140 (31), Cond.fieldLink RX1 19 "CuckooShop" "present" "I", Cond.fieldLink RX1 11 "CuckooShop" "clocks" "[LCuckooShop$Clock;", Cond.methodLink RX1 97 yX1_tally, Cond.instanceMethod yX1_tally, Cond.selects RX1 yX1_tally yX1_tally, Cond.initialized RX1, Cond.code yX1_tally cX1_tally 2 (some .int), Cond.fieldLink RX1 23 "CuckooShop" "minute" "I", Cond.methodLink RX1 160 yX1_trueTime, Cond.static yX1_trueTime, Cond.code yX1_trueTime cX1_trueTime 1 (some .int), Cond.methodLink RX1 152 yJ9_floorMod_7cf53, Cond.static yJ9_floorMod_7cf53, Cond.initialized RJ9, Cond.code yJ9_floorMod_7cf53 cJ9_floorMod_7cf53 3 (some .int), Cond.methodLink RX1 125 yX1_sumOf, Cond.instanceMethod yX1_sumOf, Cond.selects RX1 yX1_sumOf yX1_sumOf, Cond.code yX1_sumOf cX1_sumOf 5 (some .int), Cond.instanceMethod yX0_reading, Cond.initialized RX0, Cond.selects RX0 yX0_reading yX0_reading]
def wsX1_digest_r2 : List Cond := [Cond.code yX0_reading cX0_reading 2 (some .int), Cond.fieldLink RX0 34 "CuckooShop$Clock" "shown" "I", Cond.fieldLink RX0 37 "CuckooShop$Clock" "rest" "I", Cond.fieldLink RX0 21 "CuckooShop$Clock" "chain" "I", Cond.fieldLink RX0 24 "CuckooShop$Clock" "oil" "I", Cond.fieldLink RX0 27 "CuckooShop$Clock" "bellows" "I", Cond.fieldLink RX0 30 "CuckooShop$Clock" "goes" "Z", Cond.fieldLink RX0 46 "CuckooShop$Clock" "calls" "I", Cond.fieldLink RX0 49 "CuckooShop$Clock" "missed" "I", Cond.fieldLink RX0 52 "CuckooShop$Clock" "latestCalls" "I", Cond.methodLink RX0 73 yX0_advance, Cond.instanceMethod yX0_advance, Cond.selects RX0 yX0_advance yX0_advance, Cond.code yX0_advance cX0_advance 1 (some .int), Cond.fieldLink RX0 9 "CuckooShop$Clock" "gearA" "I", Cond.fieldLink RX0 15 "CuckooShop$Clock" "gearB" "I", Cond.methodLink RX0 55 yX0_advanceWith, Cond.instanceMethod yX0_advanceWith, Cond.selects RX0 yX0_advanceWith yX0_advanceWith, Cond.code yX0_advanceWith cX0_advanceWith 4 (some .int), Cond.fieldLink RX0 18 "CuckooShop$Clock" "swing" "I", Cond.methodLink RX0 77 yX0_isShutAt, Cond.instanceMethod yX0_isShutAt, Cond.selects RX0 yX0_isShutAt yX0_isShutAt]
def wsX1_digest_r3 : List Cond := [Cond.code yX0_isShutAt cX0_isShutAt 2 (some .boolean), Cond.fieldLink RX0 40 "CuckooShop$Clock" "shutFrom" "I", Cond.fieldLink RX0 43 "CuckooShop$Clock" "shutTill" "I", Cond.methodLink RX1 163 yX1_trueClocks, Cond.instanceMethod yX1_trueClocks, Cond.selects RX1 yX1_trueClocks yX1_trueClocks, Cond.code yX1_trueClocks cX1_trueClocks 3 (some .int), Cond.methodLink RX1 62 yX1_offOf, Cond.static yX1_offOf, Cond.code yX1_offOf cX1_offOf 3 (some .int), Cond.methodLink RX1 128 yX1_offOfAll, Cond.instanceMethod yX1_offOfAll, Cond.selects RX1 yX1_offOfAll yX1_offOfAll, Cond.code yX1_offOfAll cX1_offOfAll 5 (some .int), Cond.methodLink RX1 166 Lib.Math.abs.name, Cond.static Lib.Math.abs.name, Cond.initialized "java/lang/Math", Cond.code Lib.Math.abs.name Lib.Math.abs.code 1 (some .int), Cond.instanceMethod yX0_mixInto, Cond.selects RX0 yX0_mixInto yX0_mixInto, Cond.code yX0_mixInto cX0_mixInto 6 (some .long), Cond.constantLong RX0 90 (31), Cond.methodLink RX0 92 yX0_reading]
def wsX1_digest : List Cond := .code yX1_digest cX1_digest 4 (some .long) :: ((wsX1_digest_r1 ++ (wsX1_digest_r2 ++ wsX1_digest_r3)) ++ wsX10 ++ wsX00)
def wsX2_init : List Cond := .code yX2_init cX2_init 1 none :: ([.methodLink RX2 1 objectInit, .instanceMethod objectInit, .code objectInit ⟨#[0xb1]⟩ 1 none, .arrayClass .int, .fieldLink RX2 9 "CuckooShopModel" "shop" "[I", .fieldLink RX2 13 "CuckooShopModel" "minute" "[I"] ++ wsX20)
def wsX2_thrown : List Cond := .code yX2_thrown cX2_thrown 1 (some .int) :: ([.fieldLink RX2 16 "CuckooShopModel" "thrown" "I"] ++ wsX20)
def wsX2_fail : List Cond := .code yX2_fail cX2_fail 2 (some .int) :: ([.fieldLink RX2 16 "CuckooShopModel" "thrown" "I"] ++ wsX20)
def wsX2_isIn : List Cond := .code yX2_isIn cX2_isIn 3 (some .boolean) :: ([])
def wsX2_isClock : List Cond := .code yX2_isClock cX2_isClock 2 (some .boolean) :: ([.fieldLink RX2 20 "CuckooShopModel" "clocks" "I", .methodLink RX2 23 yX2_isIn, .static yX2_isIn, .initialized RX2, .code yX2_isIn cX2_isIn 3 (some .boolean)] ++ wsX20)
def wsX2_sh : List Cond := .code yX2_sh cX2_sh 3 (some .int) :: ([.fieldLink RX2 9 "CuckooShopModel" "shop" "[I"] ++ wsX20)
def wsX2_put : List Cond := .code yX2_put cX2_put 4 none :: ([.fieldLink RX2 9 "CuckooShopModel" "shop" "[I"] ++ wsX20)
def wsX2_add : List Cond := .code yX2_add cX2_add 4 none :: ([.fieldLink RX2 9 "CuckooShopModel" "shop" "[I"] ++ wsX20)
def wsX2_come : List Cond := .code yX2_come cX2_come 3 (some .int) :: ([.fieldLink RX2 16 "CuckooShopModel" "thrown" "I", .fieldLink RX2 20 "CuckooShopModel" "clocks" "I", .arrayClass .int, .fieldLink RX2 9 "CuckooShopModel" "shop" "[I", .methodLink RX2 31 arraycopyName, .native arraycopyName, .static arraycopyName, .initialized "java/lang/System", .methodLink RX2 23 yX2_isIn, .static yX2_isIn, .initialized RX2, .code yX2_isIn cX2_isIn 3 (some .boolean), .methodLink RX2 27 yX2_fail, .instanceMethod yX2_fail, .selects RX2 yX2_fail yX2_fail, .code yX2_fail cX2_fail 2 (some .int)] ++ wsX20)
def wsX2_advance : List Cond := .code yX2_advance cX2_advance 5 (some .int) :: ([.methodLink RX2 37 yX2_sh, .instanceMethod yX2_sh, .selects RX2 yX2_sh yX2_sh, .initialized RX2, .code yX2_sh cX2_sh 3 (some .int), .fieldLink RX2 9 "CuckooShopModel" "shop" "[I"] ++ wsX20)
def wsX2_advance_ : List Cond := .code yX2_advance_ cX2_advance_ 2 (some .int) :: ([.methodLink RX2 37 yX2_sh, .instanceMethod yX2_sh, .selects RX2 yX2_sh yX2_sh, .initialized RX2, .code yX2_sh cX2_sh 3 (some .int), .fieldLink RX2 9 "CuckooShopModel" "shop" "[I", .methodLink RX2 41 yX2_advance, .instanceMethod yX2_advance, .selects RX2 yX2_advance yX2_advance, .code yX2_advance cX2_advance 5 (some .int)] ++ wsX20)
def wsX2_gear_r1 : List Cond := [Cond.fieldLink RX2 16 "CuckooShopModel" "thrown" "I", Cond.methodLink RX2 45 yX2_isClock, Cond.instanceMethod yX2_isClock, Cond.selects RX2 yX2_isClock yX2_isClock, Cond.initialized RX2, Cond.code yX2_isClock cX2_isClock 2 (some .boolean), Cond.fieldLink RX2 20 "CuckooShopModel" "clocks" "I", Cond.methodLink RX2 23 yX2_isIn, Cond.static yX2_isIn, Cond.code yX2_isIn cX2_isIn 3 (some .boolean), Cond.methodLink RX2 27 yX2_fail, Cond.instanceMethod yX2_fail, Cond.selects RX2 yX2_fail yX2_fail, Cond.code yX2_fail cX2_fail 2 (some .int), Cond.methodLink RX2 49 yX2_put, Cond.instanceMethod yX2_put, Cond.selects RX2 yX2_put yX2_put, Cond.code yX2_put cX2_put 4 none, Cond.fieldLink RX2 9 "CuckooShopModel" "shop" "[I", Cond.methodLink RX2 53 yX2_advance_, Cond.instanceMethod yX2_advance_, Cond.selects RX2 yX2_advance_ yX2_advance_, Cond.code yX2_advance_ cX2_advance_ 2 (some .int), Cond.methodLink RX2 37 yX2_sh]
def wsX2_gear_r2 : List Cond := [Cond.instanceMethod yX2_sh, Cond.selects RX2 yX2_sh yX2_sh, Cond.code yX2_sh cX2_sh 3 (some .int), Cond.methodLink RX2 41 yX2_advance, Cond.instanceMethod yX2_advance, Cond.selects RX2 yX2_advance yX2_advance, Cond.code yX2_advance cX2_advance 5 (some .int)]
def wsX2_gear : List Cond := .code yX2_gear cX2_gear 5 (some .int) :: ((wsX2_gear_r1 ++ wsX2_gear_r2) ++ wsX20)
def wsX2_offBy : List Cond := .code yX2_offBy cX2_offBy 2 (some .int) :: ([.fieldLink RX2 13 "CuckooShopModel" "minute" "[I", .methodLink RX2 37 yX2_sh, .instanceMethod yX2_sh, .selects RX2 yX2_sh yX2_sh, .initialized RX2, .code yX2_sh cX2_sh 3 (some .int), .fieldLink RX2 9 "CuckooShopModel" "shop" "[I"] ++ wsX20)
def wsX2_set_r1 : List Cond := [Cond.fieldLink RX2 16 "CuckooShopModel" "thrown" "I", Cond.methodLink RX2 45 yX2_isClock, Cond.instanceMethod yX2_isClock, Cond.selects RX2 yX2_isClock yX2_isClock, Cond.initialized RX2, Cond.code yX2_isClock cX2_isClock 2 (some .boolean), Cond.fieldLink RX2 20 "CuckooShopModel" "clocks" "I", Cond.methodLink RX2 23 yX2_isIn, Cond.static yX2_isIn, Cond.code yX2_isIn cX2_isIn 3 (some .boolean), Cond.methodLink RX2 27 yX2_fail, Cond.instanceMethod yX2_fail, Cond.selects RX2 yX2_fail yX2_fail, Cond.code yX2_fail cX2_fail 2 (some .int), Cond.methodLink RX2 55 yX2_offBy, Cond.instanceMethod yX2_offBy, Cond.selects RX2 yX2_offBy yX2_offBy, Cond.code yX2_offBy cX2_offBy 2 (some .int), Cond.fieldLink RX2 13 "CuckooShopModel" "minute" "[I", Cond.methodLink RX2 37 yX2_sh, Cond.instanceMethod yX2_sh, Cond.selects RX2 yX2_sh yX2_sh, Cond.code yX2_sh cX2_sh 3 (some .int), Cond.fieldLink RX2 9 "CuckooShopModel" "shop" "[I"]
def wsX2_set_r2 : List Cond := [Cond.methodLink RX2 49 yX2_put, Cond.instanceMethod yX2_put, Cond.selects RX2 yX2_put yX2_put, Cond.code yX2_put cX2_put 4 none]
def wsX2_set : List Cond := .code yX2_set cX2_set 4 (some .int) :: ((wsX2_set_r1 ++ wsX2_set_r2) ++ wsX20)
def wsX2_wind : List Cond := .code yX2_wind cX2_wind 3 (some .int) :: ([.fieldLink RX2 16 "CuckooShopModel" "thrown" "I", .methodLink RX2 45 yX2_isClock, .instanceMethod yX2_isClock, .selects RX2 yX2_isClock yX2_isClock, .initialized RX2, .code yX2_isClock cX2_isClock 2 (some .boolean), .fieldLink RX2 20 "CuckooShopModel" "clocks" "I", .methodLink RX2 23 yX2_isIn, .static yX2_isIn, .code yX2_isIn cX2_isIn 3 (some .boolean), .methodLink RX2 27 yX2_fail, .instanceMethod yX2_fail, .selects RX2 yX2_fail yX2_fail, .code yX2_fail cX2_fail 2 (some .int), .methodLink RX2 37 yX2_sh, .instanceMethod yX2_sh, .selects RX2 yX2_sh yX2_sh, .code yX2_sh cX2_sh 3 (some .int), .fieldLink RX2 9 "CuckooShopModel" "shop" "[I", .methodLink RX2 49 yX2_put, .instanceMethod yX2_put, .selects RX2 yX2_put yX2_put, .code yX2_put cX2_put 4 none] ++ wsX20)
def wsX2_mend : List Cond := .code yX2_mend cX2_mend 6 (some .int) :: ([.fieldLink RX2 16 "CuckooShopModel" "thrown" "I", .methodLink RX2 45 yX2_isClock, .instanceMethod yX2_isClock, .selects RX2 yX2_isClock yX2_isClock, .initialized RX2, .code yX2_isClock cX2_isClock 2 (some .boolean), .fieldLink RX2 20 "CuckooShopModel" "clocks" "I", .methodLink RX2 23 yX2_isIn, .static yX2_isIn, .code yX2_isIn cX2_isIn 3 (some .boolean), .methodLink RX2 27 yX2_fail, .instanceMethod yX2_fail, .selects RX2 yX2_fail yX2_fail, .code yX2_fail cX2_fail 2 (some .int), .methodLink RX2 37 yX2_sh, .instanceMethod yX2_sh, .selects RX2 yX2_sh yX2_sh, .code yX2_sh cX2_sh 3 (some .int), .fieldLink RX2 9 "CuckooShopModel" "shop" "[I", .methodLink RX2 49 yX2_put, .instanceMethod yX2_put, .selects RX2 yX2_put yX2_put, .code yX2_put cX2_put 4 none] ++ wsX20)
def wsX2_shut : List Cond := .code yX2_shut cX2_shut 5 (some .int) :: ([.fieldLink RX2 16 "CuckooShopModel" "thrown" "I", .methodLink RX2 45 yX2_isClock, .instanceMethod yX2_isClock, .selects RX2 yX2_isClock yX2_isClock, .initialized RX2, .code yX2_isClock cX2_isClock 2 (some .boolean), .fieldLink RX2 20 "CuckooShopModel" "clocks" "I", .methodLink RX2 23 yX2_isIn, .static yX2_isIn, .code yX2_isIn cX2_isIn 3 (some .boolean), .methodLink RX2 27 yX2_fail, .instanceMethod yX2_fail, .selects RX2 yX2_fail yX2_fail, .code yX2_fail cX2_fail 2 (some .int), .methodLink RX2 37 yX2_sh, .instanceMethod yX2_sh, .selects RX2 yX2_sh yX2_sh, .code yX2_sh cX2_sh 3 (some .int), .fieldLink RX2 9 "CuckooShopModel" "shop" "[I", .methodLink RX2 49 yX2_put, .instanceMethod yX2_put, .selects RX2 yX2_put yX2_put, .code yX2_put cX2_put 4 none] ++ wsX20)
def wsX2_isShut : List Cond := .code yX2_isShut cX2_isShut 4 (some .boolean) :: ([.methodLink RX2 37 yX2_sh, .instanceMethod yX2_sh, .selects RX2 yX2_sh yX2_sh, .initialized RX2, .code yX2_sh cX2_sh 3 (some .int), .fieldLink RX2 9 "CuckooShopModel" "shop" "[I"] ++ wsX20)
def wsX2_clockTold : List Cond := .code yX2_clockTold cX2_clockTold 3 (some .int) :: ([.methodLink RX2 53 yX2_advance_, .instanceMethod yX2_advance_, .selects RX2 yX2_advance_ yX2_advance_, .initialized RX2, .code yX2_advance_ cX2_advance_ 2 (some .int), .methodLink RX2 37 yX2_sh, .instanceMethod yX2_sh, .selects RX2 yX2_sh yX2_sh, .code yX2_sh cX2_sh 3 (some .int), .fieldLink RX2 9 "CuckooShopModel" "shop" "[I", .methodLink RX2 41 yX2_advance, .instanceMethod yX2_advance, .selects RX2 yX2_advance yX2_advance, .code yX2_advance cX2_advance 5 (some .int), .methodLink RX2 58 yX2_isShut, .instanceMethod yX2_isShut, .selects RX2 yX2_isShut yX2_isShut, .code yX2_isShut cX2_isShut 4 (some .boolean)] ++ wsX20)
def wsX2_clock_r1 : List Cond := [Cond.fieldLink RX2 16 "CuckooShopModel" "thrown" "I", Cond.methodLink RX2 45 yX2_isClock, Cond.instanceMethod yX2_isClock, Cond.selects RX2 yX2_isClock yX2_isClock, Cond.initialized RX2, Cond.code yX2_isClock cX2_isClock 2 (some .boolean), Cond.fieldLink RX2 20 "CuckooShopModel" "clocks" "I", Cond.methodLink RX2 23 yX2_isIn, Cond.static yX2_isIn, Cond.code yX2_isIn cX2_isIn 3 (some .boolean), Cond.methodLink RX2 61 yX2_clockTold, Cond.instanceMethod yX2_clockTold, Cond.selects RX2 yX2_clockTold yX2_clockTold, Cond.code yX2_clockTold cX2_clockTold 3 (some .int), Cond.methodLink RX2 53 yX2_advance_, Cond.instanceMethod yX2_advance_, Cond.selects RX2 yX2_advance_ yX2_advance_, Cond.code yX2_advance_ cX2_advance_ 2 (some .int), Cond.methodLink RX2 37 yX2_sh, Cond.instanceMethod yX2_sh, Cond.selects RX2 yX2_sh yX2_sh, Cond.code yX2_sh cX2_sh 3 (some .int), Cond.fieldLink RX2 9 "CuckooShopModel" "shop" "[I", Cond.methodLink RX2 41 yX2_advance]
def wsX2_clock_r2 : List Cond := [Cond.instanceMethod yX2_advance, Cond.selects RX2 yX2_advance yX2_advance, Cond.code yX2_advance cX2_advance 5 (some .int), Cond.methodLink RX2 58 yX2_isShut, Cond.instanceMethod yX2_isShut, Cond.selects RX2 yX2_isShut yX2_isShut, Cond.code yX2_isShut cX2_isShut 4 (some .boolean), Cond.methodLink RX2 27 yX2_fail, Cond.instanceMethod yX2_fail, Cond.selects RX2 yX2_fail yX2_fail, Cond.code yX2_fail cX2_fail 2 (some .int)]
def wsX2_clock : List Cond := .code yX2_clock cX2_clock 3 (some .int) :: ((wsX2_clock_r1 ++ wsX2_clock_r2) ++ wsX20)
def wsX2_off : List Cond := .code yX2_off cX2_off 2 (some .int) :: ([.fieldLink RX2 16 "CuckooShopModel" "thrown" "I", .methodLink RX2 45 yX2_isClock, .instanceMethod yX2_isClock, .selects RX2 yX2_isClock yX2_isClock, .initialized RX2, .code yX2_isClock cX2_isClock 2 (some .boolean), .fieldLink RX2 20 "CuckooShopModel" "clocks" "I", .methodLink RX2 23 yX2_isIn, .static yX2_isIn, .code yX2_isIn cX2_isIn 3 (some .boolean), .methodLink RX2 55 yX2_offBy, .instanceMethod yX2_offBy, .selects RX2 yX2_offBy yX2_offBy, .code yX2_offBy cX2_offBy 2 (some .int), .fieldLink RX2 13 "CuckooShopModel" "minute" "[I", .methodLink RX2 37 yX2_sh, .instanceMethod yX2_sh, .selects RX2 yX2_sh yX2_sh, .code yX2_sh cX2_sh 3 (some .int), .fieldLink RX2 9 "CuckooShopModel" "shop" "[I", .methodLink RX2 27 yX2_fail, .instanceMethod yX2_fail, .selects RX2 yX2_fail yX2_fail, .code yX2_fail cX2_fail 2 (some .int)] ++ wsX20)
def wsX2_all : List Cond := .code yX2_all cX2_all 4 (some .int) :: ([.fieldLink RX2 20 "CuckooShopModel" "clocks" "I", .methodLink RX2 37 yX2_sh, .instanceMethod yX2_sh, .selects RX2 yX2_sh yX2_sh, .initialized RX2, .code yX2_sh cX2_sh 3 (some .int), .fieldLink RX2 9 "CuckooShopModel" "shop" "[I"] ++ wsX20)
def wsX2_counted : List Cond := .code yX2_counted cX2_counted 4 (some .int) :: ([.fieldLink RX2 13 "CuckooShopModel" "minute" "[I", .fieldLink RX2 20 "CuckooShopModel" "clocks" "I", .methodLink RX2 67 Lib.Math.abs.name, .static Lib.Math.abs.name, .initialized "java/lang/Math", .code Lib.Math.abs.name Lib.Math.abs.code 1 (some .int), .methodLink RX2 64 yX2_all, .instanceMethod yX2_all, .selects RX2 yX2_all yX2_all, .initialized RX2, .code yX2_all cX2_all 4 (some .int), .methodLink RX2 37 yX2_sh, .instanceMethod yX2_sh, .selects RX2 yX2_sh yX2_sh, .code yX2_sh cX2_sh 3 (some .int), .fieldLink RX2 9 "CuckooShopModel" "shop" "[I", .methodLink RX2 55 yX2_offBy, .instanceMethod yX2_offBy, .selects RX2 yX2_offBy yX2_offBy, .code yX2_offBy cX2_offBy 2 (some .int)] ++ wsX20)
def wsX2_count_r1 : List Cond := [Cond.fieldLink RX2 16 "CuckooShopModel" "thrown" "I", Cond.methodLink RX2 23 yX2_isIn, Cond.static yX2_isIn, Cond.initialized RX2, Cond.code yX2_isIn cX2_isIn 3 (some .boolean), Cond.methodLink RX2 72 yX2_counted, Cond.instanceMethod yX2_counted, Cond.selects RX2 yX2_counted yX2_counted, Cond.code yX2_counted cX2_counted 4 (some .int), Cond.fieldLink RX2 13 "CuckooShopModel" "minute" "[I", Cond.fieldLink RX2 20 "CuckooShopModel" "clocks" "I", Cond.methodLink RX2 67 Lib.Math.abs.name, Cond.static Lib.Math.abs.name, Cond.initialized "java/lang/Math", Cond.code Lib.Math.abs.name Lib.Math.abs.code 1 (some .int), Cond.methodLink RX2 64 yX2_all, Cond.instanceMethod yX2_all, Cond.selects RX2 yX2_all yX2_all, Cond.code yX2_all cX2_all 4 (some .int), Cond.methodLink RX2 37 yX2_sh, Cond.instanceMethod yX2_sh, Cond.selects RX2 yX2_sh yX2_sh, Cond.code yX2_sh cX2_sh 3 (some .int), Cond.fieldLink RX2 9 "CuckooShopModel" "shop" "[I"]
def wsX2_count_r2 : List Cond := [Cond.methodLink RX2 55 yX2_offBy, Cond.instanceMethod yX2_offBy, Cond.selects RX2 yX2_offBy yX2_offBy, Cond.code yX2_offBy cX2_offBy 2 (some .int), Cond.methodLink RX2 27 yX2_fail, Cond.instanceMethod yX2_fail, Cond.selects RX2 yX2_fail yX2_fail, Cond.code yX2_fail cX2_fail 2 (some .int)]
def wsX2_count : List Cond := .code yX2_count cX2_count 2 (some .int) :: ((wsX2_count_r1 ++ wsX2_count_r2) ++ wsX20)
def wsX2_call : List Cond := .code yX2_call cX2_call 5 none :: ([.methodLink RX2 75 Lib.Math.min.name, .static Lib.Math.min.name, .initialized "java/lang/Math", .code Lib.Math.min.name Lib.Math.min.code 2 (some .int), .methodLink RX2 37 yX2_sh, .instanceMethod yX2_sh, .selects RX2 yX2_sh yX2_sh, .initialized RX2, .code yX2_sh cX2_sh 3 (some .int), .fieldLink RX2 9 "CuckooShopModel" "shop" "[I", .methodLink RX2 58 yX2_isShut, .instanceMethod yX2_isShut, .selects RX2 yX2_isShut yX2_isShut, .code yX2_isShut cX2_isShut 4 (some .boolean), .methodLink RX2 78 yX2_add, .instanceMethod yX2_add, .selects RX2 yX2_add yX2_add, .code yX2_add cX2_add 4 none] ++ wsX20)
def wsX2_minuteOn_r1 : List Cond := [Cond.fieldLink RX2 20 "CuckooShopModel" "clocks" "I", Cond.fieldLink RX2 13 "CuckooShopModel" "minute" "[I", Cond.methodLink RX2 85 Lib.Math.max.name, Cond.static Lib.Math.max.name, Cond.initialized "java/lang/Math", Cond.code Lib.Math.max.name Lib.Math.max.code 2 (some .int), Cond.methodLink RX2 49 yX2_put, Cond.instanceMethod yX2_put, Cond.selects RX2 yX2_put yX2_put, Cond.initialized RX2, Cond.code yX2_put cX2_put 4 none, Cond.fieldLink RX2 9 "CuckooShopModel" "shop" "[I", Cond.methodLink RX2 37 yX2_sh, Cond.instanceMethod yX2_sh, Cond.selects RX2 yX2_sh yX2_sh, Cond.code yX2_sh cX2_sh 3 (some .int), Cond.methodLink RX2 53 yX2_advance_, Cond.instanceMethod yX2_advance_, Cond.selects RX2 yX2_advance_ yX2_advance_, Cond.code yX2_advance_ cX2_advance_ 2 (some .int), Cond.methodLink RX2 41 yX2_advance, Cond.instanceMethod yX2_advance, Cond.selects RX2 yX2_advance yX2_advance, Cond.code yX2_advance cX2_advance 5 (some .int)]
def wsX2_minuteOn_r2 : List Cond := [Cond.methodLink RX2 78 yX2_add, Cond.instanceMethod yX2_add, Cond.selects RX2 yX2_add yX2_add, Cond.code yX2_add cX2_add 4 none, Cond.methodLink RX2 81 yX2_call, Cond.instanceMethod yX2_call, Cond.selects RX2 yX2_call yX2_call, Cond.code yX2_call cX2_call 5 none, Cond.methodLink RX2 75 Lib.Math.min.name, Cond.static Lib.Math.min.name, Cond.code Lib.Math.min.name Lib.Math.min.code 2 (some .int), Cond.methodLink RX2 58 yX2_isShut, Cond.instanceMethod yX2_isShut, Cond.selects RX2 yX2_isShut yX2_isShut, Cond.code yX2_isShut cX2_isShut 4 (some .boolean)]
def wsX2_minuteOn : List Cond := .code yX2_minuteOn cX2_minuteOn 2 none :: ((wsX2_minuteOn_r1 ++ wsX2_minuteOn_r2) ++ wsX20)
def wsX2_minutesOn_r1 : List Cond := [Cond.methodLink RX2 88 yX2_minuteOn, Cond.instanceMethod yX2_minuteOn, Cond.selects RX2 yX2_minuteOn yX2_minuteOn, Cond.initialized RX2, Cond.code yX2_minuteOn cX2_minuteOn 2 none, Cond.fieldLink RX2 20 "CuckooShopModel" "clocks" "I", Cond.fieldLink RX2 13 "CuckooShopModel" "minute" "[I", Cond.methodLink RX2 85 Lib.Math.max.name, Cond.static Lib.Math.max.name, Cond.initialized "java/lang/Math", Cond.code Lib.Math.max.name Lib.Math.max.code 2 (some .int), Cond.methodLink RX2 49 yX2_put, Cond.instanceMethod yX2_put, Cond.selects RX2 yX2_put yX2_put, Cond.code yX2_put cX2_put 4 none, Cond.fieldLink RX2 9 "CuckooShopModel" "shop" "[I", Cond.methodLink RX2 37 yX2_sh, Cond.instanceMethod yX2_sh, Cond.selects RX2 yX2_sh yX2_sh, Cond.code yX2_sh cX2_sh 3 (some .int), Cond.methodLink RX2 53 yX2_advance_, Cond.instanceMethod yX2_advance_, Cond.selects RX2 yX2_advance_ yX2_advance_, Cond.code yX2_advance_ cX2_advance_ 2 (some .int)]
def wsX2_minutesOn_r2 : List Cond := [Cond.methodLink RX2 41 yX2_advance, Cond.instanceMethod yX2_advance, Cond.selects RX2 yX2_advance yX2_advance, Cond.code yX2_advance cX2_advance 5 (some .int), Cond.methodLink RX2 78 yX2_add, Cond.instanceMethod yX2_add, Cond.selects RX2 yX2_add yX2_add, Cond.code yX2_add cX2_add 4 none, Cond.methodLink RX2 81 yX2_call, Cond.instanceMethod yX2_call, Cond.selects RX2 yX2_call yX2_call, Cond.code yX2_call cX2_call 5 none, Cond.methodLink RX2 75 Lib.Math.min.name, Cond.static Lib.Math.min.name, Cond.code Lib.Math.min.name Lib.Math.min.code 2 (some .int), Cond.methodLink RX2 58 yX2_isShut, Cond.instanceMethod yX2_isShut, Cond.selects RX2 yX2_isShut yX2_isShut, Cond.code yX2_isShut cX2_isShut 4 (some .boolean)]
def wsX2_minutesOn : List Cond := .code yX2_minutesOn cX2_minutesOn 3 none :: ((wsX2_minutesOn_r1 ++ wsX2_minutesOn_r2) ++ wsX20)
def wsX2_pass_r1 : List Cond := [Cond.fieldLink RX2 16 "CuckooShopModel" "thrown" "I", Cond.methodLink RX2 23 yX2_isIn, Cond.static yX2_isIn, Cond.initialized RX2, Cond.code yX2_isIn cX2_isIn 3 (some .boolean), Cond.methodLink RX2 27 yX2_fail, Cond.instanceMethod yX2_fail, Cond.selects RX2 yX2_fail yX2_fail, Cond.code yX2_fail cX2_fail 2 (some .int), Cond.methodLink RX2 64 yX2_all, Cond.instanceMethod yX2_all, Cond.selects RX2 yX2_all yX2_all, Cond.code yX2_all cX2_all 4 (some .int), Cond.fieldLink RX2 20 "CuckooShopModel" "clocks" "I", Cond.methodLink RX2 37 yX2_sh, Cond.instanceMethod yX2_sh, Cond.selects RX2 yX2_sh yX2_sh, Cond.code yX2_sh cX2_sh 3 (some .int), Cond.fieldLink RX2 9 "CuckooShopModel" "shop" "[I", Cond.methodLink RX2 91 yX2_minutesOn, Cond.instanceMethod yX2_minutesOn, Cond.selects RX2 yX2_minutesOn yX2_minutesOn, Cond.code yX2_minutesOn cX2_minutesOn 3 none, Cond.methodLink RX2 88 yX2_minuteOn]
def wsX2_pass_r2 : List Cond := [Cond.instanceMethod yX2_minuteOn, Cond.selects RX2 yX2_minuteOn yX2_minuteOn, Cond.code yX2_minuteOn cX2_minuteOn 2 none, Cond.fieldLink RX2 13 "CuckooShopModel" "minute" "[I", Cond.methodLink RX2 85 Lib.Math.max.name, Cond.static Lib.Math.max.name, Cond.initialized "java/lang/Math", Cond.code Lib.Math.max.name Lib.Math.max.code 2 (some .int), Cond.methodLink RX2 49 yX2_put, Cond.instanceMethod yX2_put, Cond.selects RX2 yX2_put yX2_put, Cond.code yX2_put cX2_put 4 none, Cond.methodLink RX2 53 yX2_advance_, Cond.instanceMethod yX2_advance_, Cond.selects RX2 yX2_advance_ yX2_advance_, Cond.code yX2_advance_ cX2_advance_ 2 (some .int), Cond.methodLink RX2 41 yX2_advance, Cond.instanceMethod yX2_advance, Cond.selects RX2 yX2_advance yX2_advance, Cond.code yX2_advance cX2_advance 5 (some .int), Cond.methodLink RX2 78 yX2_add, Cond.instanceMethod yX2_add, Cond.selects RX2 yX2_add yX2_add, Cond.code yX2_add cX2_add 4 none]
def wsX2_pass_r3 : List Cond := [Cond.methodLink RX2 81 yX2_call, Cond.instanceMethod yX2_call, Cond.selects RX2 yX2_call yX2_call, Cond.code yX2_call cX2_call 5 none, Cond.methodLink RX2 75 Lib.Math.min.name, Cond.static Lib.Math.min.name, Cond.code Lib.Math.min.name Lib.Math.min.code 2 (some .int), Cond.methodLink RX2 58 yX2_isShut, Cond.instanceMethod yX2_isShut, Cond.selects RX2 yX2_isShut yX2_isShut, Cond.code yX2_isShut cX2_isShut 4 (some .boolean)]
def wsX2_pass : List Cond := .code yX2_pass cX2_pass 3 (some .int) :: ((wsX2_pass_r1 ++ (wsX2_pass_r2 ++ wsX2_pass_r3)) ++ wsX20)
def wsX2_kept : List Cond := .code yX2_kept cX2_kept 1 (some (.array (.array .int))) :: ([.classLink RX2 94 "[I", .fieldLink RX2 9 "CuckooShopModel" "shop" "[I", .methodLink RX2 95 ⟨"[I", "clone", "()Ljava/lang/Object;"⟩, .sameMethod "[I" "java/lang/Object" "clone" "()Ljava/lang/Object;", .native ⟨"java/lang/Object", "clone", "()Ljava/lang/Object;"⟩, .instanceMethod ⟨"java/lang/Object", "clone", "()Ljava/lang/Object;"⟩, .selects "[I" ⟨"[I", "clone", "()Ljava/lang/Object;"⟩ ⟨"java/lang/Object", "clone", "()Ljava/lang/Object;"⟩, .fieldLink RX2 13 "CuckooShopModel" "minute" "[I"] ++ wsX20)
def wsX2_bringBack : List Cond := .code yX2_bringBack cX2_bringBack 2 none :: ([.fieldLink RX2 9 "CuckooShopModel" "shop" "[I", .methodLink RX2 31 arraycopyName, .native arraycopyName, .static arraycopyName, .initialized "java/lang/System", .fieldLink RX2 13 "CuckooShopModel" "minute" "[I"] ++ wsX20)
def wsX2_next_r1 : List Cond := [Cond.fieldLink RX2 16 "CuckooShopModel" "thrown" "I", Cond.methodLink RX2 45 yX2_isClock, Cond.instanceMethod yX2_isClock, Cond.selects RX2 yX2_isClock yX2_isClock, Cond.initialized RX2, Cond.code yX2_isClock cX2_isClock 2 (some .boolean), Cond.fieldLink RX2 20 "CuckooShopModel" "clocks" "I", Cond.methodLink RX2 23 yX2_isIn, Cond.static yX2_isIn, Cond.code yX2_isIn cX2_isIn 3 (some .boolean), Cond.methodLink RX2 27 yX2_fail, Cond.instanceMethod yX2_fail, Cond.selects RX2 yX2_fail yX2_fail, Cond.code yX2_fail cX2_fail 2 (some .int), Cond.methodLink RX2 99 yX2_kept, Cond.instanceMethod yX2_kept, Cond.selects RX2 yX2_kept yX2_kept, Cond.code yX2_kept cX2_kept 1 (some (.array (.array .int))), Cond.classLink RX2 94 "[I", Cond.fieldLink RX2 9 "CuckooShopModel" "shop" "[I", Cond.methodLink RX2 95 ⟨"[I", "clone", "()Ljava/lang/Object;"⟩, Cond.sameMethod "[I" "java/lang/Object" "clone" "()Ljava/lang/Object;", Cond.native ⟨"java/lang/Object", "clone", "()Ljava/lang/Object;"⟩, Cond.instanceMethod ⟨"java/lang/Object", "clone", "()Ljava/lang/Object;"⟩]
def wsX2_next_r2 : List Cond := [Cond.selects "[I" ⟨"[I", "clone", "()Ljava/lang/Object;"⟩ ⟨"java/lang/Object", "clone", "()Ljava/lang/Object;"⟩, Cond.fieldLink RX2 13 "CuckooShopModel" "minute" "[I", Cond.methodLink RX2 88 yX2_minuteOn, Cond.instanceMethod yX2_minuteOn, Cond.selects RX2 yX2_minuteOn yX2_minuteOn, Cond.code yX2_minuteOn cX2_minuteOn 2 none, Cond.methodLink RX2 85 Lib.Math.max.name, Cond.static Lib.Math.max.name, Cond.initialized "java/lang/Math", Cond.code Lib.Math.max.name Lib.Math.max.code 2 (some .int), Cond.methodLink RX2 49 yX2_put, Cond.instanceMethod yX2_put, Cond.selects RX2 yX2_put yX2_put, Cond.code yX2_put cX2_put 4 none, Cond.methodLink RX2 37 yX2_sh, Cond.instanceMethod yX2_sh, Cond.selects RX2 yX2_sh yX2_sh, Cond.code yX2_sh cX2_sh 3 (some .int), Cond.methodLink RX2 53 yX2_advance_, Cond.instanceMethod yX2_advance_, Cond.selects RX2 yX2_advance_ yX2_advance_, Cond.code yX2_advance_ cX2_advance_ 2 (some .int), Cond.methodLink RX2 41 yX2_advance, Cond.instanceMethod yX2_advance]
def wsX2_next_r3 : List Cond := [Cond.selects RX2 yX2_advance yX2_advance, Cond.code yX2_advance cX2_advance 5 (some .int), Cond.methodLink RX2 78 yX2_add, Cond.instanceMethod yX2_add, Cond.selects RX2 yX2_add yX2_add, Cond.code yX2_add cX2_add 4 none, Cond.methodLink RX2 81 yX2_call, Cond.instanceMethod yX2_call, Cond.selects RX2 yX2_call yX2_call, Cond.code yX2_call cX2_call 5 none, Cond.methodLink RX2 75 Lib.Math.min.name, Cond.static Lib.Math.min.name, Cond.code Lib.Math.min.name Lib.Math.min.code 2 (some .int), Cond.methodLink RX2 58 yX2_isShut, Cond.instanceMethod yX2_isShut, Cond.selects RX2 yX2_isShut yX2_isShut, Cond.code yX2_isShut cX2_isShut 4 (some .boolean), Cond.methodLink RX2 103 yX2_bringBack, Cond.instanceMethod yX2_bringBack, Cond.selects RX2 yX2_bringBack yX2_bringBack, Cond.code yX2_bringBack cX2_bringBack 2 none, Cond.methodLink RX2 31 arraycopyName, Cond.native arraycopyName, Cond.static arraycopyName]
def wsX2_next_r4 : List Cond := [Cond.initialized "java/lang/System"]
def wsX2_next : List Cond := .code yX2_next cX2_next 5 (some .int) :: ((wsX2_next_r1 ++ (wsX2_next_r2 ++ (wsX2_next_r3 ++ wsX2_next_r4))) ++ wsX20)
def wsX2_stands : List Cond := .code yX2_stands cX2_stands 2 (some .int) :: ([.fieldLink RX2 16 "CuckooShopModel" "thrown" "I", .methodLink RX2 45 yX2_isClock, .instanceMethod yX2_isClock, .selects RX2 yX2_isClock yX2_isClock, .initialized RX2, .code yX2_isClock cX2_isClock 2 (some .boolean), .fieldLink RX2 20 "CuckooShopModel" "clocks" "I", .methodLink RX2 23 yX2_isIn, .static yX2_isIn, .code yX2_isIn cX2_isIn 3 (some .boolean), .methodLink RX2 27 yX2_fail, .instanceMethod yX2_fail, .selects RX2 yX2_fail yX2_fail, .code yX2_fail cX2_fail 2 (some .int), .methodLink RX2 37 yX2_sh, .instanceMethod yX2_sh, .selects RX2 yX2_sh yX2_sh, .code yX2_sh cX2_sh 3 (some .int), .fieldLink RX2 9 "CuckooShopModel" "shop" "[I"] ++ wsX20)
def wsX2_loudest_r1 : List Cond := [Cond.fieldLink RX2 16 "CuckooShopModel" "thrown" "I", Cond.methodLink RX2 23 yX2_isIn, Cond.static yX2_isIn, Cond.initialized RX2, Cond.code yX2_isIn cX2_isIn 3 (some .boolean), Cond.methodLink RX2 27 yX2_fail, Cond.instanceMethod yX2_fail, Cond.selects RX2 yX2_fail yX2_fail, Cond.code yX2_fail cX2_fail 2 (some .int), Cond.methodLink RX2 99 yX2_kept, Cond.instanceMethod yX2_kept, Cond.selects RX2 yX2_kept yX2_kept, Cond.code yX2_kept cX2_kept 1 (some (.array (.array .int))), Cond.classLink RX2 94 "[I", Cond.fieldLink RX2 9 "CuckooShopModel" "shop" "[I", Cond.methodLink RX2 95 ⟨"[I", "clone", "()Ljava/lang/Object;"⟩, Cond.sameMethod "[I" "java/lang/Object" "clone" "()Ljava/lang/Object;", Cond.native ⟨"java/lang/Object", "clone", "()Ljava/lang/Object;"⟩, Cond.instanceMethod ⟨"java/lang/Object", "clone", "()Ljava/lang/Object;"⟩, Cond.selects "[I" ⟨"[I", "clone", "()Ljava/lang/Object;"⟩ ⟨"java/lang/Object", "clone", "()Ljava/lang/Object;"⟩, Cond.fieldLink RX2 13 "CuckooShopModel" "minute" "[I", Cond.methodLink RX2 88 yX2_minuteOn, Cond.instanceMethod yX2_minuteOn, Cond.selects RX2 yX2_minuteOn yX2_minuteOn]
def wsX2_loudest_r2 : List Cond := [Cond.code yX2_minuteOn cX2_minuteOn 2 none, Cond.fieldLink RX2 20 "CuckooShopModel" "clocks" "I", Cond.methodLink RX2 85 Lib.Math.max.name, Cond.static Lib.Math.max.name, Cond.initialized "java/lang/Math", Cond.code Lib.Math.max.name Lib.Math.max.code 2 (some .int), Cond.methodLink RX2 49 yX2_put, Cond.instanceMethod yX2_put, Cond.selects RX2 yX2_put yX2_put, Cond.code yX2_put cX2_put 4 none, Cond.methodLink RX2 37 yX2_sh, Cond.instanceMethod yX2_sh, Cond.selects RX2 yX2_sh yX2_sh, Cond.code yX2_sh cX2_sh 3 (some .int), Cond.methodLink RX2 53 yX2_advance_, Cond.instanceMethod yX2_advance_, Cond.selects RX2 yX2_advance_ yX2_advance_, Cond.code yX2_advance_ cX2_advance_ 2 (some .int), Cond.methodLink RX2 41 yX2_advance, Cond.instanceMethod yX2_advance, Cond.selects RX2 yX2_advance yX2_advance, Cond.code yX2_advance cX2_advance 5 (some .int), Cond.methodLink RX2 78 yX2_add, Cond.instanceMethod yX2_add]
def wsX2_loudest_r3 : List Cond := [Cond.selects RX2 yX2_add yX2_add, Cond.code yX2_add cX2_add 4 none, Cond.methodLink RX2 81 yX2_call, Cond.instanceMethod yX2_call, Cond.selects RX2 yX2_call yX2_call, Cond.code yX2_call cX2_call 5 none, Cond.methodLink RX2 75 Lib.Math.min.name, Cond.static Lib.Math.min.name, Cond.code Lib.Math.min.name Lib.Math.min.code 2 (some .int), Cond.methodLink RX2 58 yX2_isShut, Cond.instanceMethod yX2_isShut, Cond.selects RX2 yX2_isShut yX2_isShut, Cond.code yX2_isShut cX2_isShut 4 (some .boolean), Cond.methodLink RX2 64 yX2_all, Cond.instanceMethod yX2_all, Cond.selects RX2 yX2_all yX2_all, Cond.code yX2_all cX2_all 4 (some .int), Cond.methodLink RX2 103 yX2_bringBack, Cond.instanceMethod yX2_bringBack, Cond.selects RX2 yX2_bringBack yX2_bringBack, Cond.code yX2_bringBack cX2_bringBack 2 none, Cond.methodLink RX2 31 arraycopyName, Cond.native arraycopyName, Cond.static arraycopyName]
def wsX2_loudest_r4 : List Cond := [Cond.initialized "java/lang/System"]
def wsX2_loudest : List Cond := .code yX2_loudest cX2_loudest 6 (some .int) :: ((wsX2_loudest_r1 ++ (wsX2_loudest_r2 ++ (wsX2_loudest_r3 ++ wsX2_loudest_r4))) ++ wsX20)
def wsX2_foresee_r1 : List Cond := [Cond.fieldLink RX2 16 "CuckooShopModel" "thrown" "I", Cond.methodLink RX2 23 yX2_isIn, Cond.static yX2_isIn, Cond.initialized RX2, Cond.code yX2_isIn cX2_isIn 3 (some .boolean), Cond.methodLink RX2 27 yX2_fail, Cond.instanceMethod yX2_fail, Cond.selects RX2 yX2_fail yX2_fail, Cond.code yX2_fail cX2_fail 2 (some .int), Cond.methodLink RX2 99 yX2_kept, Cond.instanceMethod yX2_kept, Cond.selects RX2 yX2_kept yX2_kept, Cond.code yX2_kept cX2_kept 1 (some (.array (.array .int))), Cond.classLink RX2 94 "[I", Cond.fieldLink RX2 9 "CuckooShopModel" "shop" "[I", Cond.methodLink RX2 95 ⟨"[I", "clone", "()Ljava/lang/Object;"⟩, Cond.sameMethod "[I" "java/lang/Object" "clone" "()Ljava/lang/Object;", Cond.native ⟨"java/lang/Object", "clone", "()Ljava/lang/Object;"⟩, Cond.instanceMethod ⟨"java/lang/Object", "clone", "()Ljava/lang/Object;"⟩, Cond.selects "[I" ⟨"[I", "clone", "()Ljava/lang/Object;"⟩ ⟨"java/lang/Object", "clone", "()Ljava/lang/Object;"⟩, Cond.fieldLink RX2 13 "CuckooShopModel" "minute" "[I", Cond.methodLink RX2 64 yX2_all, Cond.instanceMethod yX2_all, Cond.selects RX2 yX2_all yX2_all]
def wsX2_foresee_r2 : List Cond := [Cond.code yX2_all cX2_all 4 (some .int), Cond.fieldLink RX2 20 "CuckooShopModel" "clocks" "I", Cond.methodLink RX2 37 yX2_sh, Cond.instanceMethod yX2_sh, Cond.selects RX2 yX2_sh yX2_sh, Cond.code yX2_sh cX2_sh 3 (some .int), Cond.methodLink RX2 91 yX2_minutesOn, Cond.instanceMethod yX2_minutesOn, Cond.selects RX2 yX2_minutesOn yX2_minutesOn, Cond.code yX2_minutesOn cX2_minutesOn 3 none, Cond.methodLink RX2 88 yX2_minuteOn, Cond.instanceMethod yX2_minuteOn, Cond.selects RX2 yX2_minuteOn yX2_minuteOn, Cond.code yX2_minuteOn cX2_minuteOn 2 none, Cond.methodLink RX2 85 Lib.Math.max.name, Cond.static Lib.Math.max.name, Cond.initialized "java/lang/Math", Cond.code Lib.Math.max.name Lib.Math.max.code 2 (some .int), Cond.methodLink RX2 49 yX2_put, Cond.instanceMethod yX2_put, Cond.selects RX2 yX2_put yX2_put, Cond.code yX2_put cX2_put 4 none, Cond.methodLink RX2 53 yX2_advance_, Cond.instanceMethod yX2_advance_]
def wsX2_foresee_r3 : List Cond := [Cond.selects RX2 yX2_advance_ yX2_advance_, Cond.code yX2_advance_ cX2_advance_ 2 (some .int), Cond.methodLink RX2 41 yX2_advance, Cond.instanceMethod yX2_advance, Cond.selects RX2 yX2_advance yX2_advance, Cond.code yX2_advance cX2_advance 5 (some .int), Cond.methodLink RX2 78 yX2_add, Cond.instanceMethod yX2_add, Cond.selects RX2 yX2_add yX2_add, Cond.code yX2_add cX2_add 4 none, Cond.methodLink RX2 81 yX2_call, Cond.instanceMethod yX2_call, Cond.selects RX2 yX2_call yX2_call, Cond.code yX2_call cX2_call 5 none, Cond.methodLink RX2 75 Lib.Math.min.name, Cond.static Lib.Math.min.name, Cond.code Lib.Math.min.name Lib.Math.min.code 2 (some .int), Cond.methodLink RX2 58 yX2_isShut, Cond.instanceMethod yX2_isShut, Cond.selects RX2 yX2_isShut yX2_isShut, Cond.code yX2_isShut cX2_isShut 4 (some .boolean), Cond.methodLink RX2 72 yX2_counted, Cond.instanceMethod yX2_counted, Cond.selects RX2 yX2_counted yX2_counted]
def wsX2_foresee_r4 : List Cond := [Cond.code yX2_counted cX2_counted 4 (some .int), Cond.methodLink RX2 67 Lib.Math.abs.name, Cond.static Lib.Math.abs.name, Cond.code Lib.Math.abs.name Lib.Math.abs.code 1 (some .int), Cond.methodLink RX2 55 yX2_offBy, Cond.instanceMethod yX2_offBy, Cond.selects RX2 yX2_offBy yX2_offBy, Cond.code yX2_offBy cX2_offBy 2 (some .int), Cond.methodLink RX2 103 yX2_bringBack, Cond.instanceMethod yX2_bringBack, Cond.selects RX2 yX2_bringBack yX2_bringBack, Cond.code yX2_bringBack cX2_bringBack 2 none, Cond.methodLink RX2 31 arraycopyName, Cond.native arraycopyName, Cond.static arraycopyName, Cond.initialized "java/lang/System"]
def wsX2_foresee : List Cond := .code yX2_foresee cX2_foresee 7 (some .int) :: ((wsX2_foresee_r1 ++ (wsX2_foresee_r2 ++ (wsX2_foresee_r3 ++ wsX2_foresee_r4))) ++ wsX20)
def wsX2_advise_r1 : List Cond := [Cond.fieldLink RX2 16 "CuckooShopModel" "thrown" "I", Cond.methodLink RX2 67 Lib.Math.abs.name, Cond.static Lib.Math.abs.name, Cond.initialized "java/lang/Math", Cond.code Lib.Math.abs.name Lib.Math.abs.code 1 (some .int), Cond.methodLink RX2 45 yX2_isClock, Cond.instanceMethod yX2_isClock, Cond.selects RX2 yX2_isClock yX2_isClock, Cond.initialized RX2, Cond.code yX2_isClock cX2_isClock 2 (some .boolean), Cond.fieldLink RX2 20 "CuckooShopModel" "clocks" "I", Cond.methodLink RX2 23 yX2_isIn, Cond.static yX2_isIn, Cond.code yX2_isIn cX2_isIn 3 (some .boolean), Cond.methodLink RX2 27 yX2_fail, Cond.instanceMethod yX2_fail, Cond.selects RX2 yX2_fail yX2_fail, Cond.code yX2_fail cX2_fail 2 (some .int), Cond.methodLink RX2 41 yX2_advance, Cond.instanceMethod yX2_advance, Cond.selects RX2 yX2_advance yX2_advance, Cond.code yX2_advance cX2_advance 5 (some .int), Cond.methodLink RX2 37 yX2_sh, Cond.instanceMethod yX2_sh]
def wsX2_advise_r2 : List Cond := [Cond.selects RX2 yX2_sh yX2_sh, Cond.code yX2_sh cX2_sh 3 (some .int), Cond.fieldLink RX2 9 "CuckooShopModel" "shop" "[I"]
def wsX2_advise : List Cond := .code yX2_advise cX2_advise 7 (some .int) :: ((wsX2_advise_r1 ++ wsX2_advise_r2) ++ wsX20)
def wsX2_mean : List Cond := .code yX2_mean cX2_mean 3 (some .double) :: ([.fieldLink RX2 16 "CuckooShopModel" "thrown" "I", .fieldLink RX2 20 "CuckooShopModel" "clocks" "I", .methodLink RX2 37 yX2_sh, .instanceMethod yX2_sh, .selects RX2 yX2_sh yX2_sh, .initialized RX2, .code yX2_sh cX2_sh 3 (some .int), .fieldLink RX2 9 "CuckooShopModel" "shop" "[I", .methodLink RX2 53 yX2_advance_, .instanceMethod yX2_advance_, .selects RX2 yX2_advance_ yX2_advance_, .code yX2_advance_ cX2_advance_ 2 (some .int), .methodLink RX2 41 yX2_advance, .instanceMethod yX2_advance, .selects RX2 yX2_advance yX2_advance, .code yX2_advance cX2_advance 5 (some .int), .methodLink RX2 64 yX2_all, .instanceMethod yX2_all, .selects RX2 yX2_all yX2_all, .code yX2_all cX2_all 4 (some .int)] ++ wsX20)
def wsX2_digest_r1 : List Cond := [Cond.fieldLink RX2 16 "CuckooShopModel" "thrown" "I", Cond.constantLong RX2 107 (1009), Cond.constantLong RX2 109 (31), Cond.fieldLink RX2 20 "CuckooShopModel" "clocks" "I", Cond.methodLink RX2 72 yX2_counted, Cond.instanceMethod yX2_counted, Cond.selects RX2 yX2_counted yX2_counted, Cond.initialized RX2, Cond.code yX2_counted cX2_counted 4 (some .int), Cond.fieldLink RX2 13 "CuckooShopModel" "minute" "[I", Cond.methodLink RX2 67 Lib.Math.abs.name, Cond.static Lib.Math.abs.name, Cond.initialized "java/lang/Math", Cond.code Lib.Math.abs.name Lib.Math.abs.code 1 (some .int), Cond.methodLink RX2 64 yX2_all, Cond.instanceMethod yX2_all, Cond.selects RX2 yX2_all yX2_all, Cond.code yX2_all cX2_all 4 (some .int), Cond.methodLink RX2 37 yX2_sh, Cond.instanceMethod yX2_sh, Cond.selects RX2 yX2_sh yX2_sh, Cond.code yX2_sh cX2_sh 3 (some .int), Cond.fieldLink RX2 9 "CuckooShopModel" "shop" "[I", Cond.methodLink RX2 55 yX2_offBy]
def wsX2_digest_r2 : List Cond := [Cond.instanceMethod yX2_offBy, Cond.selects RX2 yX2_offBy yX2_offBy, Cond.code yX2_offBy cX2_offBy 2 (some .int), Cond.methodLink RX2 61 yX2_clockTold, Cond.instanceMethod yX2_clockTold, Cond.selects RX2 yX2_clockTold yX2_clockTold, Cond.code yX2_clockTold cX2_clockTold 3 (some .int), Cond.methodLink RX2 53 yX2_advance_, Cond.instanceMethod yX2_advance_, Cond.selects RX2 yX2_advance_ yX2_advance_, Cond.code yX2_advance_ cX2_advance_ 2 (some .int), Cond.methodLink RX2 41 yX2_advance, Cond.instanceMethod yX2_advance, Cond.selects RX2 yX2_advance yX2_advance, Cond.code yX2_advance cX2_advance 5 (some .int), Cond.methodLink RX2 58 yX2_isShut, Cond.instanceMethod yX2_isShut, Cond.selects RX2 yX2_isShut yX2_isShut, Cond.code yX2_isShut cX2_isShut 4 (some .boolean)]
def wsX2_digest : List Cond := .code yX2_digest cX2_digest 5 (some .long) :: ((wsX2_digest_r1 ++ wsX2_digest_r2) ++ wsX20)
def wsJ9_abs_0f7a4 : List Cond := .code yJ9_abs_0f7a4 cJ9_abs_0f7a4 1 (some .int) :: ([])
def wsJ9_max_7cf53 : List Cond := .code yJ9_max_7cf53 cJ9_max_7cf53 2 (some .int) :: ([])
def wsJ9_min_7cf53 : List Cond := .code yJ9_min_7cf53 cJ9_min_7cf53 2 (some .int) :: ([])
def wsL_come_r1 : List Cond := [Cond.classLink RL 13 "java/lang/IllegalArgumentException", Cond.classLink RL 15 "java/lang/IllegalStateException", Cond.methodLink RL 7 yX1_come, Cond.instanceMethod yX1_come, Cond.selects RX1 yX1_come yX1_come, Cond.initialized RX1, Cond.code yX1_come cX1_come 2 (some .int), Cond.classLink RX1 30 "java/lang/IllegalStateException", Cond.initialized "java/lang/IllegalStateException", Cond.fieldLink RX1 19 "CuckooShop" "present" "I", Cond.fieldLink RX1 11 "CuckooShop" "clocks" "[LCuckooShop$Clock;", Cond.methodLink RX1 26 yX1_checkTime, Cond.static yX1_checkTime, Cond.code yX1_checkTime cX1_checkTime 1 none, Cond.classLink RX1 47 "java/lang/IllegalArgumentException", Cond.initialized "java/lang/IllegalArgumentException", Cond.methodLink RX1 43 yX1_isWithin, Cond.static yX1_isWithin, Cond.code yX1_isWithin cX1_isWithin 3 (some .boolean), Cond.instanceMethod yX0_putHands, Cond.initialized RX0, Cond.selects RX0 yX0_putHands yX0_putHands, Cond.code yX0_putHands cX0_putHands 2 none, Cond.fieldLink RX0 34 "CuckooShop$Clock" "shown" "I"]
def wsL_come_r2 : List Cond := [Cond.fieldLink RX0 37 "CuckooShop$Clock" "rest" "I"]
def wsL_come : List Cond := .codeWith yL_come cL_come 4 (some .int) [(0, 9, 12, 13), (0, 9, 15, 15)] :: ((wsL_come_r1 ++ wsL_come_r2) ++ wsX10 ++ wsX00 ++ (vx_atS RX1 34 "java/lang/IllegalStateException" ["java/lang/RuntimeException", "java/lang/Exception"]).filter goodWord ++ (vx_atS RX1 51 "java/lang/IllegalArgumentException" ["java/lang/RuntimeException", "java/lang/Exception"]).filter goodWord)
def wsL_gear_r1 : List Cond := [Cond.classLink RL 21 "java/lang/IndexOutOfBoundsException", Cond.classLink RL 13 "java/lang/IllegalArgumentException", Cond.methodLink RL 17 yX1_gear, Cond.instanceMethod yX1_gear, Cond.selects RX1 yX1_gear yX1_gear, Cond.initialized RX1, Cond.code yX1_gear cX1_gear 5 (some .int), Cond.classLink RX1 47 "java/lang/IllegalArgumentException", Cond.initialized "java/lang/IllegalArgumentException", Cond.fieldLink RX1 11 "CuckooShop" "clocks" "[LCuckooShop$Clock;", Cond.methodLink RX1 40 yX1_checkClock, Cond.instanceMethod yX1_checkClock, Cond.selects RX1 yX1_checkClock yX1_checkClock, Cond.code yX1_checkClock cX1_checkClock 2 none, Cond.classLink RX1 86 "java/lang/IndexOutOfBoundsException", Cond.initialized "java/lang/IndexOutOfBoundsException", Cond.fieldLink RX1 19 "CuckooShop" "present" "I", Cond.methodLink RX1 43 yX1_isWithin, Cond.static yX1_isWithin, Cond.code yX1_isWithin cX1_isWithin 3 (some .boolean), Cond.instanceMethod yX0_fitTrain, Cond.initialized RX0, Cond.selects RX0 yX0_fitTrain yX0_fitTrain, Cond.code yX0_fitTrain cX0_fitTrain 4 none]
def wsL_gear_r2 : List Cond := [Cond.fieldLink RX0 9 "CuckooShop$Clock" "gearA" "I", Cond.fieldLink RX0 15 "CuckooShop$Clock" "gearB" "I", Cond.fieldLink RX0 18 "CuckooShop$Clock" "swing" "I", Cond.instanceMethod yX0_advance, Cond.selects RX0 yX0_advance yX0_advance, Cond.code yX0_advance cX0_advance 1 (some .int), Cond.methodLink RX0 55 yX0_advanceWith, Cond.instanceMethod yX0_advanceWith, Cond.selects RX0 yX0_advanceWith yX0_advanceWith, Cond.code yX0_advanceWith cX0_advanceWith 4 (some .int), Cond.fieldLink RX0 24 "CuckooShop$Clock" "oil" "I"]
def wsL_gear : List Cond := .codeWith yL_gear cL_gear 7 (some .int) [(0, 14, 17, 21), (0, 14, 21, 13)] :: ((wsL_gear_r1 ++ wsL_gear_r2) ++ wsX10 ++ wsX00 ++ (vx_atS RX1 51 "java/lang/IllegalArgumentException" ["java/lang/RuntimeException", "java/lang/Exception"]).filter goodWord ++ (vx_atS RX1 90 "java/lang/IndexOutOfBoundsException" ["java/lang/RuntimeException", "java/lang/Exception"]).filter goodWord)
def wsL_set_r1 : List Cond := [Cond.classLink RL 21 "java/lang/IndexOutOfBoundsException", Cond.classLink RL 13 "java/lang/IllegalArgumentException", Cond.methodLink RL 23 yX1_set, Cond.instanceMethod yX1_set, Cond.selects RX1 yX1_set yX1_set, Cond.initialized RX1, Cond.code yX1_set cX1_set 4 (some .int), Cond.fieldLink RX1 11 "CuckooShop" "clocks" "[LCuckooShop$Clock;", Cond.fieldLink RX1 23 "CuckooShop" "minute" "I", Cond.methodLink RX1 40 yX1_checkClock, Cond.instanceMethod yX1_checkClock, Cond.selects RX1 yX1_checkClock yX1_checkClock, Cond.code yX1_checkClock cX1_checkClock 2 none, Cond.classLink RX1 86 "java/lang/IndexOutOfBoundsException", Cond.initialized "java/lang/IndexOutOfBoundsException", Cond.fieldLink RX1 19 "CuckooShop" "present" "I", Cond.methodLink RX1 26 yX1_checkTime, Cond.static yX1_checkTime, Cond.code yX1_checkTime cX1_checkTime 1 none, Cond.classLink RX1 47 "java/lang/IllegalArgumentException", Cond.initialized "java/lang/IllegalArgumentException", Cond.methodLink RX1 43 yX1_isWithin, Cond.static yX1_isWithin, Cond.code yX1_isWithin cX1_isWithin 3 (some .boolean)]
def wsL_set_r2 : List Cond := [Cond.methodLink RX1 62 yX1_offOf, Cond.static yX1_offOf, Cond.code yX1_offOf cX1_offOf 3 (some .int), Cond.methodLink RX1 160 yX1_trueTime, Cond.static yX1_trueTime, Cond.code yX1_trueTime cX1_trueTime 1 (some .int), Cond.methodLink RX1 152 yJ9_floorMod_7cf53, Cond.static yJ9_floorMod_7cf53, Cond.initialized RJ9, Cond.code yJ9_floorMod_7cf53 cJ9_floorMod_7cf53 3 (some .int), Cond.instanceMethod yX0_putHands, Cond.initialized RX0, Cond.selects RX0 yX0_putHands yX0_putHands, Cond.code yX0_putHands cX0_putHands 2 none, Cond.fieldLink RX0 34 "CuckooShop$Clock" "shown" "I", Cond.fieldLink RX0 37 "CuckooShop$Clock" "rest" "I"]
def wsL_set : List Cond := .codeWith yL_set cL_set 5 (some .int) [(0, 10, 13, 21), (0, 10, 17, 13)] :: ((wsL_set_r1 ++ wsL_set_r2) ++ wsX10 ++ wsX00 ++ (vx_atS RX1 90 "java/lang/IndexOutOfBoundsException" ["java/lang/RuntimeException", "java/lang/Exception"]).filter goodWord ++ (vx_atS RX1 51 "java/lang/IllegalArgumentException" ["java/lang/RuntimeException", "java/lang/Exception"]).filter goodWord)
def wsL_wind : List Cond := .codeWith yL_wind cL_wind 4 (some .int) [(0, 9, 12, 21)] :: ([.classLink RL 21 "java/lang/IndexOutOfBoundsException", .methodLink RL 27 yX1_wind, .instanceMethod yX1_wind, .selects RX1 yX1_wind yX1_wind, .initialized RX1, .code yX1_wind cX1_wind 2 (some .int), .fieldLink RX1 11 "CuckooShop" "clocks" "[LCuckooShop$Clock;", .methodLink RX1 40 yX1_checkClock, .instanceMethod yX1_checkClock, .selects RX1 yX1_checkClock yX1_checkClock, .code yX1_checkClock cX1_checkClock 2 none, .classLink RX1 86 "java/lang/IndexOutOfBoundsException", .initialized "java/lang/IndexOutOfBoundsException", .fieldLink RX1 19 "CuckooShop" "present" "I", .instanceMethod yX0_drawUp, .initialized RX0, .selects RX0 yX0_drawUp yX0_drawUp, .code yX0_drawUp cX0_drawUp 2 (some .int), .fieldLink RX0 21 "CuckooShop$Clock" "chain" "I", .fieldLink RX0 30 "CuckooShop$Clock" "goes" "Z"] ++ wsX10 ++ wsX00 ++ (vx_atS RX1 90 "java/lang/IndexOutOfBoundsException" ["java/lang/RuntimeException", "java/lang/Exception"]).filter goodWord)
def wsL_mend_r1 : List Cond := [Cond.classLink RL 21 "java/lang/IndexOutOfBoundsException", Cond.classLink RL 13 "java/lang/IllegalArgumentException", Cond.methodLink RL 30 yX1_mend, Cond.instanceMethod yX1_mend, Cond.selects RX1 yX1_mend yX1_mend, Cond.initialized RX1, Cond.code yX1_mend cX1_mend 3 (some .int), Cond.classLink RX1 47 "java/lang/IllegalArgumentException", Cond.initialized "java/lang/IllegalArgumentException", Cond.fieldLink RX1 11 "CuckooShop" "clocks" "[LCuckooShop$Clock;", Cond.methodLink RX1 40 yX1_checkClock, Cond.instanceMethod yX1_checkClock, Cond.selects RX1 yX1_checkClock yX1_checkClock, Cond.code yX1_checkClock cX1_checkClock 2 none, Cond.classLink RX1 86 "java/lang/IndexOutOfBoundsException", Cond.initialized "java/lang/IndexOutOfBoundsException", Cond.fieldLink RX1 19 "CuckooShop" "present" "I", Cond.instanceMethod yX0_fillOil, Cond.initialized RX0, Cond.selects RX0 yX0_fillOil yX0_fillOil, Cond.code yX0_fillOil cX0_fillOil 2 (some .int), Cond.fieldLink RX0 24 "CuckooShop$Clock" "oil" "I", Cond.instanceMethod yX0_patchBellows, Cond.selects RX0 yX0_patchBellows yX0_patchBellows]
def wsL_mend_r2 : List Cond := [Cond.code yX0_patchBellows cX0_patchBellows 2 (some .int), Cond.fieldLink RX0 27 "CuckooShop$Clock" "bellows" "I", Cond.instanceMethod yX0_nudge, Cond.selects RX0 yX0_nudge yX0_nudge, Cond.code yX0_nudge cX0_nudge 1 (some .int), Cond.fieldLink RX0 30 "CuckooShop$Clock" "goes" "Z", Cond.fieldLink RX0 21 "CuckooShop$Clock" "chain" "I"]
def wsL_mend : List Cond := .codeWith yL_mend cL_mend 5 (some .int) [(0, 10, 13, 21), (0, 10, 17, 13)] :: ((wsL_mend_r1 ++ wsL_mend_r2) ++ wsX10 ++ wsX00 ++ (vx_atS RX1 51 "java/lang/IllegalArgumentException" ["java/lang/RuntimeException", "java/lang/Exception"]).filter goodWord ++ (vx_atS RX1 90 "java/lang/IndexOutOfBoundsException" ["java/lang/RuntimeException", "java/lang/Exception"]).filter goodWord)
def wsL_shut_r1 : List Cond := [Cond.classLink RL 21 "java/lang/IndexOutOfBoundsException", Cond.classLink RL 13 "java/lang/IllegalArgumentException", Cond.methodLink RL 33 yX1_shut, Cond.instanceMethod yX1_shut, Cond.selects RX1 yX1_shut yX1_shut, Cond.initialized RX1, Cond.code yX1_shut cX1_shut 4 (some .int), Cond.classLink RX1 47 "java/lang/IllegalArgumentException", Cond.initialized "java/lang/IllegalArgumentException", Cond.fieldLink RX1 11 "CuckooShop" "clocks" "[LCuckooShop$Clock;", Cond.methodLink RX1 40 yX1_checkClock, Cond.instanceMethod yX1_checkClock, Cond.selects RX1 yX1_checkClock yX1_checkClock, Cond.code yX1_checkClock cX1_checkClock 2 none, Cond.classLink RX1 86 "java/lang/IndexOutOfBoundsException", Cond.initialized "java/lang/IndexOutOfBoundsException", Cond.fieldLink RX1 19 "CuckooShop" "present" "I", Cond.methodLink RX1 26 yX1_checkTime, Cond.static yX1_checkTime, Cond.code yX1_checkTime cX1_checkTime 1 none, Cond.methodLink RX1 43 yX1_isWithin, Cond.static yX1_isWithin, Cond.code yX1_isWithin cX1_isWithin 3 (some .boolean), Cond.instanceMethod yX0_silence]
def wsL_shut_r2 : List Cond := [Cond.initialized RX0, Cond.selects RX0 yX0_silence yX0_silence, Cond.code yX0_silence cX0_silence 4 (some .int), Cond.fieldLink RX0 40 "CuckooShop$Clock" "shutFrom" "I", Cond.fieldLink RX0 43 "CuckooShop$Clock" "shutTill" "I"]
def wsL_shut : List Cond := .codeWith yL_shut cL_shut 6 (some .int) [(0, 12, 15, 21), (0, 12, 19, 13)] :: ((wsL_shut_r1 ++ wsL_shut_r2) ++ wsX10 ++ wsX00 ++ (vx_atS RX1 51 "java/lang/IllegalArgumentException" ["java/lang/RuntimeException", "java/lang/Exception"]).filter goodWord ++ (vx_atS RX1 90 "java/lang/IndexOutOfBoundsException" ["java/lang/RuntimeException", "java/lang/Exception"]).filter goodWord)
def wsL_clock_r1 : List Cond := [Cond.classLink RL 21 "java/lang/IndexOutOfBoundsException", Cond.methodLink RL 37 yX1_clock, Cond.instanceMethod yX1_clock, Cond.selects RX1 yX1_clock yX1_clock, Cond.initialized RX1, Cond.code yX1_clock cX1_clock 3 (some .int), Cond.classLink RX1 86 "java/lang/IndexOutOfBoundsException", Cond.initialized "java/lang/IndexOutOfBoundsException", Cond.fieldLink RX1 11 "CuckooShop" "clocks" "[LCuckooShop$Clock;", Cond.methodLink RX1 40 yX1_checkClock, Cond.instanceMethod yX1_checkClock, Cond.selects RX1 yX1_checkClock yX1_checkClock, Cond.code yX1_checkClock cX1_checkClock 2 none, Cond.fieldLink RX1 19 "CuckooShop" "present" "I", Cond.methodLink RX1 43 yX1_isWithin, Cond.static yX1_isWithin, Cond.code yX1_isWithin cX1_isWithin 3 (some .boolean), Cond.instanceMethod yX0_reading, Cond.initialized RX0, Cond.selects RX0 yX0_reading yX0_reading, Cond.code yX0_reading cX0_reading 2 (some .int), Cond.fieldLink RX0 34 "CuckooShop$Clock" "shown" "I", Cond.fieldLink RX0 37 "CuckooShop$Clock" "rest" "I", Cond.fieldLink RX0 21 "CuckooShop$Clock" "chain" "I"]
def wsL_clock_r2 : List Cond := [Cond.fieldLink RX0 24 "CuckooShop$Clock" "oil" "I", Cond.fieldLink RX0 27 "CuckooShop$Clock" "bellows" "I", Cond.fieldLink RX0 30 "CuckooShop$Clock" "goes" "Z", Cond.fieldLink RX0 46 "CuckooShop$Clock" "calls" "I", Cond.fieldLink RX0 49 "CuckooShop$Clock" "missed" "I", Cond.fieldLink RX0 52 "CuckooShop$Clock" "latestCalls" "I", Cond.methodLink RX0 73 yX0_advance, Cond.instanceMethod yX0_advance, Cond.selects RX0 yX0_advance yX0_advance, Cond.code yX0_advance cX0_advance 1 (some .int), Cond.fieldLink RX0 9 "CuckooShop$Clock" "gearA" "I", Cond.fieldLink RX0 15 "CuckooShop$Clock" "gearB" "I", Cond.methodLink RX0 55 yX0_advanceWith, Cond.instanceMethod yX0_advanceWith, Cond.selects RX0 yX0_advanceWith yX0_advanceWith, Cond.code yX0_advanceWith cX0_advanceWith 4 (some .int), Cond.fieldLink RX0 18 "CuckooShop$Clock" "swing" "I", Cond.methodLink RX0 77 yX0_isShutAt, Cond.instanceMethod yX0_isShutAt, Cond.selects RX0 yX0_isShutAt yX0_isShutAt, Cond.code yX0_isShutAt cX0_isShutAt 2 (some .boolean), Cond.fieldLink RX0 40 "CuckooShop$Clock" "shutFrom" "I", Cond.fieldLink RX0 43 "CuckooShop$Clock" "shutTill" "I"]
def wsL_clock : List Cond := .codeWith yL_clock cL_clock 5 (some .int) [(0, 10, 13, 21)] :: ((wsL_clock_r1 ++ wsL_clock_r2) ++ wsX10 ++ wsX00 ++ (vx_atS RX1 90 "java/lang/IndexOutOfBoundsException" ["java/lang/RuntimeException", "java/lang/Exception"]).filter goodWord)
def wsL_off_r1 : List Cond := [Cond.classLink RL 21 "java/lang/IndexOutOfBoundsException", Cond.methodLink RL 40 yX1_off, Cond.instanceMethod yX1_off, Cond.selects RX1 yX1_off yX1_off, Cond.initialized RX1, Cond.code yX1_off cX1_off 2 (some .int), Cond.fieldLink RX1 11 "CuckooShop" "clocks" "[LCuckooShop$Clock;", Cond.fieldLink RX1 23 "CuckooShop" "minute" "I", Cond.methodLink RX1 40 yX1_checkClock, Cond.instanceMethod yX1_checkClock, Cond.selects RX1 yX1_checkClock yX1_checkClock, Cond.code yX1_checkClock cX1_checkClock 2 none, Cond.classLink RX1 86 "java/lang/IndexOutOfBoundsException", Cond.initialized "java/lang/IndexOutOfBoundsException", Cond.fieldLink RX1 19 "CuckooShop" "present" "I", Cond.methodLink RX1 62 yX1_offOf, Cond.static yX1_offOf, Cond.code yX1_offOf cX1_offOf 3 (some .int), Cond.methodLink RX1 160 yX1_trueTime, Cond.static yX1_trueTime, Cond.code yX1_trueTime cX1_trueTime 1 (some .int), Cond.methodLink RX1 152 yJ9_floorMod_7cf53, Cond.static yJ9_floorMod_7cf53, Cond.initialized RJ9]
def wsL_off_r2 : List Cond := [Cond.code yJ9_floorMod_7cf53 cJ9_floorMod_7cf53 3 (some .int)]
def wsL_off : List Cond := .codeWith yL_off cL_off 4 (some .int) [(0, 9, 12, 21)] :: ((wsL_off_r1 ++ wsL_off_r2) ++ wsX10 ++ wsX00 ++ (vx_atS RX1 90 "java/lang/IndexOutOfBoundsException" ["java/lang/RuntimeException", "java/lang/Exception"]).filter goodWord)
def wsL_count_r1 : List Cond := [Cond.classLink RL 21 "java/lang/IndexOutOfBoundsException", Cond.methodLink RL 43 yX1_count, Cond.instanceMethod yX1_count, Cond.selects RX1 yX1_count yX1_count, Cond.initialized RX1, Cond.code yX1_count cX1_count 2 (some .int), Cond.classLink RX1 86 "java/lang/IndexOutOfBoundsException", Cond.initialized "java/lang/IndexOutOfBoundsException", Cond.methodLink RX1 43 yX1_isWithin, Cond.static yX1_isWithin, Cond.code yX1_isWithin cX1_isWithin 3 (some .boolean), Cond.methodLink RX1 97 yX1_tally, Cond.instanceMethod yX1_tally, Cond.selects RX1 yX1_tally yX1_tally, Cond.code yX1_tally cX1_tally 2 (some .int), Cond.fieldLink RX1 23 "CuckooShop" "minute" "I", Cond.fieldLink RX1 19 "CuckooShop" "present" "I", Cond.fieldLink RX1 11 "CuckooShop" "clocks" "[LCuckooShop$Clock;", Cond.methodLink RX1 160 yX1_trueTime, Cond.static yX1_trueTime, Cond.code yX1_trueTime cX1_trueTime 1 (some .int), Cond.methodLink RX1 152 yJ9_floorMod_7cf53, Cond.static yJ9_floorMod_7cf53, Cond.initialized RJ9]
def wsL_count_r2 : List Cond := [Cond.code yJ9_floorMod_7cf53 cJ9_floorMod_7cf53 3 (some .int), Cond.methodLink RX1 125 yX1_sumOf, Cond.instanceMethod yX1_sumOf, Cond.selects RX1 yX1_sumOf yX1_sumOf, Cond.code yX1_sumOf cX1_sumOf 5 (some .int), Cond.instanceMethod yX0_reading, Cond.initialized RX0, Cond.selects RX0 yX0_reading yX0_reading, Cond.code yX0_reading cX0_reading 2 (some .int), Cond.fieldLink RX0 34 "CuckooShop$Clock" "shown" "I", Cond.fieldLink RX0 37 "CuckooShop$Clock" "rest" "I", Cond.fieldLink RX0 21 "CuckooShop$Clock" "chain" "I", Cond.fieldLink RX0 24 "CuckooShop$Clock" "oil" "I", Cond.fieldLink RX0 27 "CuckooShop$Clock" "bellows" "I", Cond.fieldLink RX0 30 "CuckooShop$Clock" "goes" "Z", Cond.fieldLink RX0 46 "CuckooShop$Clock" "calls" "I", Cond.fieldLink RX0 49 "CuckooShop$Clock" "missed" "I", Cond.fieldLink RX0 52 "CuckooShop$Clock" "latestCalls" "I", Cond.methodLink RX0 73 yX0_advance, Cond.instanceMethod yX0_advance, Cond.selects RX0 yX0_advance yX0_advance, Cond.code yX0_advance cX0_advance 1 (some .int), Cond.fieldLink RX0 9 "CuckooShop$Clock" "gearA" "I", Cond.fieldLink RX0 15 "CuckooShop$Clock" "gearB" "I"]
def wsL_count_r3 : List Cond := [Cond.methodLink RX0 55 yX0_advanceWith, Cond.instanceMethod yX0_advanceWith, Cond.selects RX0 yX0_advanceWith yX0_advanceWith, Cond.code yX0_advanceWith cX0_advanceWith 4 (some .int), Cond.fieldLink RX0 18 "CuckooShop$Clock" "swing" "I", Cond.methodLink RX0 77 yX0_isShutAt, Cond.instanceMethod yX0_isShutAt, Cond.selects RX0 yX0_isShutAt yX0_isShutAt, Cond.code yX0_isShutAt cX0_isShutAt 2 (some .boolean), Cond.fieldLink RX0 40 "CuckooShop$Clock" "shutFrom" "I", Cond.fieldLink RX0 43 "CuckooShop$Clock" "shutTill" "I", Cond.methodLink RX1 163 yX1_trueClocks, Cond.instanceMethod yX1_trueClocks, Cond.selects RX1 yX1_trueClocks yX1_trueClocks, Cond.code yX1_trueClocks cX1_trueClocks 3 (some .int), Cond.methodLink RX1 62 yX1_offOf, Cond.static yX1_offOf, Cond.code yX1_offOf cX1_offOf 3 (some .int), Cond.methodLink RX1 128 yX1_offOfAll, Cond.instanceMethod yX1_offOfAll, Cond.selects RX1 yX1_offOfAll yX1_offOfAll, Cond.code yX1_offOfAll cX1_offOfAll 5 (some .int), Cond.methodLink RX1 166 Lib.Math.abs.name, Cond.static Lib.Math.abs.name]
def wsL_count_r4 : List Cond := [Cond.initialized "java/lang/Math", Cond.code Lib.Math.abs.name Lib.Math.abs.code 1 (some .int)]
def wsL_count : List Cond := .codeWith yL_count cL_count 4 (some .int) [(0, 9, 12, 21)] :: ((wsL_count_r1 ++ (wsL_count_r2 ++ (wsL_count_r3 ++ wsL_count_r4))) ++ wsX10 ++ wsX00 ++ (vx_atS RX1 90 "java/lang/IndexOutOfBoundsException" ["java/lang/RuntimeException", "java/lang/Exception"]).filter goodWord)
def wsL_pass_r1 : List Cond := [Cond.classLink RL 13 "java/lang/IllegalArgumentException", Cond.methodLink RL 46 yX1_pass, Cond.instanceMethod yX1_pass, Cond.selects RX1 yX1_pass yX1_pass, Cond.initialized RX1, Cond.code yX1_pass cX1_pass 4 (some .int), Cond.fieldLink RX1 11 "CuckooShop" "clocks" "[LCuckooShop$Clock;", Cond.fieldLink RX1 23 "CuckooShop" "minute" "I", Cond.methodLink RX1 100 yX1_checkMinutes, Cond.static yX1_checkMinutes, Cond.code yX1_checkMinutes cX1_checkMinutes 1 none, Cond.classLink RX1 47 "java/lang/IllegalArgumentException", Cond.initialized "java/lang/IllegalArgumentException", Cond.methodLink RX1 43 yX1_isWithin, Cond.static yX1_isWithin, Cond.code yX1_isWithin cX1_isWithin 3 (some .boolean), Cond.methodLink RX1 103 yX1_runRow, Cond.instanceMethod yX1_runRow, Cond.selects RX1 yX1_runRow yX1_runRow, Cond.code yX1_runRow cX1_runRow 5 (some .int), Cond.fieldLink RX1 19 "CuckooShop" "present" "I", Cond.instanceMethod yX0_runMinute, Cond.initialized RX0, Cond.selects RX0 yX0_runMinute yX0_runMinute]
def wsL_pass_r2 : List Cond := [Cond.code yX0_runMinute cX0_runMinute 2 none, Cond.fieldLink RX0 52 "CuckooShop$Clock" "latestCalls" "I", Cond.fieldLink RX0 30 "CuckooShop$Clock" "goes" "Z", Cond.methodLink RX0 66 yX0_turn, Cond.instanceMethod yX0_turn, Cond.selects RX0 yX0_turn yX0_turn, Cond.code yX0_turn cX0_turn 3 none, Cond.fieldLink RX0 37 "CuckooShop$Clock" "rest" "I", Cond.fieldLink RX0 34 "CuckooShop$Clock" "shown" "I", Cond.methodLink RX0 73 yX0_advance, Cond.instanceMethod yX0_advance, Cond.selects RX0 yX0_advance yX0_advance, Cond.code yX0_advance cX0_advance 1 (some .int), Cond.fieldLink RX0 9 "CuckooShop$Clock" "gearA" "I", Cond.fieldLink RX0 15 "CuckooShop$Clock" "gearB" "I", Cond.methodLink RX0 55 yX0_advanceWith, Cond.instanceMethod yX0_advanceWith, Cond.selects RX0 yX0_advanceWith yX0_advanceWith, Cond.code yX0_advanceWith cX0_advanceWith 4 (some .int), Cond.fieldLink RX0 18 "CuckooShop$Clock" "swing" "I", Cond.fieldLink RX0 24 "CuckooShop$Clock" "oil" "I", Cond.methodLink RX0 77 yX0_isShutAt, Cond.instanceMethod yX0_isShutAt, Cond.selects RX0 yX0_isShutAt yX0_isShutAt]
def wsL_pass_r3 : List Cond := [Cond.code yX0_isShutAt cX0_isShutAt 2 (some .boolean), Cond.fieldLink RX0 40 "CuckooShop$Clock" "shutFrom" "I", Cond.fieldLink RX0 43 "CuckooShop$Clock" "shutTill" "I", Cond.methodLink RX0 81 yX0_callsDueAt, Cond.static yX0_callsDueAt, Cond.code yX0_callsDueAt cX0_callsDueAt 1 (some .int), Cond.methodLink RX0 84 yX0_cuckoo, Cond.instanceMethod yX0_cuckoo, Cond.selects RX0 yX0_cuckoo yX0_cuckoo, Cond.code yX0_cuckoo cX0_cuckoo 3 none, Cond.fieldLink RX0 27 "CuckooShop$Clock" "bellows" "I", Cond.methodLink RX0 87 Lib.Math.min.name, Cond.static Lib.Math.min.name, Cond.initialized "java/lang/Math", Cond.code Lib.Math.min.name Lib.Math.min.code 2 (some .int), Cond.fieldLink RX0 46 "CuckooShop$Clock" "calls" "I", Cond.fieldLink RX0 49 "CuckooShop$Clock" "missed" "I", Cond.methodLink RX0 69 yX0_wear, Cond.instanceMethod yX0_wear, Cond.selects RX0 yX0_wear yX0_wear, Cond.code yX0_wear cX0_wear 2 none, Cond.fieldLink RX0 21 "CuckooShop$Clock" "chain" "I"]
def wsL_pass : List Cond := .codeWith yL_pass cL_pass 4 (some .int) [(0, 9, 12, 13)] :: ((wsL_pass_r1 ++ (wsL_pass_r2 ++ wsL_pass_r3)) ++ wsX10 ++ wsX00 ++ (vx_atS RX1 51 "java/lang/IllegalArgumentException" ["java/lang/RuntimeException", "java/lang/Exception"]).filter goodWord)
def wsL_next_r1 : List Cond := [Cond.classLink RL 21 "java/lang/IndexOutOfBoundsException", Cond.methodLink RL 49 yX1_next, Cond.instanceMethod yX1_next, Cond.selects RX1 yX1_next yX1_next, Cond.initialized RX1, Cond.code yX1_next cX1_next 4 (some .int), Cond.fieldLink RX1 15 "CuckooShop" "copies" "[LCuckooShop$Clock;", Cond.fieldLink RX1 11 "CuckooShop" "clocks" "[LCuckooShop$Clock;", Cond.fieldLink RX1 23 "CuckooShop" "minute" "I", Cond.methodLink RX1 40 yX1_checkClock, Cond.instanceMethod yX1_checkClock, Cond.selects RX1 yX1_checkClock yX1_checkClock, Cond.code yX1_checkClock cX1_checkClock 2 none, Cond.classLink RX1 86 "java/lang/IndexOutOfBoundsException", Cond.initialized "java/lang/IndexOutOfBoundsException", Cond.fieldLink RX1 19 "CuckooShop" "present" "I", Cond.instanceMethod yX0_copyFrom, Cond.initialized RX0, Cond.selects RX0 yX0_copyFrom yX0_copyFrom, Cond.code yX0_copyFrom cX0_copyFrom 2 none, Cond.fieldLink RX0 9 "CuckooShop$Clock" "gearA" "I", Cond.fieldLink RX0 15 "CuckooShop$Clock" "gearB" "I", Cond.fieldLink RX0 18 "CuckooShop$Clock" "swing" "I", Cond.fieldLink RX0 21 "CuckooShop$Clock" "chain" "I"]
def wsL_next_r2 : List Cond := [Cond.fieldLink RX0 24 "CuckooShop$Clock" "oil" "I", Cond.fieldLink RX0 27 "CuckooShop$Clock" "bellows" "I", Cond.fieldLink RX0 30 "CuckooShop$Clock" "goes" "Z", Cond.fieldLink RX0 34 "CuckooShop$Clock" "shown" "I", Cond.fieldLink RX0 37 "CuckooShop$Clock" "rest" "I", Cond.fieldLink RX0 40 "CuckooShop$Clock" "shutFrom" "I", Cond.fieldLink RX0 43 "CuckooShop$Clock" "shutTill" "I", Cond.fieldLink RX0 46 "CuckooShop$Clock" "calls" "I", Cond.fieldLink RX0 49 "CuckooShop$Clock" "missed" "I", Cond.fieldLink RX0 52 "CuckooShop$Clock" "latestCalls" "I", Cond.instanceMethod yX0_runMinute, Cond.selects RX0 yX0_runMinute yX0_runMinute, Cond.code yX0_runMinute cX0_runMinute 2 none, Cond.methodLink RX0 66 yX0_turn, Cond.instanceMethod yX0_turn, Cond.selects RX0 yX0_turn yX0_turn, Cond.code yX0_turn cX0_turn 3 none, Cond.methodLink RX0 73 yX0_advance, Cond.instanceMethod yX0_advance, Cond.selects RX0 yX0_advance yX0_advance, Cond.code yX0_advance cX0_advance 1 (some .int), Cond.methodLink RX0 55 yX0_advanceWith, Cond.instanceMethod yX0_advanceWith, Cond.selects RX0 yX0_advanceWith yX0_advanceWith]
def wsL_next_r3 : List Cond := [Cond.code yX0_advanceWith cX0_advanceWith 4 (some .int), Cond.methodLink RX0 77 yX0_isShutAt, Cond.instanceMethod yX0_isShutAt, Cond.selects RX0 yX0_isShutAt yX0_isShutAt, Cond.code yX0_isShutAt cX0_isShutAt 2 (some .boolean), Cond.methodLink RX0 81 yX0_callsDueAt, Cond.static yX0_callsDueAt, Cond.code yX0_callsDueAt cX0_callsDueAt 1 (some .int), Cond.methodLink RX0 84 yX0_cuckoo, Cond.instanceMethod yX0_cuckoo, Cond.selects RX0 yX0_cuckoo yX0_cuckoo, Cond.code yX0_cuckoo cX0_cuckoo 3 none, Cond.methodLink RX0 87 Lib.Math.min.name, Cond.static Lib.Math.min.name, Cond.initialized "java/lang/Math", Cond.code Lib.Math.min.name Lib.Math.min.code 2 (some .int), Cond.methodLink RX0 69 yX0_wear, Cond.instanceMethod yX0_wear, Cond.selects RX0 yX0_wear yX0_wear, Cond.code yX0_wear cX0_wear 2 none]
def wsL_next : List Cond := .codeWith yL_next cL_next 4 (some .int) [(0, 9, 12, 21)] :: ((wsL_next_r1 ++ (wsL_next_r2 ++ wsL_next_r3)) ++ wsX10 ++ wsX00 ++ (vx_atS RX1 90 "java/lang/IndexOutOfBoundsException" ["java/lang/RuntimeException", "java/lang/Exception"]).filter goodWord)
def wsL_stands : List Cond := .codeWith yL_stands cL_stands 4 (some .int) [(0, 9, 12, 21)] :: ([.classLink RL 21 "java/lang/IndexOutOfBoundsException", .methodLink RL 52 yX1_stands, .instanceMethod yX1_stands, .selects RX1 yX1_stands yX1_stands, .initialized RX1, .code yX1_stands cX1_stands 2 (some .int), .fieldLink RX1 11 "CuckooShop" "clocks" "[LCuckooShop$Clock;", .methodLink RX1 40 yX1_checkClock, .instanceMethod yX1_checkClock, .selects RX1 yX1_checkClock yX1_checkClock, .code yX1_checkClock cX1_checkClock 2 none, .classLink RX1 86 "java/lang/IndexOutOfBoundsException", .initialized "java/lang/IndexOutOfBoundsException", .fieldLink RX1 19 "CuckooShop" "present" "I", .instanceMethod yX0_minutesToStand, .initialized RX0, .selects RX0 yX0_minutesToStand yX0_minutesToStand, .code yX0_minutesToStand cX0_minutesToStand 1 (some .int), .fieldLink RX0 30 "CuckooShop$Clock" "goes" "Z", .fieldLink RX0 21 "CuckooShop$Clock" "chain" "I"] ++ wsX10 ++ wsX00 ++ (vx_atS RX1 90 "java/lang/IndexOutOfBoundsException" ["java/lang/RuntimeException", "java/lang/Exception"]).filter goodWord)
def wsL_loudest_r1 : List Cond := [Cond.classLink RL 13 "java/lang/IllegalArgumentException", Cond.methodLink RL 55 yX1_loudest, Cond.instanceMethod yX1_loudest, Cond.selects RX1 yX1_loudest yX1_loudest, Cond.initialized RX1, Cond.code yX1_loudest cX1_loudest 6 (some .int), Cond.fieldLink RX1 15 "CuckooShop" "copies" "[LCuckooShop$Clock;", Cond.fieldLink RX1 23 "CuckooShop" "minute" "I", Cond.methodLink RX1 100 yX1_checkMinutes, Cond.static yX1_checkMinutes, Cond.code yX1_checkMinutes cX1_checkMinutes 1 none, Cond.classLink RX1 47 "java/lang/IllegalArgumentException", Cond.initialized "java/lang/IllegalArgumentException", Cond.methodLink RX1 43 yX1_isWithin, Cond.static yX1_isWithin, Cond.code yX1_isWithin cX1_isWithin 3 (some .boolean), Cond.methodLink RX1 120 yX1_copyClocks, Cond.instanceMethod yX1_copyClocks, Cond.selects RX1 yX1_copyClocks yX1_copyClocks, Cond.code yX1_copyClocks cX1_copyClocks 2 none, Cond.fieldLink RX1 19 "CuckooShop" "present" "I", Cond.fieldLink RX1 11 "CuckooShop" "clocks" "[LCuckooShop$Clock;", Cond.instanceMethod yX0_copyFrom, Cond.initialized RX0]
def wsL_loudest_r2 : List Cond := [Cond.selects RX0 yX0_copyFrom yX0_copyFrom, Cond.code yX0_copyFrom cX0_copyFrom 2 none, Cond.fieldLink RX0 9 "CuckooShop$Clock" "gearA" "I", Cond.fieldLink RX0 15 "CuckooShop$Clock" "gearB" "I", Cond.fieldLink RX0 18 "CuckooShop$Clock" "swing" "I", Cond.fieldLink RX0 21 "CuckooShop$Clock" "chain" "I", Cond.fieldLink RX0 24 "CuckooShop$Clock" "oil" "I", Cond.fieldLink RX0 27 "CuckooShop$Clock" "bellows" "I", Cond.fieldLink RX0 30 "CuckooShop$Clock" "goes" "Z", Cond.fieldLink RX0 34 "CuckooShop$Clock" "shown" "I", Cond.fieldLink RX0 37 "CuckooShop$Clock" "rest" "I", Cond.fieldLink RX0 40 "CuckooShop$Clock" "shutFrom" "I", Cond.fieldLink RX0 43 "CuckooShop$Clock" "shutTill" "I", Cond.fieldLink RX0 46 "CuckooShop$Clock" "calls" "I", Cond.fieldLink RX0 49 "CuckooShop$Clock" "missed" "I", Cond.fieldLink RX0 52 "CuckooShop$Clock" "latestCalls" "I", Cond.methodLink RX1 103 yX1_runRow, Cond.instanceMethod yX1_runRow, Cond.selects RX1 yX1_runRow yX1_runRow, Cond.code yX1_runRow cX1_runRow 5 (some .int), Cond.instanceMethod yX0_runMinute, Cond.selects RX0 yX0_runMinute yX0_runMinute, Cond.code yX0_runMinute cX0_runMinute 2 none, Cond.methodLink RX0 66 yX0_turn]
def wsL_loudest_r3 : List Cond := [Cond.instanceMethod yX0_turn, Cond.selects RX0 yX0_turn yX0_turn, Cond.code yX0_turn cX0_turn 3 none, Cond.methodLink RX0 73 yX0_advance, Cond.instanceMethod yX0_advance, Cond.selects RX0 yX0_advance yX0_advance, Cond.code yX0_advance cX0_advance 1 (some .int), Cond.methodLink RX0 55 yX0_advanceWith, Cond.instanceMethod yX0_advanceWith, Cond.selects RX0 yX0_advanceWith yX0_advanceWith, Cond.code yX0_advanceWith cX0_advanceWith 4 (some .int), Cond.methodLink RX0 77 yX0_isShutAt, Cond.instanceMethod yX0_isShutAt, Cond.selects RX0 yX0_isShutAt yX0_isShutAt, Cond.code yX0_isShutAt cX0_isShutAt 2 (some .boolean), Cond.methodLink RX0 81 yX0_callsDueAt, Cond.static yX0_callsDueAt, Cond.code yX0_callsDueAt cX0_callsDueAt 1 (some .int), Cond.methodLink RX0 84 yX0_cuckoo, Cond.instanceMethod yX0_cuckoo, Cond.selects RX0 yX0_cuckoo yX0_cuckoo, Cond.code yX0_cuckoo cX0_cuckoo 3 none, Cond.methodLink RX0 87 Lib.Math.min.name, Cond.static Lib.Math.min.name]
def wsL_loudest_r4 : List Cond := [Cond.initialized "java/lang/Math", Cond.code Lib.Math.min.name Lib.Math.min.code 2 (some .int), Cond.methodLink RX0 69 yX0_wear, Cond.instanceMethod yX0_wear, Cond.selects RX0 yX0_wear yX0_wear, Cond.code yX0_wear cX0_wear 2 none]
def wsL_loudest : List Cond := .codeWith yL_loudest cL_loudest 4 (some .int) [(0, 9, 12, 13)] :: ((wsL_loudest_r1 ++ (wsL_loudest_r2 ++ (wsL_loudest_r3 ++ wsL_loudest_r4))) ++ wsX10 ++ wsX00 ++ (vx_atS RX1 51 "java/lang/IllegalArgumentException" ["java/lang/RuntimeException", "java/lang/Exception"]).filter goodWord)
def wsL_foresee_r1 : List Cond := [Cond.classLink RL 13 "java/lang/IllegalArgumentException", Cond.classLink RL 21 "java/lang/IndexOutOfBoundsException", Cond.methodLink RL 58 yX1_foresee, Cond.instanceMethod yX1_foresee, Cond.selects RX1 yX1_foresee yX1_foresee, Cond.initialized RX1, Cond.code yX1_foresee cX1_foresee 5 (some .int), Cond.classLink RX1 86 "java/lang/IndexOutOfBoundsException", Cond.initialized "java/lang/IndexOutOfBoundsException", Cond.fieldLink RX1 15 "CuckooShop" "copies" "[LCuckooShop$Clock;", Cond.fieldLink RX1 23 "CuckooShop" "minute" "I", Cond.fieldLink RX1 11 "CuckooShop" "clocks" "[LCuckooShop$Clock;", Cond.methodLink RX1 100 yX1_checkMinutes, Cond.static yX1_checkMinutes, Cond.code yX1_checkMinutes cX1_checkMinutes 1 none, Cond.classLink RX1 47 "java/lang/IllegalArgumentException", Cond.initialized "java/lang/IllegalArgumentException", Cond.methodLink RX1 43 yX1_isWithin, Cond.static yX1_isWithin, Cond.code yX1_isWithin cX1_isWithin 3 (some .boolean), Cond.methodLink RX1 120 yX1_copyClocks, Cond.instanceMethod yX1_copyClocks, Cond.selects RX1 yX1_copyClocks yX1_copyClocks, Cond.code yX1_copyClocks cX1_copyClocks 2 none]
def wsL_foresee_r2 : List Cond := [Cond.fieldLink RX1 19 "CuckooShop" "present" "I", Cond.instanceMethod yX0_copyFrom, Cond.initialized RX0, Cond.selects RX0 yX0_copyFrom yX0_copyFrom, Cond.code yX0_copyFrom cX0_copyFrom 2 none, Cond.fieldLink RX0 9 "CuckooShop$Clock" "gearA" "I", Cond.fieldLink RX0 15 "CuckooShop$Clock" "gearB" "I", Cond.fieldLink RX0 18 "CuckooShop$Clock" "swing" "I", Cond.fieldLink RX0 21 "CuckooShop$Clock" "chain" "I", Cond.fieldLink RX0 24 "CuckooShop$Clock" "oil" "I", Cond.fieldLink RX0 27 "CuckooShop$Clock" "bellows" "I", Cond.fieldLink RX0 30 "CuckooShop$Clock" "goes" "Z", Cond.fieldLink RX0 34 "CuckooShop$Clock" "shown" "I", Cond.fieldLink RX0 37 "CuckooShop$Clock" "rest" "I", Cond.fieldLink RX0 40 "CuckooShop$Clock" "shutFrom" "I", Cond.fieldLink RX0 43 "CuckooShop$Clock" "shutTill" "I", Cond.fieldLink RX0 46 "CuckooShop$Clock" "calls" "I", Cond.fieldLink RX0 49 "CuckooShop$Clock" "missed" "I", Cond.fieldLink RX0 52 "CuckooShop$Clock" "latestCalls" "I", Cond.methodLink RX1 103 yX1_runRow, Cond.instanceMethod yX1_runRow, Cond.selects RX1 yX1_runRow yX1_runRow, Cond.code yX1_runRow cX1_runRow 5 (some .int), Cond.instanceMethod yX0_runMinute]
def wsL_foresee_r3 : List Cond := [Cond.selects RX0 yX0_runMinute yX0_runMinute, Cond.code yX0_runMinute cX0_runMinute 2 none, Cond.methodLink RX0 66 yX0_turn, Cond.instanceMethod yX0_turn, Cond.selects RX0 yX0_turn yX0_turn, Cond.code yX0_turn cX0_turn 3 none, Cond.methodLink RX0 73 yX0_advance, Cond.instanceMethod yX0_advance, Cond.selects RX0 yX0_advance yX0_advance, Cond.code yX0_advance cX0_advance 1 (some .int), Cond.methodLink RX0 55 yX0_advanceWith, Cond.instanceMethod yX0_advanceWith, Cond.selects RX0 yX0_advanceWith yX0_advanceWith, Cond.code yX0_advanceWith cX0_advanceWith 4 (some .int), Cond.methodLink RX0 77 yX0_isShutAt, Cond.instanceMethod yX0_isShutAt, Cond.selects RX0 yX0_isShutAt yX0_isShutAt, Cond.code yX0_isShutAt cX0_isShutAt 2 (some .boolean), Cond.methodLink RX0 81 yX0_callsDueAt, Cond.static yX0_callsDueAt, Cond.code yX0_callsDueAt cX0_callsDueAt 1 (some .int), Cond.methodLink RX0 84 yX0_cuckoo, Cond.instanceMethod yX0_cuckoo, Cond.selects RX0 yX0_cuckoo yX0_cuckoo]
def wsL_foresee_r4 : List Cond := [Cond.code yX0_cuckoo cX0_cuckoo 3 none, Cond.methodLink RX0 87 Lib.Math.min.name, Cond.static Lib.Math.min.name, Cond.initialized "java/lang/Math", Cond.code Lib.Math.min.name Lib.Math.min.code 2 (some .int), Cond.methodLink RX0 69 yX0_wear, Cond.instanceMethod yX0_wear, Cond.selects RX0 yX0_wear yX0_wear, Cond.code yX0_wear cX0_wear 2 none, Cond.methodLink RX1 125 yX1_sumOf, Cond.instanceMethod yX1_sumOf, Cond.selects RX1 yX1_sumOf yX1_sumOf, Cond.code yX1_sumOf cX1_sumOf 5 (some .int), Cond.instanceMethod yX0_reading, Cond.selects RX0 yX0_reading yX0_reading, Cond.code yX0_reading cX0_reading 2 (some .int), Cond.methodLink RX1 128 yX1_offOfAll, Cond.instanceMethod yX1_offOfAll, Cond.selects RX1 yX1_offOfAll yX1_offOfAll, Cond.code yX1_offOfAll cX1_offOfAll 5 (some .int), Cond.methodLink RX1 166 Lib.Math.abs.name, Cond.static Lib.Math.abs.name, Cond.code Lib.Math.abs.name Lib.Math.abs.code 1 (some .int), Cond.methodLink RX1 62 yX1_offOf]
def wsL_foresee_r5 : List Cond := [Cond.static yX1_offOf, Cond.code yX1_offOf cX1_offOf 3 (some .int), Cond.methodLink RX1 160 yX1_trueTime, Cond.static yX1_trueTime, Cond.code yX1_trueTime cX1_trueTime 1 (some .int), Cond.methodLink RX1 152 yJ9_floorMod_7cf53, Cond.static yJ9_floorMod_7cf53, Cond.initialized RJ9, Cond.code yJ9_floorMod_7cf53 cJ9_floorMod_7cf53 3 (some .int)]
def wsL_foresee : List Cond := .codeWith yL_foresee cL_foresee 5 (some .int) [(0, 10, 13, 13), (0, 10, 17, 21)] :: ((wsL_foresee_r1 ++ (wsL_foresee_r2 ++ (wsL_foresee_r3 ++ (wsL_foresee_r4 ++ wsL_foresee_r5)))) ++ wsX10 ++ wsX00 ++ (vx_atS RX1 90 "java/lang/IndexOutOfBoundsException" ["java/lang/RuntimeException", "java/lang/Exception"]).filter goodWord ++ (vx_atS RX1 51 "java/lang/IllegalArgumentException" ["java/lang/RuntimeException", "java/lang/Exception"]).filter goodWord)
def wsL_advise_r1 : List Cond := [Cond.classLink RL 21 "java/lang/IndexOutOfBoundsException", Cond.methodLink RL 61 yX1_advise, Cond.instanceMethod yX1_advise, Cond.selects RX1 yX1_advise yX1_advise, Cond.initialized RX1, Cond.code yX1_advise cX1_advise 2 (some .int), Cond.fieldLink RX1 11 "CuckooShop" "clocks" "[LCuckooShop$Clock;", Cond.methodLink RX1 40 yX1_checkClock, Cond.instanceMethod yX1_checkClock, Cond.selects RX1 yX1_checkClock yX1_checkClock, Cond.code yX1_checkClock cX1_checkClock 2 none, Cond.classLink RX1 86 "java/lang/IndexOutOfBoundsException", Cond.initialized "java/lang/IndexOutOfBoundsException", Cond.fieldLink RX1 19 "CuckooShop" "present" "I", Cond.instanceMethod yX0_truestGears, Cond.initialized RX0, Cond.selects RX0 yX0_truestGears yX0_truestGears, Cond.code yX0_truestGears cX0_truestGears 6 (some .int), Cond.constant RX0 59 (1000000), Cond.methodLink RX0 60 Lib.Math.abs.name, Cond.static Lib.Math.abs.name, Cond.initialized "java/lang/Math", Cond.code Lib.Math.abs.name Lib.Math.abs.code 1 (some .int), Cond.methodLink RX0 55 yX0_advanceWith]
def wsL_advise_r2 : List Cond := [Cond.instanceMethod yX0_advanceWith, Cond.selects RX0 yX0_advanceWith yX0_advanceWith, Cond.code yX0_advanceWith cX0_advanceWith 4 (some .int), Cond.fieldLink RX0 18 "CuckooShop$Clock" "swing" "I", Cond.fieldLink RX0 24 "CuckooShop$Clock" "oil" "I"]
def wsL_advise : List Cond := .codeWith yL_advise cL_advise 4 (some .int) [(0, 9, 12, 21)] :: ((wsL_advise_r1 ++ wsL_advise_r2) ++ wsX10 ++ wsX00 ++ (vx_atS RX1 90 "java/lang/IndexOutOfBoundsException" ["java/lang/RuntimeException", "java/lang/Exception"]).filter goodWord)
def wsL_law0_r1 : List Cond := [Cond.classLink RL 8 RX1, Cond.instantiable RX1 4, Cond.initialized RX1, Cond.classLink RL 65 RX2, Cond.instantiable RX2 4, Cond.initialized RX2, Cond.arrayClass .long, Cond.methodLink RL 64 yX1_init, Cond.instanceMethod yX1_init, Cond.code yX1_init cX1_init 2 none, Cond.methodLink RX1 1 objectInit, Cond.instanceMethod objectInit, Cond.code objectInit ⟨#[0xb1]⟩ 1 none, Cond.classLink RX1 9 RX0, Cond.fieldLink RX1 11 "CuckooShop" "clocks" "[LCuckooShop$Clock;", Cond.fieldLink RX1 15 "CuckooShop" "copies" "[LCuckooShop$Clock;", Cond.instantiable RX0 14, Cond.initialized RX0, Cond.fieldLink RX1 19 "CuckooShop" "present" "I", Cond.fieldLink RX1 23 "CuckooShop" "minute" "I", Cond.instanceMethod yX0_init, Cond.code yX0_init cX0_init 1 none, Cond.methodLink RX0 3 objectInit, Cond.fieldLink RX0 9 "CuckooShop$Clock" "gearA" "I"]
def wsL_law0_r2 : List Cond := [Cond.fieldLink RX0 15 "CuckooShop$Clock" "gearB" "I", Cond.fieldLink RX0 18 "CuckooShop$Clock" "swing" "I", Cond.fieldLink RX0 21 "CuckooShop$Clock" "chain" "I", Cond.fieldLink RX0 24 "CuckooShop$Clock" "oil" "I", Cond.fieldLink RX0 27 "CuckooShop$Clock" "bellows" "I", Cond.fieldLink RX0 30 "CuckooShop$Clock" "goes" "Z", Cond.fieldLink RX0 34 "CuckooShop$Clock" "shown" "I", Cond.fieldLink RX0 37 "CuckooShop$Clock" "rest" "I", Cond.fieldLink RX0 40 "CuckooShop$Clock" "shutFrom" "I", Cond.fieldLink RX0 43 "CuckooShop$Clock" "shutTill" "I", Cond.fieldLink RX0 46 "CuckooShop$Clock" "calls" "I", Cond.fieldLink RX0 49 "CuckooShop$Clock" "missed" "I", Cond.fieldLink RX0 52 "CuckooShop$Clock" "latestCalls" "I", Cond.methodLink RL 67 yX2_init, Cond.instanceMethod yX2_init, Cond.code yX2_init cX2_init 1 none, Cond.methodLink RX2 1 objectInit, Cond.arrayClass .int, Cond.fieldLink RX2 9 "CuckooShopModel" "shop" "[I", Cond.fieldLink RX2 13 "CuckooShopModel" "minute" "[I", Cond.methodLink RL 68 yL_come, Cond.static yL_come, Cond.initialized RL, Cond.codeWith yL_come cL_come 4 (some .int) [(0, 9, 12, 13), (0, 9, 15, 15)]]
def wsL_law0_r3 : List Cond := [Cond.classLink RL 13 "java/lang/IllegalArgumentException", Cond.classLink RL 15 "java/lang/IllegalStateException", Cond.methodLink RL 7 yX1_come, Cond.instanceMethod yX1_come, Cond.selects RX1 yX1_come yX1_come, Cond.code yX1_come cX1_come 2 (some .int), Cond.classLink RX1 30 "java/lang/IllegalStateException", Cond.initialized "java/lang/IllegalStateException", Cond.methodLink RX1 26 yX1_checkTime, Cond.static yX1_checkTime, Cond.code yX1_checkTime cX1_checkTime 1 none, Cond.classLink RX1 47 "java/lang/IllegalArgumentException", Cond.initialized "java/lang/IllegalArgumentException", Cond.methodLink RX1 43 yX1_isWithin, Cond.static yX1_isWithin, Cond.code yX1_isWithin cX1_isWithin 3 (some .boolean), Cond.instanceMethod yX0_putHands, Cond.selects RX0 yX0_putHands yX0_putHands, Cond.code yX0_putHands cX0_putHands 2 none, Cond.methodLink RL 73 yX2_come, Cond.instanceMethod yX2_come, Cond.selects RX2 yX2_come yX2_come, Cond.code yX2_come cX2_come 3 (some .int), Cond.fieldLink RX2 16 "CuckooShopModel" "thrown" "I"]
def wsL_law0_r4 : List Cond := [Cond.fieldLink RX2 20 "CuckooShopModel" "clocks" "I", Cond.methodLink RX2 31 arraycopyName, Cond.native arraycopyName, Cond.static arraycopyName, Cond.initialized "java/lang/System", Cond.methodLink RX2 23 yX2_isIn, Cond.static yX2_isIn, Cond.code yX2_isIn cX2_isIn 3 (some .boolean), Cond.methodLink RX2 27 yX2_fail, Cond.instanceMethod yX2_fail, Cond.selects RX2 yX2_fail yX2_fail, Cond.code yX2_fail cX2_fail 2 (some .int), Cond.methodLink RL 74 yX2_thrown, Cond.instanceMethod yX2_thrown, Cond.selects RX2 yX2_thrown yX2_thrown, Cond.code yX2_thrown cX2_thrown 1 (some .int), Cond.methodLink RL 78 yL_gear, Cond.static yL_gear, Cond.codeWith yL_gear cL_gear 7 (some .int) [(0, 14, 17, 21), (0, 14, 21, 13)], Cond.classLink RL 21 "java/lang/IndexOutOfBoundsException", Cond.methodLink RL 17 yX1_gear, Cond.instanceMethod yX1_gear, Cond.selects RX1 yX1_gear yX1_gear, Cond.code yX1_gear cX1_gear 5 (some .int)]
def wsL_law0_r5 : List Cond := [Cond.methodLink RX1 40 yX1_checkClock, Cond.instanceMethod yX1_checkClock, Cond.selects RX1 yX1_checkClock yX1_checkClock, Cond.code yX1_checkClock cX1_checkClock 2 none, Cond.classLink RX1 86 "java/lang/IndexOutOfBoundsException", Cond.initialized "java/lang/IndexOutOfBoundsException", Cond.instanceMethod yX0_fitTrain, Cond.selects RX0 yX0_fitTrain yX0_fitTrain, Cond.code yX0_fitTrain cX0_fitTrain 4 none, Cond.instanceMethod yX0_advance, Cond.selects RX0 yX0_advance yX0_advance, Cond.code yX0_advance cX0_advance 1 (some .int), Cond.methodLink RX0 55 yX0_advanceWith, Cond.instanceMethod yX0_advanceWith, Cond.selects RX0 yX0_advanceWith yX0_advanceWith, Cond.code yX0_advanceWith cX0_advanceWith 4 (some .int), Cond.methodLink RL 81 yX2_gear, Cond.instanceMethod yX2_gear, Cond.selects RX2 yX2_gear yX2_gear, Cond.code yX2_gear cX2_gear 5 (some .int), Cond.methodLink RX2 45 yX2_isClock, Cond.instanceMethod yX2_isClock, Cond.selects RX2 yX2_isClock yX2_isClock, Cond.code yX2_isClock cX2_isClock 2 (some .boolean)]
def wsL_law0_r6 : List Cond := [Cond.methodLink RX2 49 yX2_put, Cond.instanceMethod yX2_put, Cond.selects RX2 yX2_put yX2_put, Cond.code yX2_put cX2_put 4 none, Cond.methodLink RX2 53 yX2_advance_, Cond.instanceMethod yX2_advance_, Cond.selects RX2 yX2_advance_ yX2_advance_, Cond.code yX2_advance_ cX2_advance_ 2 (some .int), Cond.methodLink RX2 37 yX2_sh, Cond.instanceMethod yX2_sh, Cond.selects RX2 yX2_sh yX2_sh, Cond.code yX2_sh cX2_sh 3 (some .int), Cond.methodLink RX2 41 yX2_advance, Cond.instanceMethod yX2_advance, Cond.selects RX2 yX2_advance yX2_advance, Cond.code yX2_advance cX2_advance 5 (some .int), Cond.methodLink RL 82 yL_set, Cond.static yL_set, Cond.codeWith yL_set cL_set 5 (some .int) [(0, 10, 13, 21), (0, 10, 17, 13)], Cond.methodLink RL 23 yX1_set, Cond.instanceMethod yX1_set, Cond.selects RX1 yX1_set yX1_set, Cond.code yX1_set cX1_set 4 (some .int), Cond.methodLink RX1 62 yX1_offOf]
def wsL_law0_r7 : List Cond := [Cond.static yX1_offOf, Cond.code yX1_offOf cX1_offOf 3 (some .int), Cond.methodLink RX1 160 yX1_trueTime, Cond.static yX1_trueTime, Cond.code yX1_trueTime cX1_trueTime 1 (some .int), Cond.methodLink RX1 152 yJ9_floorMod_7cf53, Cond.static yJ9_floorMod_7cf53, Cond.initialized RJ9, Cond.code yJ9_floorMod_7cf53 cJ9_floorMod_7cf53 3 (some .int), Cond.methodLink RL 85 yX2_set, Cond.instanceMethod yX2_set, Cond.selects RX2 yX2_set yX2_set, Cond.code yX2_set cX2_set 4 (some .int), Cond.methodLink RX2 55 yX2_offBy, Cond.instanceMethod yX2_offBy, Cond.selects RX2 yX2_offBy yX2_offBy, Cond.code yX2_offBy cX2_offBy 2 (some .int), Cond.methodLink RL 86 yL_wind, Cond.static yL_wind, Cond.codeWith yL_wind cL_wind 4 (some .int) [(0, 9, 12, 21)], Cond.methodLink RL 27 yX1_wind, Cond.instanceMethod yX1_wind, Cond.selects RX1 yX1_wind yX1_wind, Cond.code yX1_wind cX1_wind 2 (some .int)]
def wsL_law0_r8 : List Cond := [Cond.instanceMethod yX0_drawUp, Cond.selects RX0 yX0_drawUp yX0_drawUp, Cond.code yX0_drawUp cX0_drawUp 2 (some .int), Cond.methodLink RL 88 yX2_wind, Cond.instanceMethod yX2_wind, Cond.selects RX2 yX2_wind yX2_wind, Cond.code yX2_wind cX2_wind 3 (some .int), Cond.methodLink RL 89 yL_mend, Cond.static yL_mend, Cond.codeWith yL_mend cL_mend 5 (some .int) [(0, 10, 13, 21), (0, 10, 17, 13)], Cond.methodLink RL 30 yX1_mend, Cond.instanceMethod yX1_mend, Cond.selects RX1 yX1_mend yX1_mend, Cond.code yX1_mend cX1_mend 3 (some .int), Cond.instanceMethod yX0_fillOil, Cond.selects RX0 yX0_fillOil yX0_fillOil, Cond.code yX0_fillOil cX0_fillOil 2 (some .int), Cond.instanceMethod yX0_patchBellows, Cond.selects RX0 yX0_patchBellows yX0_patchBellows, Cond.code yX0_patchBellows cX0_patchBellows 2 (some .int), Cond.instanceMethod yX0_nudge, Cond.selects RX0 yX0_nudge yX0_nudge, Cond.code yX0_nudge cX0_nudge 1 (some .int), Cond.methodLink RL 91 yX2_mend]
def wsL_law0_r9 : List Cond := [Cond.instanceMethod yX2_mend, Cond.selects RX2 yX2_mend yX2_mend, Cond.code yX2_mend cX2_mend 6 (some .int), Cond.methodLink RL 92 yL_shut, Cond.static yL_shut, Cond.codeWith yL_shut cL_shut 6 (some .int) [(0, 12, 15, 21), (0, 12, 19, 13)], Cond.methodLink RL 33 yX1_shut, Cond.instanceMethod yX1_shut, Cond.selects RX1 yX1_shut yX1_shut, Cond.code yX1_shut cX1_shut 4 (some .int), Cond.instanceMethod yX0_silence, Cond.selects RX0 yX0_silence yX0_silence, Cond.code yX0_silence cX0_silence 4 (some .int), Cond.methodLink RL 95 yX2_shut, Cond.instanceMethod yX2_shut, Cond.selects RX2 yX2_shut yX2_shut, Cond.code yX2_shut cX2_shut 5 (some .int), Cond.methodLink RL 96 yL_clock, Cond.static yL_clock, Cond.codeWith yL_clock cL_clock 5 (some .int) [(0, 10, 13, 21)], Cond.methodLink RL 37 yX1_clock, Cond.instanceMethod yX1_clock, Cond.selects RX1 yX1_clock yX1_clock, Cond.code yX1_clock cX1_clock 3 (some .int)]
def wsL_law0_r10 : List Cond := [Cond.instanceMethod yX0_reading, Cond.selects RX0 yX0_reading yX0_reading, Cond.code yX0_reading cX0_reading 2 (some .int), Cond.methodLink RX0 73 yX0_advance, Cond.methodLink RX0 77 yX0_isShutAt, Cond.instanceMethod yX0_isShutAt, Cond.selects RX0 yX0_isShutAt yX0_isShutAt, Cond.code yX0_isShutAt cX0_isShutAt 2 (some .boolean), Cond.methodLink RL 98 yX2_clock, Cond.instanceMethod yX2_clock, Cond.selects RX2 yX2_clock yX2_clock, Cond.code yX2_clock cX2_clock 3 (some .int), Cond.methodLink RX2 61 yX2_clockTold, Cond.instanceMethod yX2_clockTold, Cond.selects RX2 yX2_clockTold yX2_clockTold, Cond.code yX2_clockTold cX2_clockTold 3 (some .int), Cond.methodLink RX2 58 yX2_isShut, Cond.instanceMethod yX2_isShut, Cond.selects RX2 yX2_isShut yX2_isShut, Cond.code yX2_isShut cX2_isShut 4 (some .boolean), Cond.methodLink RL 99 yL_off, Cond.static yL_off, Cond.codeWith yL_off cL_off 4 (some .int) [(0, 9, 12, 21)], Cond.methodLink RL 40 yX1_off]
def wsL_law0_r11 : List Cond := [Cond.instanceMethod yX1_off, Cond.selects RX1 yX1_off yX1_off, Cond.code yX1_off cX1_off 2 (some .int), Cond.methodLink RL 101 yX2_off, Cond.instanceMethod yX2_off, Cond.selects RX2 yX2_off yX2_off, Cond.code yX2_off cX2_off 2 (some .int), Cond.methodLink RL 102 yL_count, Cond.static yL_count, Cond.codeWith yL_count cL_count 4 (some .int) [(0, 9, 12, 21)], Cond.methodLink RL 43 yX1_count, Cond.instanceMethod yX1_count, Cond.selects RX1 yX1_count yX1_count, Cond.code yX1_count cX1_count 2 (some .int), Cond.methodLink RX1 97 yX1_tally, Cond.instanceMethod yX1_tally, Cond.selects RX1 yX1_tally yX1_tally, Cond.code yX1_tally cX1_tally 2 (some .int), Cond.methodLink RX1 125 yX1_sumOf, Cond.instanceMethod yX1_sumOf, Cond.selects RX1 yX1_sumOf yX1_sumOf, Cond.code yX1_sumOf cX1_sumOf 5 (some .int), Cond.methodLink RX1 163 yX1_trueClocks, Cond.instanceMethod yX1_trueClocks]
def wsL_law0_r12 : List Cond := [Cond.selects RX1 yX1_trueClocks yX1_trueClocks, Cond.code yX1_trueClocks cX1_trueClocks 3 (some .int), Cond.methodLink RX1 128 yX1_offOfAll, Cond.instanceMethod yX1_offOfAll, Cond.selects RX1 yX1_offOfAll yX1_offOfAll, Cond.code yX1_offOfAll cX1_offOfAll 5 (some .int), Cond.methodLink RX1 166 Lib.Math.abs.name, Cond.static Lib.Math.abs.name, Cond.initialized "java/lang/Math", Cond.code Lib.Math.abs.name Lib.Math.abs.code 1 (some .int), Cond.methodLink RL 104 yX2_count, Cond.instanceMethod yX2_count, Cond.selects RX2 yX2_count yX2_count, Cond.code yX2_count cX2_count 2 (some .int), Cond.methodLink RX2 72 yX2_counted, Cond.instanceMethod yX2_counted, Cond.selects RX2 yX2_counted yX2_counted, Cond.code yX2_counted cX2_counted 4 (some .int), Cond.methodLink RX2 67 Lib.Math.abs.name, Cond.methodLink RX2 64 yX2_all, Cond.instanceMethod yX2_all, Cond.selects RX2 yX2_all yX2_all, Cond.code yX2_all cX2_all 4 (some .int), Cond.methodLink RL 105 yL_pass]
def wsL_law0_r13 : List Cond := [Cond.static yL_pass, Cond.codeWith yL_pass cL_pass 4 (some .int) [(0, 9, 12, 13)], Cond.methodLink RL 46 yX1_pass, Cond.instanceMethod yX1_pass, Cond.selects RX1 yX1_pass yX1_pass, Cond.code yX1_pass cX1_pass 4 (some .int), Cond.methodLink RX1 100 yX1_checkMinutes, Cond.static yX1_checkMinutes, Cond.code yX1_checkMinutes cX1_checkMinutes 1 none, Cond.methodLink RX1 103 yX1_runRow, Cond.instanceMethod yX1_runRow, Cond.selects RX1 yX1_runRow yX1_runRow, Cond.code yX1_runRow cX1_runRow 5 (some .int), Cond.instanceMethod yX0_runMinute, Cond.selects RX0 yX0_runMinute yX0_runMinute, Cond.code yX0_runMinute cX0_runMinute 2 none, Cond.methodLink RX0 66 yX0_turn, Cond.instanceMethod yX0_turn, Cond.selects RX0 yX0_turn yX0_turn, Cond.code yX0_turn cX0_turn 3 none, Cond.methodLink RX0 81 yX0_callsDueAt, Cond.static yX0_callsDueAt, Cond.code yX0_callsDueAt cX0_callsDueAt 1 (some .int), Cond.methodLink RX0 84 yX0_cuckoo]
def wsL_law0_r14 : List Cond := [Cond.instanceMethod yX0_cuckoo, Cond.selects RX0 yX0_cuckoo yX0_cuckoo, Cond.code yX0_cuckoo cX0_cuckoo 3 none, Cond.methodLink RX0 87 Lib.Math.min.name, Cond.static Lib.Math.min.name, Cond.code Lib.Math.min.name Lib.Math.min.code 2 (some .int), Cond.methodLink RX0 69 yX0_wear, Cond.instanceMethod yX0_wear, Cond.selects RX0 yX0_wear yX0_wear, Cond.code yX0_wear cX0_wear 2 none, Cond.methodLink RL 107 yX2_pass, Cond.instanceMethod yX2_pass, Cond.selects RX2 yX2_pass yX2_pass, Cond.code yX2_pass cX2_pass 3 (some .int), Cond.methodLink RX2 91 yX2_minutesOn, Cond.instanceMethod yX2_minutesOn, Cond.selects RX2 yX2_minutesOn yX2_minutesOn, Cond.code yX2_minutesOn cX2_minutesOn 3 none, Cond.methodLink RX2 88 yX2_minuteOn, Cond.instanceMethod yX2_minuteOn, Cond.selects RX2 yX2_minuteOn yX2_minuteOn, Cond.code yX2_minuteOn cX2_minuteOn 2 none, Cond.methodLink RX2 85 Lib.Math.max.name, Cond.static Lib.Math.max.name]
def wsL_law0_r15 : List Cond := [Cond.code Lib.Math.max.name Lib.Math.max.code 2 (some .int), Cond.methodLink RX2 78 yX2_add, Cond.instanceMethod yX2_add, Cond.selects RX2 yX2_add yX2_add, Cond.code yX2_add cX2_add 4 none, Cond.methodLink RX2 81 yX2_call, Cond.instanceMethod yX2_call, Cond.selects RX2 yX2_call yX2_call, Cond.code yX2_call cX2_call 5 none, Cond.methodLink RX2 75 Lib.Math.min.name, Cond.methodLink RL 108 yL_next, Cond.static yL_next, Cond.codeWith yL_next cL_next 4 (some .int) [(0, 9, 12, 21)], Cond.methodLink RL 49 yX1_next, Cond.instanceMethod yX1_next, Cond.selects RX1 yX1_next yX1_next, Cond.code yX1_next cX1_next 4 (some .int), Cond.instanceMethod yX0_copyFrom, Cond.selects RX0 yX0_copyFrom yX0_copyFrom, Cond.code yX0_copyFrom cX0_copyFrom 2 none, Cond.methodLink RL 110 yX2_next, Cond.instanceMethod yX2_next, Cond.selects RX2 yX2_next yX2_next, Cond.code yX2_next cX2_next 5 (some .int)]
def wsL_law0_r16 : List Cond := [Cond.methodLink RX2 99 yX2_kept, Cond.instanceMethod yX2_kept, Cond.selects RX2 yX2_kept yX2_kept, Cond.code yX2_kept cX2_kept 1 (some (.array (.array .int))), Cond.classLink RX2 94 "[I", Cond.methodLink RX2 95 ⟨"[I", "clone", "()Ljava/lang/Object;"⟩, Cond.sameMethod "[I" "java/lang/Object" "clone" "()Ljava/lang/Object;", Cond.native ⟨"java/lang/Object", "clone", "()Ljava/lang/Object;"⟩, Cond.instanceMethod ⟨"java/lang/Object", "clone", "()Ljava/lang/Object;"⟩, Cond.selects "[I" ⟨"[I", "clone", "()Ljava/lang/Object;"⟩ ⟨"java/lang/Object", "clone", "()Ljava/lang/Object;"⟩, Cond.methodLink RX2 103 yX2_bringBack, Cond.instanceMethod yX2_bringBack, Cond.selects RX2 yX2_bringBack yX2_bringBack, Cond.code yX2_bringBack cX2_bringBack 2 none, Cond.methodLink RL 111 yL_stands, Cond.static yL_stands, Cond.codeWith yL_stands cL_stands 4 (some .int) [(0, 9, 12, 21)], Cond.methodLink RL 52 yX1_stands, Cond.instanceMethod yX1_stands, Cond.selects RX1 yX1_stands yX1_stands, Cond.code yX1_stands cX1_stands 2 (some .int), Cond.instanceMethod yX0_minutesToStand, Cond.selects RX0 yX0_minutesToStand yX0_minutesToStand, Cond.code yX0_minutesToStand cX0_minutesToStand 1 (some .int)]
def wsL_law0_r17 : List Cond := [Cond.methodLink RL 113 yX2_stands, Cond.instanceMethod yX2_stands, Cond.selects RX2 yX2_stands yX2_stands, Cond.code yX2_stands cX2_stands 2 (some .int), Cond.methodLink RL 114 yL_loudest, Cond.static yL_loudest, Cond.codeWith yL_loudest cL_loudest 4 (some .int) [(0, 9, 12, 13)], Cond.methodLink RL 55 yX1_loudest, Cond.instanceMethod yX1_loudest, Cond.selects RX1 yX1_loudest yX1_loudest, Cond.code yX1_loudest cX1_loudest 6 (some .int), Cond.methodLink RX1 120 yX1_copyClocks, Cond.instanceMethod yX1_copyClocks, Cond.selects RX1 yX1_copyClocks yX1_copyClocks, Cond.code yX1_copyClocks cX1_copyClocks 2 none, Cond.methodLink RL 116 yX2_loudest, Cond.instanceMethod yX2_loudest, Cond.selects RX2 yX2_loudest yX2_loudest, Cond.code yX2_loudest cX2_loudest 6 (some .int), Cond.methodLink RL 117 yL_foresee, Cond.static yL_foresee, Cond.codeWith yL_foresee cL_foresee 5 (some .int) [(0, 10, 13, 13), (0, 10, 17, 21)], Cond.methodLink RL 58 yX1_foresee, Cond.instanceMethod yX1_foresee]
def wsL_law0_r18 : List Cond := [Cond.selects RX1 yX1_foresee yX1_foresee, Cond.code yX1_foresee cX1_foresee 5 (some .int), Cond.methodLink RL 119 yX2_foresee, Cond.instanceMethod yX2_foresee, Cond.selects RX2 yX2_foresee yX2_foresee, Cond.code yX2_foresee cX2_foresee 7 (some .int), Cond.methodLink RL 120 yL_advise, Cond.static yL_advise, Cond.codeWith yL_advise cL_advise 4 (some .int) [(0, 9, 12, 21)], Cond.methodLink RL 61 yX1_advise, Cond.instanceMethod yX1_advise, Cond.selects RX1 yX1_advise yX1_advise, Cond.code yX1_advise cX1_advise 2 (some .int), Cond.instanceMethod yX0_truestGears, Cond.selects RX0 yX0_truestGears yX0_truestGears, Cond.code yX0_truestGears cX0_truestGears 6 (some .int), Cond.constant RX0 59 (1000000), Cond.methodLink RX0 60 Lib.Math.abs.name, Cond.methodLink RL 122 yX2_advise, Cond.instanceMethod yX2_advise, Cond.selects RX2 yX2_advise yX2_advise, Cond.code yX2_advise cX2_advise 7 (some .int), Cond.methodLink RL 123 yX1_mean, Cond.instanceMethod yX1_mean]
def wsL_law0_r19 : List Cond := [Cond.selects RX1 yX1_mean yX1_mean, Cond.code yX1_mean cX1_mean 4 (some .double), Cond.methodLink RL 127 yX2_mean, Cond.instanceMethod yX2_mean, Cond.selects RX2 yX2_mean yX2_mean, Cond.code yX2_mean cX2_mean 3 (some .double), Cond.methodLink RL 128 yX1_digest, Cond.instanceMethod yX1_digest, Cond.selects RX1 yX1_digest yX1_digest, Cond.code yX1_digest cX1_digest 4 (some .long), Cond.constantLong RX1 138 (1009), Cond.constantLong RX1 140 (31), Cond.instanceMethod yX0_mixInto, Cond.selects RX0 yX0_mixInto yX0_mixInto, Cond.code yX0_mixInto cX0_mixInto 6 (some .long), Cond.constantLong RX0 90 (31), Cond.methodLink RX0 92 yX0_reading, Cond.methodLink RL 132 yX2_digest, Cond.instanceMethod yX2_digest, Cond.selects RX2 yX2_digest yX2_digest, Cond.code yX2_digest cX2_digest 5 (some .long), Cond.constantLong RX2 107 (1009), Cond.constantLong RX2 109 (31)]
def wsL_law0 : List Cond := (wsL_law0_r1 ++ (wsL_law0_r2 ++ (wsL_law0_r3 ++ (wsL_law0_r4 ++ (wsL_law0_r5 ++ (wsL_law0_r6 ++ (wsL_law0_r7 ++ (wsL_law0_r8 ++ (wsL_law0_r9 ++ (wsL_law0_r10 ++ (wsL_law0_r11 ++ (wsL_law0_r12 ++ (wsL_law0_r13 ++ (wsL_law0_r14 ++ (wsL_law0_r15 ++ (wsL_law0_r16 ++ (wsL_law0_r17 ++ (wsL_law0_r18 ++ wsL_law0_r19)))))))))))))))))) ++ wsX10 ++ wsX20 ++ wsX00 ++ ([] : List Cond)
def wsL_law : List Cond := wsL_law0 ++ (vx_atS RX1 34 "java/lang/IllegalStateException" ["java/lang/RuntimeException", "java/lang/Exception"]).filter goodWord ++ (vx_atS RX1 51 "java/lang/IllegalArgumentException" ["java/lang/RuntimeException", "java/lang/Exception"]).filter goodWord ++ (vx_atS RX1 90 "java/lang/IndexOutOfBoundsException" ["java/lang/RuntimeException", "java/lang/Exception"]).filter goodWord
abbrev vwCl : List vw_C := [(RX0, TX0, 14), (RX1, TX1, 4), (RX2, TX2, 4)]
end
section
theorem dX0_init_0 : decode cX0_init 0 = .ok (.aload_n 0, 1) := by decide +kernel
theorem dX0_init_1 : decode cX0_init 1 = .ok (.invokespecial 3, 3) := by decide +kernel
theorem dX0_init_4 : decode cX0_init 4 = .ok (.aload_n 0, 1) := by decide +kernel
theorem dX0_init_5 : decode cX0_init 5 = .ok (.bipush 30, 2) := by decide +kernel
theorem dX0_init_7 : decode cX0_init 7 = .ok (.putfield 9, 3) := by decide +kernel
theorem dX0_init_10 : decode cX0_init 10 = .ok (.aload_n 0, 1) := by decide +kernel
theorem dX0_init_11 : decode cX0_init 11 = .ok (.bipush 30, 2) := by decide +kernel
theorem dX0_init_13 : decode cX0_init 13 = .ok (.putfield 15, 3) := by decide +kernel
theorem dX0_init_16 : decode cX0_init 16 = .ok (.aload_n 0, 1) := by decide +kernel
theorem dX0_init_17 : decode cX0_init 17 = .ok (.iconst 0, 1) := by decide +kernel
theorem dX0_init_18 : decode cX0_init 18 = .ok (.putfield 18, 3) := by decide +kernel
theorem dX0_init_21 : decode cX0_init 21 = .ok (.aload_n 0, 1) := by decide +kernel
theorem dX0_init_22 : decode cX0_init 22 = .ok (.sipush 600, 3) := by decide +kernel
theorem dX0_init_25 : decode cX0_init 25 = .ok (.putfield 21, 3) := by decide +kernel
theorem dX0_init_28 : decode cX0_init 28 = .ok (.aload_n 0, 1) := by decide +kernel
theorem dX0_init_29 : decode cX0_init 29 = .ok (.bipush 100, 2) := by decide +kernel
theorem dX0_init_31 : decode cX0_init 31 = .ok (.putfield 24, 3) := by decide +kernel
theorem dX0_init_34 : decode cX0_init 34 = .ok (.aload_n 0, 1) := by decide +kernel
theorem dX0_init_35 : decode cX0_init 35 = .ok (.bipush 60, 2) := by decide +kernel
theorem dX0_init_37 : decode cX0_init 37 = .ok (.putfield 27, 3) := by decide +kernel
theorem dX0_init_40 : decode cX0_init 40 = .ok (.aload_n 0, 1) := by decide +kernel
theorem dX0_init_41 : decode cX0_init 41 = .ok (.iconst 1, 1) := by decide +kernel
theorem dX0_init_42 : decode cX0_init 42 = .ok (.putfield 30, 3) := by decide +kernel
theorem dX0_init_45 : decode cX0_init 45 = .ok (.aload_n 0, 1) := by decide +kernel
theorem dX0_init_46 : decode cX0_init 46 = .ok (.iconst 0, 1) := by decide +kernel
theorem dX0_init_47 : decode cX0_init 47 = .ok (.putfield 34, 3) := by decide +kernel
theorem dX0_init_50 : decode cX0_init 50 = .ok (.aload_n 0, 1) := by decide +kernel
theorem dX0_init_51 : decode cX0_init 51 = .ok (.iconst 0, 1) := by decide +kernel
theorem dX0_init_52 : decode cX0_init 52 = .ok (.putfield 37, 3) := by decide +kernel
theorem dX0_init_55 : decode cX0_init 55 = .ok (.aload_n 0, 1) := by decide +kernel
theorem dX0_init_56 : decode cX0_init 56 = .ok (.iconst (-1), 1) := by decide +kernel
theorem dX0_init_57 : decode cX0_init 57 = .ok (.putfield 40, 3) := by decide +kernel
theorem dX0_init_60 : decode cX0_init 60 = .ok (.aload_n 0, 1) := by decide +kernel
theorem dX0_init_61 : decode cX0_init 61 = .ok (.iconst 0, 1) := by decide +kernel
theorem dX0_init_62 : decode cX0_init 62 = .ok (.putfield 43, 3) := by decide +kernel
theorem dX0_init_65 : decode cX0_init 65 = .ok (.aload_n 0, 1) := by decide +kernel
theorem dX0_init_66 : decode cX0_init 66 = .ok (.iconst 0, 1) := by decide +kernel
theorem dX0_init_67 : decode cX0_init 67 = .ok (.putfield 46, 3) := by decide +kernel
theorem dX0_init_70 : decode cX0_init 70 = .ok (.aload_n 0, 1) := by decide +kernel
theorem dX0_init_71 : decode cX0_init 71 = .ok (.iconst 0, 1) := by decide +kernel
theorem dX0_init_72 : decode cX0_init 72 = .ok (.putfield 49, 3) := by decide +kernel
theorem dX0_init_75 : decode cX0_init 75 = .ok (.aload_n 0, 1) := by decide +kernel
theorem dX0_init_76 : decode cX0_init 76 = .ok (.iconst 0, 1) := by decide +kernel
theorem dX0_init_77 : decode cX0_init 77 = .ok (.putfield 52, 3) := by decide +kernel
theorem dX0_init_80 : decode cX0_init 80 = .ok (.return_, 1) := by decide +kernel
theorem dX0_copyFrom_0 : decode cX0_copyFrom 0 = .ok (.aload_n 0, 1) := by decide +kernel
theorem dX0_copyFrom_1 : decode cX0_copyFrom 1 = .ok (.aload_n 1, 1) := by decide +kernel
theorem dX0_copyFrom_2 : decode cX0_copyFrom 2 = .ok (.getfield 9, 3) := by decide +kernel
theorem dX0_copyFrom_5 : decode cX0_copyFrom 5 = .ok (.putfield 9, 3) := by decide +kernel
theorem dX0_copyFrom_8 : decode cX0_copyFrom 8 = .ok (.aload_n 0, 1) := by decide +kernel
theorem dX0_copyFrom_9 : decode cX0_copyFrom 9 = .ok (.aload_n 1, 1) := by decide +kernel
theorem dX0_copyFrom_10 : decode cX0_copyFrom 10 = .ok (.getfield 15, 3) := by decide +kernel
theorem dX0_copyFrom_13 : decode cX0_copyFrom 13 = .ok (.putfield 15, 3) := by decide +kernel
theorem dX0_copyFrom_16 : decode cX0_copyFrom 16 = .ok (.aload_n 0, 1) := by decide +kernel
theorem dX0_copyFrom_17 : decode cX0_copyFrom 17 = .ok (.aload_n 1, 1) := by decide +kernel
theorem dX0_copyFrom_18 : decode cX0_copyFrom 18 = .ok (.getfield 18, 3) := by decide +kernel
theorem dX0_copyFrom_21 : decode cX0_copyFrom 21 = .ok (.putfield 18, 3) := by decide +kernel
theorem dX0_copyFrom_24 : decode cX0_copyFrom 24 = .ok (.aload_n 0, 1) := by decide +kernel
theorem dX0_copyFrom_25 : decode cX0_copyFrom 25 = .ok (.aload_n 1, 1) := by decide +kernel
theorem dX0_copyFrom_26 : decode cX0_copyFrom 26 = .ok (.getfield 21, 3) := by decide +kernel
theorem dX0_copyFrom_29 : decode cX0_copyFrom 29 = .ok (.putfield 21, 3) := by decide +kernel
theorem dX0_copyFrom_32 : decode cX0_copyFrom 32 = .ok (.aload_n 0, 1) := by decide +kernel
theorem dX0_copyFrom_33 : decode cX0_copyFrom 33 = .ok (.aload_n 1, 1) := by decide +kernel
theorem dX0_copyFrom_34 : decode cX0_copyFrom 34 = .ok (.getfield 24, 3) := by decide +kernel
theorem dX0_copyFrom_37 : decode cX0_copyFrom 37 = .ok (.putfield 24, 3) := by decide +kernel
theorem dX0_copyFrom_40 : decode cX0_copyFrom 40 = .ok (.aload_n 0, 1) := by decide +kernel
theorem dX0_copyFrom_41 : decode cX0_copyFrom 41 = .ok (.aload_n 1, 1) := by decide +kernel
theorem dX0_copyFrom_42 : decode cX0_copyFrom 42 = .ok (.getfield 27, 3) := by decide +kernel
theorem dX0_copyFrom_45 : decode cX0_copyFrom 45 = .ok (.putfield 27, 3) := by decide +kernel
theorem dX0_copyFrom_48 : decode cX0_copyFrom 48 = .ok (.aload_n 0, 1) := by decide +kernel
theorem dX0_copyFrom_49 : decode cX0_copyFrom 49 = .ok (.aload_n 1, 1) := by decide +kernel
theorem dX0_copyFrom_50 : decode cX0_copyFrom 50 = .ok (.getfield 30, 3) := by decide +kernel
theorem dX0_copyFrom_53 : decode cX0_copyFrom 53 = .ok (.putfield 30, 3) := by decide +kernel
theorem dX0_copyFrom_56 : decode cX0_copyFrom 56 = .ok (.aload_n 0, 1) := by decide +kernel
theorem dX0_copyFrom_57 : decode cX0_copyFrom 57 = .ok (.aload_n 1, 1) := by decide +kernel
theorem dX0_copyFrom_58 : decode cX0_copyFrom 58 = .ok (.getfield 34, 3) := by decide +kernel
theorem dX0_copyFrom_61 : decode cX0_copyFrom 61 = .ok (.putfield 34, 3) := by decide +kernel
theorem dX0_copyFrom_64 : decode cX0_copyFrom 64 = .ok (.aload_n 0, 1) := by decide +kernel
theorem dX0_copyFrom_65 : decode cX0_copyFrom 65 = .ok (.aload_n 1, 1) := by decide +kernel
theorem dX0_copyFrom_66 : decode cX0_copyFrom 66 = .ok (.getfield 37, 3) := by decide +kernel
theorem dX0_copyFrom_69 : decode cX0_copyFrom 69 = .ok (.putfield 37, 3) := by decide +kernel
theorem dX0_copyFrom_72 : decode cX0_copyFrom 72 = .ok (.aload_n 0, 1) := by decide +kernel
theorem dX0_copyFrom_73 : decode cX0_copyFrom 73 = .ok (.aload_n 1, 1) := by decide +kernel
theorem dX0_copyFrom_74 : decode cX0_copyFrom 74 = .ok (.getfield 40, 3) := by decide +kernel
theorem dX0_copyFrom_77 : decode cX0_copyFrom 77 = .ok (.putfield 40, 3) := by decide +kernel
theorem dX0_copyFrom_80 : decode cX0_copyFrom 80 = .ok (.aload_n 0, 1) := by decide +kernel
theorem dX0_copyFrom_81 : decode cX0_copyFrom 81 = .ok (.aload_n 1, 1) := by decide +kernel
theorem dX0_copyFrom_82 : decode cX0_copyFrom 82 = .ok (.getfield 43, 3) := by decide +kernel
theorem dX0_copyFrom_85 : decode cX0_copyFrom 85 = .ok (.putfield 43, 3) := by decide +kernel
theorem dX0_copyFrom_88 : decode cX0_copyFrom 88 = .ok (.aload_n 0, 1) := by decide +kernel
theorem dX0_copyFrom_89 : decode cX0_copyFrom 89 = .ok (.aload_n 1, 1) := by decide +kernel
theorem dX0_copyFrom_90 : decode cX0_copyFrom 90 = .ok (.getfield 46, 3) := by decide +kernel
theorem dX0_copyFrom_93 : decode cX0_copyFrom 93 = .ok (.putfield 46, 3) := by decide +kernel
theorem dX0_copyFrom_96 : decode cX0_copyFrom 96 = .ok (.aload_n 0, 1) := by decide +kernel
theorem dX0_copyFrom_97 : decode cX0_copyFrom 97 = .ok (.aload_n 1, 1) := by decide +kernel
theorem dX0_copyFrom_98 : decode cX0_copyFrom 98 = .ok (.getfield 49, 3) := by decide +kernel
theorem dX0_copyFrom_101 : decode cX0_copyFrom 101 = .ok (.putfield 49, 3) := by decide +kernel
theorem dX0_copyFrom_104 : decode cX0_copyFrom 104 = .ok (.aload_n 0, 1) := by decide +kernel
theorem dX0_copyFrom_105 : decode cX0_copyFrom 105 = .ok (.aload_n 1, 1) := by decide +kernel
theorem dX0_copyFrom_106 : decode cX0_copyFrom 106 = .ok (.getfield 52, 3) := by decide +kernel
theorem dX0_copyFrom_109 : decode cX0_copyFrom 109 = .ok (.putfield 52, 3) := by decide +kernel
theorem dX0_copyFrom_112 : decode cX0_copyFrom 112 = .ok (.return_, 1) := by decide +kernel
theorem dX0_putHands_0 : decode cX0_putHands 0 = .ok (.aload_n 0, 1) := by decide +kernel
theorem dX0_putHands_1 : decode cX0_putHands 1 = .ok (.iload_n 1, 1) := by decide +kernel
theorem dX0_putHands_2 : decode cX0_putHands 2 = .ok (.putfield 34, 3) := by decide +kernel
theorem dX0_putHands_5 : decode cX0_putHands 5 = .ok (.aload_n 0, 1) := by decide +kernel
theorem dX0_putHands_6 : decode cX0_putHands 6 = .ok (.iconst 0, 1) := by decide +kernel
theorem dX0_putHands_7 : decode cX0_putHands 7 = .ok (.putfield 37, 3) := by decide +kernel
theorem dX0_putHands_10 : decode cX0_putHands 10 = .ok (.return_, 1) := by decide +kernel
theorem dX0_fitTrain_0 : decode cX0_fitTrain 0 = .ok (.aload_n 0, 1) := by decide +kernel
theorem dX0_fitTrain_1 : decode cX0_fitTrain 1 = .ok (.iload_n 1, 1) := by decide +kernel
theorem dX0_fitTrain_2 : decode cX0_fitTrain 2 = .ok (.putfield 9, 3) := by decide +kernel
theorem dX0_fitTrain_5 : decode cX0_fitTrain 5 = .ok (.aload_n 0, 1) := by decide +kernel
theorem dX0_fitTrain_6 : decode cX0_fitTrain 6 = .ok (.iload_n 2, 1) := by decide +kernel
theorem dX0_fitTrain_7 : decode cX0_fitTrain 7 = .ok (.putfield 15, 3) := by decide +kernel
theorem dX0_fitTrain_10 : decode cX0_fitTrain 10 = .ok (.aload_n 0, 1) := by decide +kernel
theorem dX0_fitTrain_11 : decode cX0_fitTrain 11 = .ok (.iload_n 3, 1) := by decide +kernel
theorem dX0_fitTrain_12 : decode cX0_fitTrain 12 = .ok (.putfield 18, 3) := by decide +kernel
theorem dX0_fitTrain_15 : decode cX0_fitTrain 15 = .ok (.return_, 1) := by decide +kernel
theorem dX0_drawUp_0 : decode cX0_drawUp 0 = .ok (.sipush 600, 3) := by decide +kernel
theorem dX0_drawUp_3 : decode cX0_drawUp 3 = .ok (.aload_n 0, 1) := by decide +kernel
theorem dX0_drawUp_4 : decode cX0_drawUp 4 = .ok (.getfield 21, 3) := by decide +kernel
theorem dX0_drawUp_7 : decode cX0_drawUp 7 = .ok (.isub, 1) := by decide +kernel
theorem dX0_drawUp_8 : decode cX0_drawUp 8 = .ok (.istore_n 1, 1) := by decide +kernel
theorem dX0_drawUp_9 : decode cX0_drawUp 9 = .ok (.aload_n 0, 1) := by decide +kernel
theorem dX0_drawUp_10 : decode cX0_drawUp 10 = .ok (.sipush 600, 3) := by decide +kernel
theorem dX0_drawUp_13 : decode cX0_drawUp 13 = .ok (.putfield 21, 3) := by decide +kernel
theorem dX0_drawUp_16 : decode cX0_drawUp 16 = .ok (.aload_n 0, 1) := by decide +kernel
theorem dX0_drawUp_17 : decode cX0_drawUp 17 = .ok (.iconst 1, 1) := by decide +kernel
theorem dX0_drawUp_18 : decode cX0_drawUp 18 = .ok (.putfield 30, 3) := by decide +kernel
theorem dX0_drawUp_21 : decode cX0_drawUp 21 = .ok (.iload_n 1, 1) := by decide +kernel
theorem dX0_drawUp_22 : decode cX0_drawUp 22 = .ok (.ireturn, 1) := by decide +kernel
theorem dX0_fillOil_0 : decode cX0_fillOil 0 = .ok (.bipush 100, 2) := by decide +kernel
theorem dX0_fillOil_2 : decode cX0_fillOil 2 = .ok (.aload_n 0, 1) := by decide +kernel
theorem dX0_fillOil_3 : decode cX0_fillOil 3 = .ok (.getfield 24, 3) := by decide +kernel
theorem dX0_fillOil_6 : decode cX0_fillOil 6 = .ok (.isub, 1) := by decide +kernel
theorem dX0_fillOil_7 : decode cX0_fillOil 7 = .ok (.istore_n 1, 1) := by decide +kernel
theorem dX0_fillOil_8 : decode cX0_fillOil 8 = .ok (.aload_n 0, 1) := by decide +kernel
theorem dX0_fillOil_9 : decode cX0_fillOil 9 = .ok (.bipush 100, 2) := by decide +kernel
theorem dX0_fillOil_11 : decode cX0_fillOil 11 = .ok (.putfield 24, 3) := by decide +kernel
theorem dX0_fillOil_14 : decode cX0_fillOil 14 = .ok (.iload_n 1, 1) := by decide +kernel
theorem dX0_fillOil_15 : decode cX0_fillOil 15 = .ok (.ireturn, 1) := by decide +kernel
theorem dX0_patchBellows_0 : decode cX0_patchBellows 0 = .ok (.bipush 60, 2) := by decide +kernel
theorem dX0_patchBellows_2 : decode cX0_patchBellows 2 = .ok (.aload_n 0, 1) := by decide +kernel
theorem dX0_patchBellows_3 : decode cX0_patchBellows 3 = .ok (.getfield 27, 3) := by decide +kernel
theorem dX0_patchBellows_6 : decode cX0_patchBellows 6 = .ok (.isub, 1) := by decide +kernel
theorem dX0_patchBellows_7 : decode cX0_patchBellows 7 = .ok (.istore_n 1, 1) := by decide +kernel
theorem dX0_patchBellows_8 : decode cX0_patchBellows 8 = .ok (.aload_n 0, 1) := by decide +kernel
theorem dX0_patchBellows_9 : decode cX0_patchBellows 9 = .ok (.bipush 60, 2) := by decide +kernel
theorem dX0_patchBellows_11 : decode cX0_patchBellows 11 = .ok (.putfield 27, 3) := by decide +kernel
theorem dX0_patchBellows_14 : decode cX0_patchBellows 14 = .ok (.iload_n 1, 1) := by decide +kernel
theorem dX0_patchBellows_15 : decode cX0_patchBellows 15 = .ok (.ireturn, 1) := by decide +kernel
theorem dX0_nudge_0 : decode cX0_nudge 0 = .ok (.aload_n 0, 1) := by decide +kernel
theorem dX0_nudge_1 : decode cX0_nudge 1 = .ok (.aload_n 0, 1) := by decide +kernel
theorem dX0_nudge_2 : decode cX0_nudge 2 = .ok (.getfield 30, 3) := by decide +kernel
theorem dX0_nudge_5 : decode cX0_nudge 5 = .ok (.ifCond .ne 14, 3) := by decide +kernel
theorem dX0_nudge_8 : decode cX0_nudge 8 = .ok (.aload_n 0, 1) := by decide +kernel
theorem dX0_nudge_9 : decode cX0_nudge 9 = .ok (.getfield 21, 3) := by decide +kernel
theorem dX0_nudge_12 : decode cX0_nudge 12 = .ok (.ifCond .eq 7, 3) := by decide +kernel
theorem dX0_nudge_15 : decode cX0_nudge 15 = .ok (.iconst 1, 1) := by decide +kernel
theorem dX0_nudge_16 : decode cX0_nudge 16 = .ok (.goto 4, 3) := by decide +kernel
theorem dX0_nudge_19 : decode cX0_nudge 19 = .ok (.iconst 0, 1) := by decide +kernel
theorem dX0_nudge_20 : decode cX0_nudge 20 = .ok (.putfield 30, 3) := by decide +kernel
theorem dX0_nudge_23 : decode cX0_nudge 23 = .ok (.aload_n 0, 1) := by decide +kernel
theorem dX0_nudge_24 : decode cX0_nudge 24 = .ok (.getfield 30, 3) := by decide +kernel
theorem dX0_nudge_27 : decode cX0_nudge 27 = .ok (.ifCond .eq 7, 3) := by decide +kernel
theorem dX0_nudge_30 : decode cX0_nudge 30 = .ok (.iconst 1, 1) := by decide +kernel
theorem dX0_nudge_31 : decode cX0_nudge 31 = .ok (.goto 4, 3) := by decide +kernel
theorem dX0_nudge_34 : decode cX0_nudge 34 = .ok (.iconst 0, 1) := by decide +kernel
theorem dX0_nudge_35 : decode cX0_nudge 35 = .ok (.ireturn, 1) := by decide +kernel
theorem dX0_silence_0 : decode cX0_silence 0 = .ok (.aload_n 0, 1) := by decide +kernel
theorem dX0_silence_1 : decode cX0_silence 1 = .ok (.getfield 40, 3) := by decide +kernel
theorem dX0_silence_4 : decode cX0_silence 4 = .ok (.istore_n 3, 1) := by decide +kernel
theorem dX0_silence_5 : decode cX0_silence 5 = .ok (.aload_n 0, 1) := by decide +kernel
theorem dX0_silence_6 : decode cX0_silence 6 = .ok (.iload_n 1, 1) := by decide +kernel
theorem dX0_silence_7 : decode cX0_silence 7 = .ok (.putfield 40, 3) := by decide +kernel
theorem dX0_silence_10 : decode cX0_silence 10 = .ok (.aload_n 0, 1) := by decide +kernel
theorem dX0_silence_11 : decode cX0_silence 11 = .ok (.iload_n 2, 1) := by decide +kernel
theorem dX0_silence_12 : decode cX0_silence 12 = .ok (.putfield 43, 3) := by decide +kernel
theorem dX0_silence_15 : decode cX0_silence 15 = .ok (.iload_n 3, 1) := by decide +kernel
theorem dX0_silence_16 : decode cX0_silence 16 = .ok (.ireturn, 1) := by decide +kernel
set_option maxRecDepth 20000 in
theorem ggX0_advance_X0_advanceWith : GoodIn wsX0_advance wsX0_advanceWith := goodIn_r _ [7, 8, 9, 10, 11, 12, 13, 14, 15, 16, 17, 18, 19, 20, 21, 22, 23] (by decide +kernel) (by decide +kernel)
set_option maxRecDepth 20000 in
theorem gX0_advance_X0_advanceWith : GoodIn wsX0_advance (wsV RX0 55 RX0 yX0_advanceWith wsX0_advanceWith) := goodIn_app (goodIn_of _ (by decide +kernel)) ggX0_advance_X0_advanceWith
theorem dX0_advance_0 : decode cX0_advance 0 = .ok (.aload_n 0, 1) := by decide +kernel
theorem dX0_advance_1 : decode cX0_advance 1 = .ok (.aload_n 0, 1) := by decide +kernel
theorem dX0_advance_2 : decode cX0_advance 2 = .ok (.getfield 9, 3) := by decide +kernel
theorem dX0_advance_5 : decode cX0_advance 5 = .ok (.aload_n 0, 1) := by decide +kernel
theorem dX0_advance_6 : decode cX0_advance 6 = .ok (.getfield 15, 3) := by decide +kernel
theorem dX0_advance_9 : decode cX0_advance 9 = .ok (.invokevirtual 55, 3) := by decide +kernel
theorem dX0_advance_12 : decode cX0_advance 12 = .ok (.ireturn, 1) := by decide +kernel
theorem dX0_advanceWith_0 : decode cX0_advanceWith 0 = .ok (.iload_n 2, 1) := by decide +kernel
theorem dX0_advanceWith_1 : decode cX0_advanceWith 1 = .ok (.ifCond .ne 5, 3) := by decide +kernel
theorem dX0_advanceWith_4 : decode cX0_advanceWith 4 = .ok (.iconst 0, 1) := by decide +kernel
theorem dX0_advanceWith_5 : decode cX0_advanceWith 5 = .ok (.ireturn, 1) := by decide +kernel
theorem dX0_advanceWith_6 : decode cX0_advanceWith 6 = .ok (.sipush 900, 3) := by decide +kernel
theorem dX0_advanceWith_9 : decode cX0_advanceWith 9 = .ok (.iload_n 1, 1) := by decide +kernel
theorem dX0_advanceWith_10 : decode cX0_advanceWith 10 = .ok (.imul, 1) := by decide +kernel
theorem dX0_advanceWith_11 : decode cX0_advanceWith 11 = .ok (.iload_n 2, 1) := by decide +kernel
theorem dX0_advanceWith_12 : decode cX0_advanceWith 12 = .ok (.idiv, 1) := by decide +kernel
theorem dX0_advanceWith_13 : decode cX0_advanceWith 13 = .ok (.aload_n 0, 1) := by decide +kernel
theorem dX0_advanceWith_14 : decode cX0_advanceWith 14 = .ok (.getfield 18, 3) := by decide +kernel
theorem dX0_advanceWith_17 : decode cX0_advanceWith 17 = .ok (.iadd, 1) := by decide +kernel
theorem dX0_advanceWith_18 : decode cX0_advanceWith 18 = .ok (.istore_n 3, 1) := by decide +kernel
theorem dX0_advanceWith_19 : decode cX0_advanceWith 19 = .ok (.aload_n 0, 1) := by decide +kernel
theorem dX0_advanceWith_20 : decode cX0_advanceWith 20 = .ok (.getfield 24, 3) := by decide +kernel
theorem dX0_advanceWith_23 : decode cX0_advanceWith 23 = .ok (.bipush 20, 2) := by decide +kernel
theorem dX0_advanceWith_25 : decode cX0_advanceWith 25 = .ok (.if_icmp .ge 12, 3) := by decide +kernel
theorem dX0_advanceWith_28 : decode cX0_advanceWith 28 = .ok (.iload_n 3, 1) := by decide +kernel
theorem dX0_advanceWith_29 : decode cX0_advanceWith 29 = .ok (.iload_n 3, 1) := by decide +kernel
theorem dX0_advanceWith_30 : decode cX0_advanceWith 30 = .ok (.bipush 10, 2) := by decide +kernel
theorem dX0_advanceWith_32 : decode cX0_advanceWith 32 = .ok (.idiv, 1) := by decide +kernel
theorem dX0_advanceWith_33 : decode cX0_advanceWith 33 = .ok (.isub, 1) := by decide +kernel
theorem dX0_advanceWith_34 : decode cX0_advanceWith 34 = .ok (.goto 4, 3) := by decide +kernel
theorem dX0_advanceWith_37 : decode cX0_advanceWith 37 = .ok (.iload_n 3, 1) := by decide +kernel
theorem dX0_advanceWith_38 : decode cX0_advanceWith 38 = .ok (.ireturn, 1) := by decide +kernel
set_option maxRecDepth 20000 in
theorem ggX0_truestGears_X0_advanceWith : GoodIn wsX0_truestGears wsX0_advanceWith := goodIn_r _ [10, 11, 12, 13, 14, 15, 16, 17, 18, 19, 20, 21, 22, 23, 24, 25, 26] (by decide +kernel) (by decide +kernel)
set_option maxRecDepth 20000 in
theorem gX0_truestGears_X0_advanceWith : GoodIn wsX0_truestGears (wsV RX0 55 RX0 yX0_advanceWith wsX0_advanceWith) := goodIn_app (goodIn_of _ (by decide +kernel)) ggX0_truestGears_X0_advanceWith
theorem dX0_truestGears_0 : decode cX0_truestGears 0 = .ok (.iconst 0, 1) := by decide +kernel
theorem dX0_truestGears_1 : decode cX0_truestGears 1 = .ok (.istore_n 1, 1) := by decide +kernel
theorem dX0_truestGears_2 : decode cX0_truestGears 2 = .ok (.ldc 59, 2) := by decide +kernel
theorem dX0_truestGears_4 : decode cX0_truestGears 4 = .ok (.istore_n 2, 1) := by decide +kernel
theorem dX0_truestGears_5 : decode cX0_truestGears 5 = .ok (.bipush 20, 2) := by decide +kernel
theorem dX0_truestGears_7 : decode cX0_truestGears 7 = .ok (.istore_n 3, 1) := by decide +kernel
theorem dX0_truestGears_8 : decode cX0_truestGears 8 = .ok (.iload_n 3, 1) := by decide +kernel
theorem dX0_truestGears_9 : decode cX0_truestGears 9 = .ok (.bipush 40, 2) := by decide +kernel
theorem dX0_truestGears_11 : decode cX0_truestGears 11 = .ok (.if_icmp .gt 59, 3) := by decide +kernel
theorem dX0_truestGears_14 : decode cX0_truestGears 14 = .ok (.bipush 20, 2) := by decide +kernel
theorem dX0_truestGears_16 : decode cX0_truestGears 16 = .ok (.istore 4, 2) := by decide +kernel
theorem dX0_truestGears_18 : decode cX0_truestGears 18 = .ok (.iload 4, 2) := by decide +kernel
theorem dX0_truestGears_20 : decode cX0_truestGears 20 = .ok (.bipush 40, 2) := by decide +kernel
theorem dX0_truestGears_22 : decode cX0_truestGears 22 = .ok (.if_icmp .gt 42, 3) := by decide +kernel
theorem dX0_truestGears_25 : decode cX0_truestGears 25 = .ok (.aload_n 0, 1) := by decide +kernel
theorem dX0_truestGears_26 : decode cX0_truestGears 26 = .ok (.iload_n 3, 1) := by decide +kernel
theorem dX0_truestGears_27 : decode cX0_truestGears 27 = .ok (.iload 4, 2) := by decide +kernel
theorem dX0_truestGears_29 : decode cX0_truestGears 29 = .ok (.invokevirtual 55, 3) := by decide +kernel
theorem dX0_truestGears_32 : decode cX0_truestGears 32 = .ok (.sipush 900, 3) := by decide +kernel
theorem dX0_truestGears_35 : decode cX0_truestGears 35 = .ok (.isub, 1) := by decide +kernel
theorem dX0_truestGears_36 : decode cX0_truestGears 36 = .ok (.invokestatic 60, 3) := by decide +kernel
theorem dX0_truestGears_39 : decode cX0_truestGears 39 = .ok (.istore 5, 2) := by decide +kernel
theorem dX0_truestGears_41 : decode cX0_truestGears 41 = .ok (.iload 5, 2) := by decide +kernel
theorem dX0_truestGears_43 : decode cX0_truestGears 43 = .ok (.iload_n 2, 1) := by decide +kernel
theorem dX0_truestGears_44 : decode cX0_truestGears 44 = .ok (.if_icmp .ge 14, 3) := by decide +kernel
theorem dX0_truestGears_47 : decode cX0_truestGears 47 = .ok (.iload 5, 2) := by decide +kernel
theorem dX0_truestGears_49 : decode cX0_truestGears 49 = .ok (.istore_n 2, 1) := by decide +kernel
theorem dX0_truestGears_50 : decode cX0_truestGears 50 = .ok (.bipush 100, 2) := by decide +kernel
theorem dX0_truestGears_52 : decode cX0_truestGears 52 = .ok (.iload_n 3, 1) := by decide +kernel
theorem dX0_truestGears_53 : decode cX0_truestGears 53 = .ok (.imul, 1) := by decide +kernel
theorem dX0_truestGears_54 : decode cX0_truestGears 54 = .ok (.iload 4, 2) := by decide +kernel
theorem dX0_truestGears_56 : decode cX0_truestGears 56 = .ok (.iadd, 1) := by decide +kernel
theorem dX0_truestGears_57 : decode cX0_truestGears 57 = .ok (.istore_n 1, 1) := by decide +kernel
theorem dX0_truestGears_58 : decode cX0_truestGears 58 = .ok (.iinc 4 1, 3) := by decide +kernel
theorem dX0_truestGears_61 : decode cX0_truestGears 61 = .ok (.goto (-43), 3) := by decide +kernel
theorem dX0_truestGears_64 : decode cX0_truestGears 64 = .ok (.iinc 3 1, 3) := by decide +kernel
theorem dX0_truestGears_67 : decode cX0_truestGears 67 = .ok (.goto (-59), 3) := by decide +kernel
theorem dX0_truestGears_70 : decode cX0_truestGears 70 = .ok (.iload_n 1, 1) := by decide +kernel
theorem dX0_truestGears_71 : decode cX0_truestGears 71 = .ok (.ireturn, 1) := by decide +kernel
set_option maxRecDepth 20000 in
theorem ggX0_runMinute_X0_turn : GoodIn wsX0_runMinute wsX0_turn := goodIn_r _ [7, 8, 9, 10, 11, 12, 6, 13, 14, 15, 16, 17, 18, 19, 20, 21, 22, 23, 24, 25, 26, 27, 28, 29, 30, 31, 32, 33, 34, 35, 36, 37, 38, 39, 40, 1, 41, 47, 48, 49, 50, 51, 52, 53, 54, 55, 56, 57, 58, 59, 60] (by decide +kernel) (by decide +kernel)
set_option maxRecDepth 20000 in
theorem gX0_runMinute_X0_turn : GoodIn wsX0_runMinute (wsV RX0 66 RX0 yX0_turn wsX0_turn) := goodIn_app (goodIn_of _ (by decide +kernel)) ggX0_runMinute_X0_turn
set_option maxRecDepth 20000 in
theorem ggX0_runMinute_X0_wear : GoodIn wsX0_runMinute wsX0_wear := goodIn_r _ [45, 46, 21, 2, 47, 48, 49, 50, 51, 52, 53, 54, 55, 56, 57, 58, 59, 60] (by decide +kernel) (by decide +kernel)
set_option maxRecDepth 20000 in
theorem gX0_runMinute_X0_wear : GoodIn wsX0_runMinute (wsV RX0 69 RX0 yX0_wear wsX0_wear) := goodIn_app (goodIn_of _ (by decide +kernel)) ggX0_runMinute_X0_wear
theorem dX0_runMinute_0 : decode cX0_runMinute 0 = .ok (.aload_n 0, 1) := by decide +kernel
theorem dX0_runMinute_1 : decode cX0_runMinute 1 = .ok (.iconst 0, 1) := by decide +kernel
theorem dX0_runMinute_2 : decode cX0_runMinute 2 = .ok (.putfield 52, 3) := by decide +kernel
theorem dX0_runMinute_5 : decode cX0_runMinute 5 = .ok (.aload_n 0, 1) := by decide +kernel
theorem dX0_runMinute_6 : decode cX0_runMinute 6 = .ok (.getfield 30, 3) := by decide +kernel
theorem dX0_runMinute_9 : decode cX0_runMinute 9 = .ok (.ifCond .eq 12, 3) := by decide +kernel
theorem dX0_runMinute_12 : decode cX0_runMinute 12 = .ok (.aload_n 0, 1) := by decide +kernel
theorem dX0_runMinute_13 : decode cX0_runMinute 13 = .ok (.invokevirtual 66, 3) := by decide +kernel
theorem dX0_runMinute_16 : decode cX0_runMinute 16 = .ok (.aload_n 0, 1) := by decide +kernel
theorem dX0_runMinute_17 : decode cX0_runMinute 17 = .ok (.iload_n 1, 1) := by decide +kernel
theorem dX0_runMinute_18 : decode cX0_runMinute 18 = .ok (.invokevirtual 69, 3) := by decide +kernel
theorem dX0_runMinute_21 : decode cX0_runMinute 21 = .ok (.return_, 1) := by decide +kernel
set_option maxRecDepth 20000 in
theorem ggX0_turn_X0_advance : GoodIn wsX0_turn wsX0_advance := goodIn_r _ [7, 8, 9, 10, 11, 12, 6, 13, 14, 15, 37, 38, 39, 40, 41, 42, 43, 44, 45, 46, 47, 48, 49, 50] (by decide +kernel) (by decide +kernel)
set_option maxRecDepth 20000 in
theorem gX0_turn_X0_advance : GoodIn wsX0_turn (wsV RX0 73 RX0 yX0_advance wsX0_advance) := goodIn_app (goodIn_of _ (by decide +kernel)) ggX0_turn_X0_advance
set_option maxRecDepth 20000 in
theorem ggX0_turn_X0_isShutAt : GoodIn wsX0_turn wsX0_isShutAt := goodIn_r _ [19, 20, 21, 37, 38, 39, 40, 41, 42, 43, 44, 45, 46, 47, 48, 49, 50] (by decide +kernel) (by decide +kernel)
set_option maxRecDepth 20000 in
theorem gX0_turn_X0_isShutAt : GoodIn wsX0_turn (wsV RX0 77 RX0 yX0_isShutAt wsX0_isShutAt) := goodIn_app (goodIn_of _ (by decide +kernel)) ggX0_turn_X0_isShutAt
set_option maxRecDepth 20000 in
theorem ggX0_turn_X0_callsDueAt : GoodIn wsX0_turn wsX0_callsDueAt := goodIn_r _ [24] (by decide +kernel) (by decide +kernel)
set_option maxRecDepth 20000 in
theorem gX0_turn_X0_callsDueAt : GoodIn wsX0_turn (va_wsS RX0 81 yX0_callsDueAt wsX0_callsDueAt) := goodIn_app (goodIn_of _ (by decide +kernel)) ggX0_turn_X0_callsDueAt
set_option maxRecDepth 20000 in
theorem ggX0_turn_X0_cuckoo : GoodIn wsX0_turn wsX0_cuckoo := goodIn_r _ [28, 29, 30, 31, 32, 33, 34, 35, 36, 37, 38, 39, 40, 41, 42, 43, 44, 45, 46, 47, 48, 49, 50] (by decide +kernel) (by decide +kernel)
set_option maxRecDepth 20000 in
theorem gX0_turn_X0_cuckoo : GoodIn wsX0_turn (wsV RX0 84 RX0 yX0_cuckoo wsX0_cuckoo) := goodIn_app (goodIn_of _ (by decide +kernel)) ggX0_turn_X0_cuckoo
theorem dX0_turn_0 : decode cX0_turn 0 = .ok (.aload_n 0, 1) := by decide +kernel
theorem dX0_turn_1 : decode cX0_turn 1 = .ok (.getfield 37, 3) := by decide +kernel
theorem dX0_turn_4 : decode cX0_turn 4 = .ok (.aload_n 0, 1) := by decide +kernel
theorem dX0_turn_5 : decode cX0_turn 5 = .ok (.invokevirtual 73, 3) := by decide +kernel
theorem dX0_turn_8 : decode cX0_turn 8 = .ok (.iadd, 1) := by decide +kernel
theorem dX0_turn_9 : decode cX0_turn 9 = .ok (.istore_n 1, 1) := by decide +kernel
theorem dX0_turn_10 : decode cX0_turn 10 = .ok (.aload_n 0, 1) := by decide +kernel
theorem dX0_turn_11 : decode cX0_turn 11 = .ok (.iload_n 1, 1) := by decide +kernel
theorem dX0_turn_12 : decode cX0_turn 12 = .ok (.sipush 900, 3) := by decide +kernel
theorem dX0_turn_15 : decode cX0_turn 15 = .ok (.irem, 1) := by decide +kernel
theorem dX0_turn_16 : decode cX0_turn 16 = .ok (.putfield 37, 3) := by decide +kernel
theorem dX0_turn_19 : decode cX0_turn 19 = .ok (.iload_n 1, 1) := by decide +kernel
theorem dX0_turn_20 : decode cX0_turn 20 = .ok (.sipush 900, 3) := by decide +kernel
theorem dX0_turn_23 : decode cX0_turn 23 = .ok (.idiv, 1) := by decide +kernel
theorem dX0_turn_24 : decode cX0_turn 24 = .ok (.istore_n 2, 1) := by decide +kernel
theorem dX0_turn_25 : decode cX0_turn 25 = .ok (.iload_n 2, 1) := by decide +kernel
theorem dX0_turn_26 : decode cX0_turn 26 = .ok (.ifCond .le 45, 3) := by decide +kernel
theorem dX0_turn_29 : decode cX0_turn 29 = .ok (.aload_n 0, 1) := by decide +kernel
theorem dX0_turn_30 : decode cX0_turn 30 = .ok (.aload_n 0, 1) := by decide +kernel
theorem dX0_turn_31 : decode cX0_turn 31 = .ok (.getfield 34, 3) := by decide +kernel
theorem dX0_turn_34 : decode cX0_turn 34 = .ok (.iconst 1, 1) := by decide +kernel
theorem dX0_turn_35 : decode cX0_turn 35 = .ok (.iadd, 1) := by decide +kernel
theorem dX0_turn_36 : decode cX0_turn 36 = .ok (.sipush 720, 3) := by decide +kernel
theorem dX0_turn_39 : decode cX0_turn 39 = .ok (.irem, 1) := by decide +kernel
theorem dX0_turn_40 : decode cX0_turn 40 = .ok (.putfield 34, 3) := by decide +kernel
theorem dX0_turn_43 : decode cX0_turn 43 = .ok (.aload_n 0, 1) := by decide +kernel
theorem dX0_turn_44 : decode cX0_turn 44 = .ok (.aload_n 0, 1) := by decide +kernel
theorem dX0_turn_45 : decode cX0_turn 45 = .ok (.getfield 34, 3) := by decide +kernel
theorem dX0_turn_48 : decode cX0_turn 48 = .ok (.invokevirtual 77, 3) := by decide +kernel
theorem dX0_turn_51 : decode cX0_turn 51 = .ok (.ifCond .ne 14, 3) := by decide +kernel
theorem dX0_turn_54 : decode cX0_turn 54 = .ok (.aload_n 0, 1) := by decide +kernel
theorem dX0_turn_55 : decode cX0_turn 55 = .ok (.aload_n 0, 1) := by decide +kernel
theorem dX0_turn_56 : decode cX0_turn 56 = .ok (.getfield 34, 3) := by decide +kernel
theorem dX0_turn_59 : decode cX0_turn 59 = .ok (.invokestatic 81, 3) := by decide +kernel
theorem dX0_turn_62 : decode cX0_turn 62 = .ok (.invokevirtual 84, 3) := by decide +kernel
theorem dX0_turn_65 : decode cX0_turn 65 = .ok (.iinc 2 (-1), 3) := by decide +kernel
theorem dX0_turn_68 : decode cX0_turn 68 = .ok (.goto (-43), 3) := by decide +kernel
theorem dX0_turn_71 : decode cX0_turn 71 = .ok (.return_, 1) := by decide +kernel
theorem dX0_wear_0 : decode cX0_wear 0 = .ok (.aload_n 0, 1) := by decide +kernel
theorem dX0_wear_1 : decode cX0_wear 1 = .ok (.dup, 1) := by decide +kernel
theorem dX0_wear_2 : decode cX0_wear 2 = .ok (.getfield 21, 3) := by decide +kernel
theorem dX0_wear_5 : decode cX0_wear 5 = .ok (.iconst 1, 1) := by decide +kernel
theorem dX0_wear_6 : decode cX0_wear 6 = .ok (.isub, 1) := by decide +kernel
theorem dX0_wear_7 : decode cX0_wear 7 = .ok (.putfield 21, 3) := by decide +kernel
theorem dX0_wear_10 : decode cX0_wear 10 = .ok (.iload_n 1, 1) := by decide +kernel
theorem dX0_wear_11 : decode cX0_wear 11 = .ok (.bipush 10, 2) := by decide +kernel
theorem dX0_wear_13 : decode cX0_wear 13 = .ok (.irem, 1) := by decide +kernel
theorem dX0_wear_14 : decode cX0_wear 14 = .ok (.ifCond .ne 20, 3) := by decide +kernel
theorem dX0_wear_17 : decode cX0_wear 17 = .ok (.aload_n 0, 1) := by decide +kernel
theorem dX0_wear_18 : decode cX0_wear 18 = .ok (.getfield 24, 3) := by decide +kernel
theorem dX0_wear_21 : decode cX0_wear 21 = .ok (.ifCond .le 13, 3) := by decide +kernel
theorem dX0_wear_24 : decode cX0_wear 24 = .ok (.aload_n 0, 1) := by decide +kernel
theorem dX0_wear_25 : decode cX0_wear 25 = .ok (.dup, 1) := by decide +kernel
theorem dX0_wear_26 : decode cX0_wear 26 = .ok (.getfield 24, 3) := by decide +kernel
theorem dX0_wear_29 : decode cX0_wear 29 = .ok (.iconst 1, 1) := by decide +kernel
theorem dX0_wear_30 : decode cX0_wear 30 = .ok (.isub, 1) := by decide +kernel
theorem dX0_wear_31 : decode cX0_wear 31 = .ok (.putfield 24, 3) := by decide +kernel
theorem dX0_wear_34 : decode cX0_wear 34 = .ok (.aload_n 0, 1) := by decide +kernel
theorem dX0_wear_35 : decode cX0_wear 35 = .ok (.getfield 21, 3) := by decide +kernel
theorem dX0_wear_38 : decode cX0_wear 38 = .ok (.ifCond .gt 8, 3) := by decide +kernel
theorem dX0_wear_41 : decode cX0_wear 41 = .ok (.aload_n 0, 1) := by decide +kernel
theorem dX0_wear_42 : decode cX0_wear 42 = .ok (.iconst 0, 1) := by decide +kernel
theorem dX0_wear_43 : decode cX0_wear 43 = .ok (.putfield 30, 3) := by decide +kernel
theorem dX0_wear_46 : decode cX0_wear 46 = .ok (.return_, 1) := by decide +kernel
theorem dX0_callsDueAt_0 : decode cX0_callsDueAt 0 = .ok (.iload_n 0, 1) := by decide +kernel
theorem dX0_callsDueAt_1 : decode cX0_callsDueAt 1 = .ok (.ifCond .ne 6, 3) := by decide +kernel
theorem dX0_callsDueAt_4 : decode cX0_callsDueAt 4 = .ok (.bipush 12, 2) := by decide +kernel
theorem dX0_callsDueAt_6 : decode cX0_callsDueAt 6 = .ok (.ireturn, 1) := by decide +kernel
theorem dX0_callsDueAt_7 : decode cX0_callsDueAt 7 = .ok (.iload_n 0, 1) := by decide +kernel
theorem dX0_callsDueAt_8 : decode cX0_callsDueAt 8 = .ok (.bipush 60, 2) := by decide +kernel
theorem dX0_callsDueAt_10 : decode cX0_callsDueAt 10 = .ok (.irem, 1) := by decide +kernel
theorem dX0_callsDueAt_11 : decode cX0_callsDueAt 11 = .ok (.ifCond .ne 8, 3) := by decide +kernel
theorem dX0_callsDueAt_14 : decode cX0_callsDueAt 14 = .ok (.iload_n 0, 1) := by decide +kernel
theorem dX0_callsDueAt_15 : decode cX0_callsDueAt 15 = .ok (.bipush 60, 2) := by decide +kernel
theorem dX0_callsDueAt_17 : decode cX0_callsDueAt 17 = .ok (.idiv, 1) := by decide +kernel
theorem dX0_callsDueAt_18 : decode cX0_callsDueAt 18 = .ok (.ireturn, 1) := by decide +kernel
theorem dX0_callsDueAt_19 : decode cX0_callsDueAt 19 = .ok (.iload_n 0, 1) := by decide +kernel
theorem dX0_callsDueAt_20 : decode cX0_callsDueAt 20 = .ok (.bipush 30, 2) := by decide +kernel
theorem dX0_callsDueAt_22 : decode cX0_callsDueAt 22 = .ok (.irem, 1) := by decide +kernel
theorem dX0_callsDueAt_23 : decode cX0_callsDueAt 23 = .ok (.ifCond .ne 7, 3) := by decide +kernel
theorem dX0_callsDueAt_26 : decode cX0_callsDueAt 26 = .ok (.iconst 1, 1) := by decide +kernel
theorem dX0_callsDueAt_27 : decode cX0_callsDueAt 27 = .ok (.goto 4, 3) := by decide +kernel
theorem dX0_callsDueAt_30 : decode cX0_callsDueAt 30 = .ok (.iconst 0, 1) := by decide +kernel
theorem dX0_callsDueAt_31 : decode cX0_callsDueAt 31 = .ok (.ireturn, 1) := by decide +kernel
theorem dX0_cuckoo_0 : decode cX0_cuckoo 0 = .ok (.iload_n 1, 1) := by decide +kernel
theorem dX0_cuckoo_1 : decode cX0_cuckoo 1 = .ok (.aload_n 0, 1) := by decide +kernel
theorem dX0_cuckoo_2 : decode cX0_cuckoo 2 = .ok (.getfield 27, 3) := by decide +kernel
theorem dX0_cuckoo_5 : decode cX0_cuckoo 5 = .ok (.invokestatic 87, 3) := by decide +kernel
theorem dX0_cuckoo_8 : decode cX0_cuckoo 8 = .ok (.istore_n 2, 1) := by decide +kernel
theorem dX0_cuckoo_9 : decode cX0_cuckoo 9 = .ok (.aload_n 0, 1) := by decide +kernel
theorem dX0_cuckoo_10 : decode cX0_cuckoo 10 = .ok (.dup, 1) := by decide +kernel
theorem dX0_cuckoo_11 : decode cX0_cuckoo 11 = .ok (.getfield 27, 3) := by decide +kernel
theorem dX0_cuckoo_14 : decode cX0_cuckoo 14 = .ok (.iload_n 2, 1) := by decide +kernel
theorem dX0_cuckoo_15 : decode cX0_cuckoo 15 = .ok (.isub, 1) := by decide +kernel
theorem dX0_cuckoo_16 : decode cX0_cuckoo 16 = .ok (.putfield 27, 3) := by decide +kernel
theorem dX0_cuckoo_19 : decode cX0_cuckoo 19 = .ok (.aload_n 0, 1) := by decide +kernel
theorem dX0_cuckoo_20 : decode cX0_cuckoo 20 = .ok (.dup, 1) := by decide +kernel
theorem dX0_cuckoo_21 : decode cX0_cuckoo 21 = .ok (.getfield 46, 3) := by decide +kernel
theorem dX0_cuckoo_24 : decode cX0_cuckoo 24 = .ok (.iload_n 2, 1) := by decide +kernel
theorem dX0_cuckoo_25 : decode cX0_cuckoo 25 = .ok (.iadd, 1) := by decide +kernel
theorem dX0_cuckoo_26 : decode cX0_cuckoo 26 = .ok (.putfield 46, 3) := by decide +kernel
theorem dX0_cuckoo_29 : decode cX0_cuckoo 29 = .ok (.aload_n 0, 1) := by decide +kernel
theorem dX0_cuckoo_30 : decode cX0_cuckoo 30 = .ok (.dup, 1) := by decide +kernel
theorem dX0_cuckoo_31 : decode cX0_cuckoo 31 = .ok (.getfield 52, 3) := by decide +kernel
theorem dX0_cuckoo_34 : decode cX0_cuckoo 34 = .ok (.iload_n 2, 1) := by decide +kernel
theorem dX0_cuckoo_35 : decode cX0_cuckoo 35 = .ok (.iadd, 1) := by decide +kernel
theorem dX0_cuckoo_36 : decode cX0_cuckoo 36 = .ok (.putfield 52, 3) := by decide +kernel
theorem dX0_cuckoo_39 : decode cX0_cuckoo 39 = .ok (.aload_n 0, 1) := by decide +kernel
theorem dX0_cuckoo_40 : decode cX0_cuckoo 40 = .ok (.dup, 1) := by decide +kernel
theorem dX0_cuckoo_41 : decode cX0_cuckoo 41 = .ok (.getfield 49, 3) := by decide +kernel
theorem dX0_cuckoo_44 : decode cX0_cuckoo 44 = .ok (.iload_n 1, 1) := by decide +kernel
theorem dX0_cuckoo_45 : decode cX0_cuckoo 45 = .ok (.iload_n 2, 1) := by decide +kernel
theorem dX0_cuckoo_46 : decode cX0_cuckoo 46 = .ok (.isub, 1) := by decide +kernel
theorem dX0_cuckoo_47 : decode cX0_cuckoo 47 = .ok (.iadd, 1) := by decide +kernel
theorem dX0_cuckoo_48 : decode cX0_cuckoo 48 = .ok (.putfield 49, 3) := by decide +kernel
theorem dX0_cuckoo_51 : decode cX0_cuckoo 51 = .ok (.return_, 1) := by decide +kernel
theorem dX0_isShutAt_0 : decode cX0_isShutAt 0 = .ok (.aload_n 0, 1) := by decide +kernel
theorem dX0_isShutAt_1 : decode cX0_isShutAt 1 = .ok (.getfield 40, 3) := by decide +kernel
theorem dX0_isShutAt_4 : decode cX0_isShutAt 4 = .ok (.iconst (-1), 1) := by decide +kernel
theorem dX0_isShutAt_5 : decode cX0_isShutAt 5 = .ok (.if_icmp .ne 5, 3) := by decide +kernel
theorem dX0_isShutAt_8 : decode cX0_isShutAt 8 = .ok (.iconst 0, 1) := by decide +kernel
theorem dX0_isShutAt_9 : decode cX0_isShutAt 9 = .ok (.ireturn, 1) := by decide +kernel
theorem dX0_isShutAt_10 : decode cX0_isShutAt 10 = .ok (.aload_n 0, 1) := by decide +kernel
theorem dX0_isShutAt_11 : decode cX0_isShutAt 11 = .ok (.getfield 40, 3) := by decide +kernel
theorem dX0_isShutAt_14 : decode cX0_isShutAt 14 = .ok (.aload_n 0, 1) := by decide +kernel
theorem dX0_isShutAt_15 : decode cX0_isShutAt 15 = .ok (.getfield 43, 3) := by decide +kernel
theorem dX0_isShutAt_18 : decode cX0_isShutAt 18 = .ok (.if_icmp .ge 25, 3) := by decide +kernel
theorem dX0_isShutAt_21 : decode cX0_isShutAt 21 = .ok (.iload_n 1, 1) := by decide +kernel
theorem dX0_isShutAt_22 : decode cX0_isShutAt 22 = .ok (.aload_n 0, 1) := by decide +kernel
theorem dX0_isShutAt_23 : decode cX0_isShutAt 23 = .ok (.getfield 40, 3) := by decide +kernel
theorem dX0_isShutAt_26 : decode cX0_isShutAt 26 = .ok (.if_icmp .lt 15, 3) := by decide +kernel
theorem dX0_isShutAt_29 : decode cX0_isShutAt 29 = .ok (.iload_n 1, 1) := by decide +kernel
theorem dX0_isShutAt_30 : decode cX0_isShutAt 30 = .ok (.aload_n 0, 1) := by decide +kernel
theorem dX0_isShutAt_31 : decode cX0_isShutAt 31 = .ok (.getfield 43, 3) := by decide +kernel
theorem dX0_isShutAt_34 : decode cX0_isShutAt 34 = .ok (.if_icmp .ge 7, 3) := by decide +kernel
theorem dX0_isShutAt_37 : decode cX0_isShutAt 37 = .ok (.iconst 1, 1) := by decide +kernel
theorem dX0_isShutAt_38 : decode cX0_isShutAt 38 = .ok (.goto 4, 3) := by decide +kernel
theorem dX0_isShutAt_41 : decode cX0_isShutAt 41 = .ok (.iconst 0, 1) := by decide +kernel
theorem dX0_isShutAt_42 : decode cX0_isShutAt 42 = .ok (.ireturn, 1) := by decide +kernel
theorem dX0_isShutAt_43 : decode cX0_isShutAt 43 = .ok (.iload_n 1, 1) := by decide +kernel
theorem dX0_isShutAt_44 : decode cX0_isShutAt 44 = .ok (.aload_n 0, 1) := by decide +kernel
theorem dX0_isShutAt_45 : decode cX0_isShutAt 45 = .ok (.getfield 40, 3) := by decide +kernel
theorem dX0_isShutAt_48 : decode cX0_isShutAt 48 = .ok (.if_icmp .ge 11, 3) := by decide +kernel
theorem dX0_isShutAt_51 : decode cX0_isShutAt 51 = .ok (.iload_n 1, 1) := by decide +kernel
theorem dX0_isShutAt_52 : decode cX0_isShutAt 52 = .ok (.aload_n 0, 1) := by decide +kernel
theorem dX0_isShutAt_53 : decode cX0_isShutAt 53 = .ok (.getfield 43, 3) := by decide +kernel
theorem dX0_isShutAt_56 : decode cX0_isShutAt 56 = .ok (.if_icmp .ge 7, 3) := by decide +kernel
theorem dX0_isShutAt_59 : decode cX0_isShutAt 59 = .ok (.iconst 1, 1) := by decide +kernel
theorem dX0_isShutAt_60 : decode cX0_isShutAt 60 = .ok (.goto 4, 3) := by decide +kernel
theorem dX0_isShutAt_63 : decode cX0_isShutAt 63 = .ok (.iconst 0, 1) := by decide +kernel
theorem dX0_isShutAt_64 : decode cX0_isShutAt 64 = .ok (.ireturn, 1) := by decide +kernel
theorem dX0_minutesToStand_0 : decode cX0_minutesToStand 0 = .ok (.aload_n 0, 1) := by decide +kernel
theorem dX0_minutesToStand_1 : decode cX0_minutesToStand 1 = .ok (.getfield 30, 3) := by decide +kernel
theorem dX0_minutesToStand_4 : decode cX0_minutesToStand 4 = .ok (.ifCond .eq 10, 3) := by decide +kernel
theorem dX0_minutesToStand_7 : decode cX0_minutesToStand 7 = .ok (.aload_n 0, 1) := by decide +kernel
theorem dX0_minutesToStand_8 : decode cX0_minutesToStand 8 = .ok (.getfield 21, 3) := by decide +kernel
theorem dX0_minutesToStand_11 : decode cX0_minutesToStand 11 = .ok (.goto 4, 3) := by decide +kernel
theorem dX0_minutesToStand_14 : decode cX0_minutesToStand 14 = .ok (.iconst 0, 1) := by decide +kernel
theorem dX0_minutesToStand_15 : decode cX0_minutesToStand 15 = .ok (.ireturn, 1) := by decide +kernel
set_option maxRecDepth 20000 in
theorem ggX0_reading_X0_advance : GoodIn wsX0_reading wsX0_advance := goodIn_r _ [14, 15, 16, 17, 18, 19, 13, 20, 21, 4, 28, 29, 30, 31, 32, 33, 34, 35, 36, 37, 38, 39, 40, 41] (by decide +kernel) (by decide +kernel)
set_option maxRecDepth 20000 in
theorem gX0_reading_X0_advance : GoodIn wsX0_reading (wsV RX0 73 RX0 yX0_advance wsX0_advance) := goodIn_app (goodIn_of _ (by decide +kernel)) ggX0_reading_X0_advance
set_option maxRecDepth 20000 in
theorem ggX0_reading_X0_isShutAt : GoodIn wsX0_reading wsX0_isShutAt := goodIn_r _ [25, 26, 27, 28, 29, 30, 31, 32, 33, 34, 35, 36, 37, 38, 39, 40, 41] (by decide +kernel) (by decide +kernel)
set_option maxRecDepth 20000 in
theorem gX0_reading_X0_isShutAt : GoodIn wsX0_reading (wsV RX0 77 RX0 yX0_isShutAt wsX0_isShutAt) := goodIn_app (goodIn_of _ (by decide +kernel)) ggX0_reading_X0_isShutAt
theorem dX0_reading_0 : decode cX0_reading 0 = .ok (.iload_n 1, 1) := by decide +kernel
theorem dX0_reading_1 : decode cX0_reading 1 = .ok (.tableswitch 113 0 9 #[55, 60, 65, 70, 75, 80, 93, 98, 103, 108], 55) := by decide +kernel
theorem dX0_reading_56 : decode cX0_reading 56 = .ok (.aload_n 0, 1) := by decide +kernel
theorem dX0_reading_57 : decode cX0_reading 57 = .ok (.getfield 34, 3) := by decide +kernel
theorem dX0_reading_60 : decode cX0_reading 60 = .ok (.ireturn, 1) := by decide +kernel
theorem dX0_reading_61 : decode cX0_reading 61 = .ok (.aload_n 0, 1) := by decide +kernel
theorem dX0_reading_62 : decode cX0_reading 62 = .ok (.getfield 37, 3) := by decide +kernel
theorem dX0_reading_65 : decode cX0_reading 65 = .ok (.ireturn, 1) := by decide +kernel
theorem dX0_reading_66 : decode cX0_reading 66 = .ok (.aload_n 0, 1) := by decide +kernel
theorem dX0_reading_67 : decode cX0_reading 67 = .ok (.getfield 21, 3) := by decide +kernel
theorem dX0_reading_70 : decode cX0_reading 70 = .ok (.ireturn, 1) := by decide +kernel
theorem dX0_reading_71 : decode cX0_reading 71 = .ok (.aload_n 0, 1) := by decide +kernel
theorem dX0_reading_72 : decode cX0_reading 72 = .ok (.getfield 24, 3) := by decide +kernel
theorem dX0_reading_75 : decode cX0_reading 75 = .ok (.ireturn, 1) := by decide +kernel
theorem dX0_reading_76 : decode cX0_reading 76 = .ok (.aload_n 0, 1) := by decide +kernel
theorem dX0_reading_77 : decode cX0_reading 77 = .ok (.getfield 27, 3) := by decide +kernel
theorem dX0_reading_80 : decode cX0_reading 80 = .ok (.ireturn, 1) := by decide +kernel
theorem dX0_reading_81 : decode cX0_reading 81 = .ok (.aload_n 0, 1) := by decide +kernel
theorem dX0_reading_82 : decode cX0_reading 82 = .ok (.getfield 30, 3) := by decide +kernel
theorem dX0_reading_85 : decode cX0_reading 85 = .ok (.ifCond .eq 7, 3) := by decide +kernel
theorem dX0_reading_88 : decode cX0_reading 88 = .ok (.iconst 1, 1) := by decide +kernel
theorem dX0_reading_89 : decode cX0_reading 89 = .ok (.goto 4, 3) := by decide +kernel
theorem dX0_reading_92 : decode cX0_reading 92 = .ok (.iconst 0, 1) := by decide +kernel
theorem dX0_reading_93 : decode cX0_reading 93 = .ok (.ireturn, 1) := by decide +kernel
theorem dX0_reading_94 : decode cX0_reading 94 = .ok (.aload_n 0, 1) := by decide +kernel
theorem dX0_reading_95 : decode cX0_reading 95 = .ok (.invokevirtual 73, 3) := by decide +kernel
theorem dX0_reading_98 : decode cX0_reading 98 = .ok (.ireturn, 1) := by decide +kernel
theorem dX0_reading_99 : decode cX0_reading 99 = .ok (.aload_n 0, 1) := by decide +kernel
theorem dX0_reading_100 : decode cX0_reading 100 = .ok (.getfield 46, 3) := by decide +kernel
theorem dX0_reading_103 : decode cX0_reading 103 = .ok (.ireturn, 1) := by decide +kernel
theorem dX0_reading_104 : decode cX0_reading 104 = .ok (.aload_n 0, 1) := by decide +kernel
theorem dX0_reading_105 : decode cX0_reading 105 = .ok (.getfield 49, 3) := by decide +kernel
theorem dX0_reading_108 : decode cX0_reading 108 = .ok (.ireturn, 1) := by decide +kernel
theorem dX0_reading_109 : decode cX0_reading 109 = .ok (.aload_n 0, 1) := by decide +kernel
theorem dX0_reading_110 : decode cX0_reading 110 = .ok (.getfield 52, 3) := by decide +kernel
theorem dX0_reading_113 : decode cX0_reading 113 = .ok (.ireturn, 1) := by decide +kernel
theorem dX0_reading_114 : decode cX0_reading 114 = .ok (.aload_n 0, 1) := by decide +kernel
theorem dX0_reading_115 : decode cX0_reading 115 = .ok (.aload_n 0, 1) := by decide +kernel
theorem dX0_reading_116 : decode cX0_reading 116 = .ok (.getfield 34, 3) := by decide +kernel
theorem dX0_reading_119 : decode cX0_reading 119 = .ok (.invokevirtual 77, 3) := by decide +kernel
theorem dX0_reading_122 : decode cX0_reading 122 = .ok (.ifCond .eq 7, 3) := by decide +kernel
theorem dX0_reading_125 : decode cX0_reading 125 = .ok (.iconst 1, 1) := by decide +kernel
theorem dX0_reading_126 : decode cX0_reading 126 = .ok (.goto 4, 3) := by decide +kernel
theorem dX0_reading_129 : decode cX0_reading 129 = .ok (.iconst 0, 1) := by decide +kernel
theorem dX0_reading_130 : decode cX0_reading 130 = .ok (.ireturn, 1) := by decide +kernel
set_option maxRecDepth 20000 in
theorem ggX0_mixInto_X0_reading : GoodIn wsX0_mixInto wsX0_reading := goodIn_r _ [11, 12, 13, 14, 15, 16, 17, 18, 19, 20, 21, 22, 23, 10, 24, 2, 3, 25, 26, 27, 28, 4, 29, 30, 31, 32, 5, 6, 33, 34, 35, 36, 37, 38, 39, 40, 41, 42, 43, 44, 45, 46] (by decide +kernel) (by decide +kernel)
set_option maxRecDepth 20000 in
theorem gX0_mixInto_X0_reading : GoodIn wsX0_mixInto (wsV RX0 92 RX0 yX0_reading wsX0_reading) := goodIn_app (goodIn_of _ (by decide +kernel)) ggX0_mixInto_X0_reading
theorem dX0_mixInto_0 : decode cX0_mixInto 0 = .ok (.lload_n 1, 1) := by decide +kernel
theorem dX0_mixInto_1 : decode cX0_mixInto 1 = .ok (.lstore_n 3, 1) := by decide +kernel
theorem dX0_mixInto_2 : decode cX0_mixInto 2 = .ok (.lload_n 3, 1) := by decide +kernel
theorem dX0_mixInto_3 : decode cX0_mixInto 3 = .ok (.ldc2_w 90, 3) := by decide +kernel
theorem dX0_mixInto_6 : decode cX0_mixInto 6 = .ok (.lmul, 1) := by decide +kernel
theorem dX0_mixInto_7 : decode cX0_mixInto 7 = .ok (.aload_n 0, 1) := by decide +kernel
theorem dX0_mixInto_8 : decode cX0_mixInto 8 = .ok (.getfield 9, 3) := by decide +kernel
theorem dX0_mixInto_11 : decode cX0_mixInto 11 = .ok (.i2l, 1) := by decide +kernel
theorem dX0_mixInto_12 : decode cX0_mixInto 12 = .ok (.ladd, 1) := by decide +kernel
theorem dX0_mixInto_13 : decode cX0_mixInto 13 = .ok (.lstore_n 3, 1) := by decide +kernel
theorem dX0_mixInto_14 : decode cX0_mixInto 14 = .ok (.lload_n 3, 1) := by decide +kernel
theorem dX0_mixInto_15 : decode cX0_mixInto 15 = .ok (.ldc2_w 90, 3) := by decide +kernel
theorem dX0_mixInto_18 : decode cX0_mixInto 18 = .ok (.lmul, 1) := by decide +kernel
theorem dX0_mixInto_19 : decode cX0_mixInto 19 = .ok (.aload_n 0, 1) := by decide +kernel
theorem dX0_mixInto_20 : decode cX0_mixInto 20 = .ok (.getfield 15, 3) := by decide +kernel
theorem dX0_mixInto_23 : decode cX0_mixInto 23 = .ok (.i2l, 1) := by decide +kernel
theorem dX0_mixInto_24 : decode cX0_mixInto 24 = .ok (.ladd, 1) := by decide +kernel
theorem dX0_mixInto_25 : decode cX0_mixInto 25 = .ok (.lstore_n 3, 1) := by decide +kernel
theorem dX0_mixInto_26 : decode cX0_mixInto 26 = .ok (.lload_n 3, 1) := by decide +kernel
theorem dX0_mixInto_27 : decode cX0_mixInto 27 = .ok (.ldc2_w 90, 3) := by decide +kernel
theorem dX0_mixInto_30 : decode cX0_mixInto 30 = .ok (.lmul, 1) := by decide +kernel
theorem dX0_mixInto_31 : decode cX0_mixInto 31 = .ok (.aload_n 0, 1) := by decide +kernel
theorem dX0_mixInto_32 : decode cX0_mixInto 32 = .ok (.getfield 18, 3) := by decide +kernel
theorem dX0_mixInto_35 : decode cX0_mixInto 35 = .ok (.i2l, 1) := by decide +kernel
theorem dX0_mixInto_36 : decode cX0_mixInto 36 = .ok (.ladd, 1) := by decide +kernel
theorem dX0_mixInto_37 : decode cX0_mixInto 37 = .ok (.lstore_n 3, 1) := by decide +kernel
theorem dX0_mixInto_38 : decode cX0_mixInto 38 = .ok (.lload_n 3, 1) := by decide +kernel
theorem dX0_mixInto_39 : decode cX0_mixInto 39 = .ok (.ldc2_w 90, 3) := by decide +kernel
theorem dX0_mixInto_42 : decode cX0_mixInto 42 = .ok (.lmul, 1) := by decide +kernel
theorem dX0_mixInto_43 : decode cX0_mixInto 43 = .ok (.aload_n 0, 1) := by decide +kernel
theorem dX0_mixInto_44 : decode cX0_mixInto 44 = .ok (.getfield 40, 3) := by decide +kernel
theorem dX0_mixInto_47 : decode cX0_mixInto 47 = .ok (.i2l, 1) := by decide +kernel
theorem dX0_mixInto_48 : decode cX0_mixInto 48 = .ok (.ladd, 1) := by decide +kernel
theorem dX0_mixInto_49 : decode cX0_mixInto 49 = .ok (.lstore_n 3, 1) := by decide +kernel
theorem dX0_mixInto_50 : decode cX0_mixInto 50 = .ok (.lload_n 3, 1) := by decide +kernel
theorem dX0_mixInto_51 : decode cX0_mixInto 51 = .ok (.ldc2_w 90, 3) := by decide +kernel
theorem dX0_mixInto_54 : decode cX0_mixInto 54 = .ok (.lmul, 1) := by decide +kernel
theorem dX0_mixInto_55 : decode cX0_mixInto 55 = .ok (.aload_n 0, 1) := by decide +kernel
theorem dX0_mixInto_56 : decode cX0_mixInto 56 = .ok (.getfield 43, 3) := by decide +kernel
theorem dX0_mixInto_59 : decode cX0_mixInto 59 = .ok (.i2l, 1) := by decide +kernel
theorem dX0_mixInto_60 : decode cX0_mixInto 60 = .ok (.ladd, 1) := by decide +kernel
theorem dX0_mixInto_61 : decode cX0_mixInto 61 = .ok (.lstore_n 3, 1) := by decide +kernel
theorem dX0_mixInto_62 : decode cX0_mixInto 62 = .ok (.iconst 0, 1) := by decide +kernel
theorem dX0_mixInto_63 : decode cX0_mixInto 63 = .ok (.istore 5, 2) := by decide +kernel
theorem dX0_mixInto_65 : decode cX0_mixInto 65 = .ok (.iload 5, 2) := by decide +kernel
theorem dX0_mixInto_67 : decode cX0_mixInto 67 = .ok (.bipush 11, 2) := by decide +kernel
theorem dX0_mixInto_69 : decode cX0_mixInto 69 = .ok (.if_icmp .ge 23, 3) := by decide +kernel
theorem dX0_mixInto_72 : decode cX0_mixInto 72 = .ok (.lload_n 3, 1) := by decide +kernel
theorem dX0_mixInto_73 : decode cX0_mixInto 73 = .ok (.ldc2_w 90, 3) := by decide +kernel
theorem dX0_mixInto_76 : decode cX0_mixInto 76 = .ok (.lmul, 1) := by decide +kernel
theorem dX0_mixInto_77 : decode cX0_mixInto 77 = .ok (.aload_n 0, 1) := by decide +kernel
theorem dX0_mixInto_78 : decode cX0_mixInto 78 = .ok (.iload 5, 2) := by decide +kernel
theorem dX0_mixInto_80 : decode cX0_mixInto 80 = .ok (.invokevirtual 92, 3) := by decide +kernel
theorem dX0_mixInto_83 : decode cX0_mixInto 83 = .ok (.i2l, 1) := by decide +kernel
theorem dX0_mixInto_84 : decode cX0_mixInto 84 = .ok (.ladd, 1) := by decide +kernel
theorem dX0_mixInto_85 : decode cX0_mixInto 85 = .ok (.lstore_n 3, 1) := by decide +kernel
theorem dX0_mixInto_86 : decode cX0_mixInto 86 = .ok (.iinc 5 1, 3) := by decide +kernel
theorem dX0_mixInto_89 : decode cX0_mixInto 89 = .ok (.goto (-24), 3) := by decide +kernel
theorem dX0_mixInto_92 : decode cX0_mixInto 92 = .ok (.lload_n 3, 1) := by decide +kernel
theorem dX0_mixInto_93 : decode cX0_mixInto 93 = .ok (.lreturn, 1) := by decide +kernel
end
section
set_option maxRecDepth 20000 in
theorem ggX1_init_X0_init : GoodIn wsX1_init wsX0_init := goodIn_r _ [12, 13, 2, 3, 14, 15, 16, 17, 18, 19, 20, 21, 22, 23, 24, 25, 26, 27, 32, 33, 34, 35, 36, 37, 38, 39, 40, 41, 42, 43, 44, 45] (by decide +kernel) (by decide +kernel)
set_option maxRecDepth 20000 in
theorem gX1_init_X0_init_n18 : GoodIn wsX1_init (wsX0_init) := ggX1_init_X0_init
theorem dX1_init_0 : decode cX1_init 0 = .ok (.aload_n 0, 1) := by decide +kernel
theorem dX1_init_1 : decode cX1_init 1 = .ok (.invokespecial 1, 3) := by decide +kernel
theorem dX1_init_4 : decode cX1_init 4 = .ok (.aload_n 0, 1) := by decide +kernel
theorem dX1_init_5 : decode cX1_init 5 = .ok (.bipush 10, 2) := by decide +kernel
theorem dX1_init_7 : decode cX1_init 7 = .ok (.anewarray 9, 3) := by decide +kernel
theorem dX1_init_10 : decode cX1_init 10 = .ok (.putfield 11, 3) := by decide +kernel
theorem dX1_init_13 : decode cX1_init 13 = .ok (.aload_n 0, 1) := by decide +kernel
theorem dX1_init_14 : decode cX1_init 14 = .ok (.bipush 10, 2) := by decide +kernel
theorem dX1_init_16 : decode cX1_init 16 = .ok (.anewarray 9, 3) := by decide +kernel
theorem dX1_init_19 : decode cX1_init 19 = .ok (.putfield 15, 3) := by decide +kernel
theorem dX1_init_22 : decode cX1_init 22 = .ok (.iconst 0, 1) := by decide +kernel
theorem dX1_init_23 : decode cX1_init 23 = .ok (.istore_n 1, 1) := by decide +kernel
theorem dX1_init_24 : decode cX1_init 24 = .ok (.iload_n 1, 1) := by decide +kernel
theorem dX1_init_25 : decode cX1_init 25 = .ok (.bipush 10, 2) := by decide +kernel
theorem dX1_init_27 : decode cX1_init 27 = .ok (.if_icmp .ge 35, 3) := by decide +kernel
theorem dX1_init_30 : decode cX1_init 30 = .ok (.aload_n 0, 1) := by decide +kernel
theorem dX1_init_31 : decode cX1_init 31 = .ok (.getfield 11, 3) := by decide +kernel
theorem dX1_init_34 : decode cX1_init 34 = .ok (.iload_n 1, 1) := by decide +kernel
theorem dX1_init_35 : decode cX1_init 35 = .ok (.new 9, 3) := by decide +kernel
theorem dX1_init_38 : decode cX1_init 38 = .ok (.dup, 1) := by decide +kernel
theorem dX1_init_39 : decode cX1_init 39 = .ok (.invokespecial 18, 3) := by decide +kernel
theorem dX1_init_42 : decode cX1_init 42 = .ok (.aastore, 1) := by decide +kernel
theorem dX1_init_43 : decode cX1_init 43 = .ok (.aload_n 0, 1) := by decide +kernel
theorem dX1_init_44 : decode cX1_init 44 = .ok (.getfield 15, 3) := by decide +kernel
theorem dX1_init_47 : decode cX1_init 47 = .ok (.iload_n 1, 1) := by decide +kernel
theorem dX1_init_48 : decode cX1_init 48 = .ok (.new 9, 3) := by decide +kernel
theorem dX1_init_51 : decode cX1_init 51 = .ok (.dup, 1) := by decide +kernel
theorem dX1_init_52 : decode cX1_init 52 = .ok (.invokespecial 18, 3) := by decide +kernel
theorem dX1_init_55 : decode cX1_init 55 = .ok (.aastore, 1) := by decide +kernel
theorem dX1_init_56 : decode cX1_init 56 = .ok (.iinc 1 1, 3) := by decide +kernel
theorem dX1_init_59 : decode cX1_init 59 = .ok (.goto (-35), 3) := by decide +kernel
theorem dX1_init_62 : decode cX1_init 62 = .ok (.aload_n 0, 1) := by decide +kernel
theorem dX1_init_63 : decode cX1_init 63 = .ok (.iconst 0, 1) := by decide +kernel
theorem dX1_init_64 : decode cX1_init 64 = .ok (.putfield 19, 3) := by decide +kernel
theorem dX1_init_67 : decode cX1_init 67 = .ok (.aload_n 0, 1) := by decide +kernel
theorem dX1_init_68 : decode cX1_init 68 = .ok (.iconst 0, 1) := by decide +kernel
theorem dX1_init_69 : decode cX1_init 69 = .ok (.putfield 23, 3) := by decide +kernel
theorem dX1_init_72 : decode cX1_init 72 = .ok (.return_, 1) := by decide +kernel
set_option maxRecDepth 20000 in
theorem ggX1_come_X1_checkTime : GoodIn wsX1_come wsX1_checkTime := goodIn_ca (goodIn_r _ [8, 9, 10, 11, 12, 7, 13] (by decide +kernel) (by decide +kernel)) (goodIn_sub (fun _ h => List.mem_cons_of_mem _ (List.mem_append_right _ h)) (by decide +kernel))
set_option maxRecDepth 20000 in
theorem gX1_come_X1_checkTime : GoodIn wsX1_come (va_wsS RX1 26 yX1_checkTime wsX1_checkTime) := goodIn_app (goodIn_of _ (by decide +kernel)) ggX1_come_X1_checkTime
set_option maxRecDepth 20000 in
theorem ggX1_come_X0_putHands : GoodIn wsX1_come wsX0_putHands := goodIn_r _ [17, 18, 19, 24, 25, 26, 27, 28, 29, 30, 31, 32, 33, 34, 35, 36, 37] (by decide +kernel) (by decide +kernel)
set_option maxRecDepth 20000 in
theorem gX1_come_X0_putHands_n37 : GoodIn wsX1_come (wsX0_putHands) := ggX1_come_X0_putHands
theorem dX1_come_0 : decode cX1_come 0 = .ok (.iload_n 1, 1) := by decide +kernel
theorem dX1_come_1 : decode cX1_come 1 = .ok (.invokestatic 26, 3) := by decide +kernel
theorem dX1_come_4 : decode cX1_come 4 = .ok (.aload_n 0, 1) := by decide +kernel
theorem dX1_come_5 : decode cX1_come 5 = .ok (.getfield 19, 3) := by decide +kernel
theorem dX1_come_8 : decode cX1_come 8 = .ok (.bipush 10, 2) := by decide +kernel
theorem dX1_come_10 : decode cX1_come 10 = .ok (.if_icmp .lt 13, 3) := by decide +kernel
theorem dX1_come_13 : decode cX1_come 13 = .ok (.new 30, 3) := by decide +kernel
theorem dX1_come_16 : decode cX1_come 16 = .ok (.dup, 1) := by decide +kernel
theorem dX1_come_17 : decode cX1_come 17 = .ok (.ldc 32, 2) := by decide +kernel
theorem dX1_come_19 : decode cX1_come 19 = .ok (.invokespecial 34, 3) := by decide +kernel
theorem dX1_come_22 : decode cX1_come 22 = .ok (.athrow, 1) := by decide +kernel
theorem dX1_come_23 : decode cX1_come 23 = .ok (.aload_n 0, 1) := by decide +kernel
theorem dX1_come_24 : decode cX1_come 24 = .ok (.getfield 11, 3) := by decide +kernel
theorem dX1_come_27 : decode cX1_come 27 = .ok (.aload_n 0, 1) := by decide +kernel
theorem dX1_come_28 : decode cX1_come 28 = .ok (.getfield 19, 3) := by decide +kernel
theorem dX1_come_31 : decode cX1_come 31 = .ok (.aaload, 1) := by decide +kernel
theorem dX1_come_32 : decode cX1_come 32 = .ok (.iload_n 1, 1) := by decide +kernel
theorem dX1_come_33 : decode cX1_come 33 = .ok (.invokevirtual 37, 3) := by decide +kernel
theorem dX1_come_36 : decode cX1_come 36 = .ok (.aload_n 0, 1) := by decide +kernel
theorem dX1_come_37 : decode cX1_come 37 = .ok (.dup, 1) := by decide +kernel
theorem dX1_come_38 : decode cX1_come 38 = .ok (.getfield 19, 3) := by decide +kernel
theorem dX1_come_41 : decode cX1_come 41 = .ok (.iconst 1, 1) := by decide +kernel
theorem dX1_come_42 : decode cX1_come 42 = .ok (.iadd, 1) := by decide +kernel
theorem dX1_come_43 : decode cX1_come 43 = .ok (.putfield 19, 3) := by decide +kernel
theorem dX1_come_46 : decode cX1_come 46 = .ok (.aload_n 0, 1) := by decide +kernel
theorem dX1_come_47 : decode cX1_come 47 = .ok (.getfield 19, 3) := by decide +kernel
theorem dX1_come_50 : decode cX1_come 50 = .ok (.iconst 1, 1) := by decide +kernel
theorem dX1_come_51 : decode cX1_come 51 = .ok (.isub, 1) := by decide +kernel
theorem dX1_come_52 : decode cX1_come 52 = .ok (.ireturn, 1) := by decide +kernel
set_option maxRecDepth 20000 in
theorem ggX1_gear_X1_checkClock : GoodIn wsX1_gear wsX1_checkClock := goodIn_ca (goodIn_r _ [8, 9, 10, 11, 30, 31, 32, 33] (by decide +kernel) (by decide +kernel)) (goodIn_sub (fun _ h => List.mem_cons_of_mem _ (List.mem_append_right _ h)) (by decide +kernel))
set_option maxRecDepth 20000 in
theorem gX1_gear_X1_checkClock : GoodIn wsX1_gear (wsV RX1 40 RX1 yX1_checkClock wsX1_checkClock) := goodIn_app (goodIn_of _ (by decide +kernel)) ggX1_gear_X1_checkClock
set_option maxRecDepth 20000 in
theorem ggX1_gear_X1_isWithin : GoodIn wsX1_gear wsX1_isWithin := goodIn_r _ [14] (by decide +kernel) (by decide +kernel)
set_option maxRecDepth 20000 in
theorem gX1_gear_X1_isWithin : GoodIn wsX1_gear (va_wsS RX1 43 yX1_isWithin wsX1_isWithin) := goodIn_app (goodIn_of _ (by decide +kernel)) ggX1_gear_X1_isWithin
set_option maxRecDepth 20000 in
theorem ggX1_gear_X0_fitTrain : GoodIn wsX1_gear wsX0_fitTrain := goodIn_r _ [18, 19, 20, 21, 34, 35, 36, 37, 38, 39, 40, 41, 42, 43, 44, 45, 46, 47] (by decide +kernel) (by decide +kernel)
set_option maxRecDepth 20000 in
theorem gX1_gear_X0_fitTrain_n54 : GoodIn wsX1_gear (wsX0_fitTrain) := ggX1_gear_X0_fitTrain
set_option maxRecDepth 20000 in
theorem ggX1_gear_X0_advance : GoodIn wsX1_gear wsX0_advance := goodIn_r _ [24, 19, 20, 25, 26, 27, 16, 28, 21, 29, 34, 35, 36, 37, 38, 39, 40, 41, 42, 43, 44, 45, 46, 47] (by decide +kernel) (by decide +kernel)
set_option maxRecDepth 20000 in
theorem gX1_gear_X0_advance_n58 : GoodIn wsX1_gear (wsX0_advance) := ggX1_gear_X0_advance
theorem dX1_gear_0 : decode cX1_gear 0 = .ok (.aload_n 0, 1) := by decide +kernel
theorem dX1_gear_1 : decode cX1_gear 1 = .ok (.iload_n 1, 1) := by decide +kernel
theorem dX1_gear_2 : decode cX1_gear 2 = .ok (.invokevirtual 40, 3) := by decide +kernel
theorem dX1_gear_5 : decode cX1_gear 5 = .ok (.iload_n 2, 1) := by decide +kernel
theorem dX1_gear_6 : decode cX1_gear 6 = .ok (.bipush 20, 2) := by decide +kernel
theorem dX1_gear_8 : decode cX1_gear 8 = .ok (.bipush 40, 2) := by decide +kernel
theorem dX1_gear_10 : decode cX1_gear 10 = .ok (.invokestatic 43, 3) := by decide +kernel
theorem dX1_gear_13 : decode cX1_gear 13 = .ok (.ifCond .eq 14, 3) := by decide +kernel
theorem dX1_gear_16 : decode cX1_gear 16 = .ok (.iload_n 3, 1) := by decide +kernel
theorem dX1_gear_17 : decode cX1_gear 17 = .ok (.bipush 20, 2) := by decide +kernel
theorem dX1_gear_19 : decode cX1_gear 19 = .ok (.bipush 40, 2) := by decide +kernel
theorem dX1_gear_21 : decode cX1_gear 21 = .ok (.invokestatic 43, 3) := by decide +kernel
theorem dX1_gear_24 : decode cX1_gear 24 = .ok (.ifCond .ne 13, 3) := by decide +kernel
theorem dX1_gear_27 : decode cX1_gear 27 = .ok (.new 47, 3) := by decide +kernel
theorem dX1_gear_30 : decode cX1_gear 30 = .ok (.dup, 1) := by decide +kernel
theorem dX1_gear_31 : decode cX1_gear 31 = .ok (.ldc 49, 2) := by decide +kernel
theorem dX1_gear_33 : decode cX1_gear 33 = .ok (.invokespecial 51, 3) := by decide +kernel
theorem dX1_gear_36 : decode cX1_gear 36 = .ok (.athrow, 1) := by decide +kernel
theorem dX1_gear_37 : decode cX1_gear 37 = .ok (.iload 4, 2) := by decide +kernel
theorem dX1_gear_39 : decode cX1_gear 39 = .ok (.bipush (-20), 2) := by decide +kernel
theorem dX1_gear_41 : decode cX1_gear 41 = .ok (.bipush 20, 2) := by decide +kernel
theorem dX1_gear_43 : decode cX1_gear 43 = .ok (.invokestatic 43, 3) := by decide +kernel
theorem dX1_gear_46 : decode cX1_gear 46 = .ok (.ifCond .ne 13, 3) := by decide +kernel
theorem dX1_gear_49 : decode cX1_gear 49 = .ok (.new 47, 3) := by decide +kernel
theorem dX1_gear_52 : decode cX1_gear 52 = .ok (.dup, 1) := by decide +kernel
theorem dX1_gear_53 : decode cX1_gear 53 = .ok (.ldc 52, 2) := by decide +kernel
theorem dX1_gear_55 : decode cX1_gear 55 = .ok (.invokespecial 51, 3) := by decide +kernel
theorem dX1_gear_58 : decode cX1_gear 58 = .ok (.athrow, 1) := by decide +kernel
theorem dX1_gear_59 : decode cX1_gear 59 = .ok (.aload_n 0, 1) := by decide +kernel
theorem dX1_gear_60 : decode cX1_gear 60 = .ok (.getfield 11, 3) := by decide +kernel
theorem dX1_gear_63 : decode cX1_gear 63 = .ok (.iload_n 1, 1) := by decide +kernel
theorem dX1_gear_64 : decode cX1_gear 64 = .ok (.aaload, 1) := by decide +kernel
theorem dX1_gear_65 : decode cX1_gear 65 = .ok (.iload_n 2, 1) := by decide +kernel
theorem dX1_gear_66 : decode cX1_gear 66 = .ok (.iload_n 3, 1) := by decide +kernel
theorem dX1_gear_67 : decode cX1_gear 67 = .ok (.iload 4, 2) := by decide +kernel
theorem dX1_gear_69 : decode cX1_gear 69 = .ok (.invokevirtual 54, 3) := by decide +kernel
theorem dX1_gear_72 : decode cX1_gear 72 = .ok (.aload_n 0, 1) := by decide +kernel
theorem dX1_gear_73 : decode cX1_gear 73 = .ok (.getfield 11, 3) := by decide +kernel
theorem dX1_gear_76 : decode cX1_gear 76 = .ok (.iload_n 1, 1) := by decide +kernel
theorem dX1_gear_77 : decode cX1_gear 77 = .ok (.aaload, 1) := by decide +kernel
theorem dX1_gear_78 : decode cX1_gear 78 = .ok (.invokevirtual 58, 3) := by decide +kernel
theorem dX1_gear_81 : decode cX1_gear 81 = .ok (.ireturn, 1) := by decide +kernel
set_option maxRecDepth 20000 in
theorem ggX1_set_X1_checkClock : GoodIn wsX1_set wsX1_checkClock := goodIn_ca (goodIn_r _ [7, 8, 9, 10, 35, 36, 37, 38] (by decide +kernel) (by decide +kernel)) (goodIn_sub (fun _ h => List.mem_cons_of_mem _ (List.mem_append_left _ (List.mem_append_right _ h))) (by decide +kernel))
set_option maxRecDepth 20000 in
theorem gX1_set_X1_checkClock : GoodIn wsX1_set (wsV RX1 40 RX1 yX1_checkClock wsX1_checkClock) := goodIn_app (goodIn_of _ (by decide +kernel)) ggX1_set_X1_checkClock
set_option maxRecDepth 20000 in
theorem ggX1_set_X1_checkTime : GoodIn wsX1_set wsX1_checkTime := goodIn_ca (goodIn_r _ [13, 14, 15, 16, 17, 6, 18] (by decide +kernel) (by decide +kernel)) (goodIn_sub (fun _ h => List.mem_cons_of_mem _ (List.mem_append_right _ h)) (by decide +kernel))
set_option maxRecDepth 20000 in
theorem gX1_set_X1_checkTime : GoodIn wsX1_set (va_wsS RX1 26 yX1_checkTime wsX1_checkTime) := goodIn_app (goodIn_of _ (by decide +kernel)) ggX1_set_X1_checkTime
set_option maxRecDepth 20000 in
theorem ggX1_set_X1_offOf : GoodIn wsX1_set wsX1_offOf := goodIn_r _ [21, 22, 23, 6, 24, 25, 26, 27, 28, 39, 40, 41, 42, 43, 44, 45, 46, 47, 48, 49, 50, 51, 52] (by decide +kernel) (by decide +kernel)
set_option maxRecDepth 20000 in
theorem gX1_set_X1_offOf : GoodIn wsX1_set (va_wsS RX1 62 yX1_offOf wsX1_offOf) := goodIn_app (goodIn_of _ (by decide +kernel)) ggX1_set_X1_offOf
set_option maxRecDepth 20000 in
theorem ggX1_set_X0_putHands : GoodIn wsX1_set wsX0_putHands := goodIn_r _ [32, 33, 34, 39, 40, 41, 42, 43, 44, 45, 46, 47, 48, 49, 50, 51, 52] (by decide +kernel) (by decide +kernel)
set_option maxRecDepth 20000 in
theorem gX1_set_X0_putHands_n37 : GoodIn wsX1_set (wsX0_putHands) := ggX1_set_X0_putHands
theorem dX1_set_0 : decode cX1_set 0 = .ok (.aload_n 0, 1) := by decide +kernel
theorem dX1_set_1 : decode cX1_set 1 = .ok (.iload_n 1, 1) := by decide +kernel
theorem dX1_set_2 : decode cX1_set 2 = .ok (.invokevirtual 40, 3) := by decide +kernel
theorem dX1_set_5 : decode cX1_set 5 = .ok (.iload_n 2, 1) := by decide +kernel
theorem dX1_set_6 : decode cX1_set 6 = .ok (.invokestatic 26, 3) := by decide +kernel
theorem dX1_set_9 : decode cX1_set 9 = .ok (.aload_n 0, 1) := by decide +kernel
theorem dX1_set_10 : decode cX1_set 10 = .ok (.getfield 11, 3) := by decide +kernel
theorem dX1_set_13 : decode cX1_set 13 = .ok (.iload_n 1, 1) := by decide +kernel
theorem dX1_set_14 : decode cX1_set 14 = .ok (.aaload, 1) := by decide +kernel
theorem dX1_set_15 : decode cX1_set 15 = .ok (.aload_n 0, 1) := by decide +kernel
theorem dX1_set_16 : decode cX1_set 16 = .ok (.getfield 23, 3) := by decide +kernel
theorem dX1_set_19 : decode cX1_set 19 = .ok (.invokestatic 62, 3) := by decide +kernel
theorem dX1_set_22 : decode cX1_set 22 = .ok (.istore_n 3, 1) := by decide +kernel
theorem dX1_set_23 : decode cX1_set 23 = .ok (.aload_n 0, 1) := by decide +kernel
theorem dX1_set_24 : decode cX1_set 24 = .ok (.getfield 11, 3) := by decide +kernel
theorem dX1_set_27 : decode cX1_set 27 = .ok (.iload_n 1, 1) := by decide +kernel
theorem dX1_set_28 : decode cX1_set 28 = .ok (.aaload, 1) := by decide +kernel
theorem dX1_set_29 : decode cX1_set 29 = .ok (.iload_n 2, 1) := by decide +kernel
theorem dX1_set_30 : decode cX1_set 30 = .ok (.invokevirtual 37, 3) := by decide +kernel
theorem dX1_set_33 : decode cX1_set 33 = .ok (.iload_n 3, 1) := by decide +kernel
theorem dX1_set_34 : decode cX1_set 34 = .ok (.ireturn, 1) := by decide +kernel
set_option maxRecDepth 20000 in
theorem ggX1_wind_X1_checkClock : GoodIn wsX1_wind wsX1_checkClock := goodIn_ca (goodIn_r _ [6, 7, 8, 9, 16, 17, 18, 19] (by decide +kernel) (by decide +kernel)) (goodIn_sub (fun _ h => List.mem_cons_of_mem _ (List.mem_append_right _ h)) (by decide +kernel))
set_option maxRecDepth 20000 in
theorem gX1_wind_X1_checkClock : GoodIn wsX1_wind (wsV RX1 40 RX1 yX1_checkClock wsX1_checkClock) := goodIn_app (goodIn_of _ (by decide +kernel)) ggX1_wind_X1_checkClock
set_option maxRecDepth 20000 in
theorem ggX1_wind_X0_drawUp : GoodIn wsX1_wind wsX0_drawUp := goodIn_r _ [13, 14, 15, 20, 21, 22, 23, 24, 25, 26, 27, 28, 29, 30, 31, 32, 33] (by decide +kernel) (by decide +kernel)
set_option maxRecDepth 20000 in
theorem gX1_wind_X0_drawUp_n66 : GoodIn wsX1_wind (wsX0_drawUp) := ggX1_wind_X0_drawUp
theorem dX1_wind_0 : decode cX1_wind 0 = .ok (.aload_n 0, 1) := by decide +kernel
theorem dX1_wind_1 : decode cX1_wind 1 = .ok (.iload_n 1, 1) := by decide +kernel
theorem dX1_wind_2 : decode cX1_wind 2 = .ok (.invokevirtual 40, 3) := by decide +kernel
theorem dX1_wind_5 : decode cX1_wind 5 = .ok (.aload_n 0, 1) := by decide +kernel
theorem dX1_wind_6 : decode cX1_wind 6 = .ok (.getfield 11, 3) := by decide +kernel
theorem dX1_wind_9 : decode cX1_wind 9 = .ok (.iload_n 1, 1) := by decide +kernel
theorem dX1_wind_10 : decode cX1_wind 10 = .ok (.aaload, 1) := by decide +kernel
theorem dX1_wind_11 : decode cX1_wind 11 = .ok (.invokevirtual 66, 3) := by decide +kernel
theorem dX1_wind_14 : decode cX1_wind 14 = .ok (.ireturn, 1) := by decide +kernel
set_option maxRecDepth 20000 in
theorem ggX1_mend_X1_checkClock : GoodIn wsX1_mend wsX1_checkClock := goodIn_ca (goodIn_r _ [8, 9, 10, 11, 26, 27, 28, 29] (by decide +kernel) (by decide +kernel)) (goodIn_sub (fun _ h => List.mem_cons_of_mem _ (List.mem_append_right _ h)) (by decide +kernel))
set_option maxRecDepth 20000 in
theorem gX1_mend_X1_checkClock : GoodIn wsX1_mend (wsV RX1 40 RX1 yX1_checkClock wsX1_checkClock) := goodIn_app (goodIn_of _ (by decide +kernel)) ggX1_mend_X1_checkClock
set_option maxRecDepth 20000 in
theorem ggX1_mend_X0_fillOil : GoodIn wsX1_mend wsX0_fillOil := goodIn_r _ [15, 16, 30, 31, 32, 33, 34, 35, 36, 37, 38, 39, 40, 41, 42, 43] (by decide +kernel) (by decide +kernel)
set_option maxRecDepth 20000 in
theorem gX1_mend_X0_fillOil_n69 : GoodIn wsX1_mend (wsX0_fillOil) := ggX1_mend_X0_fillOil
set_option maxRecDepth 20000 in
theorem ggX1_mend_X0_patchBellows : GoodIn wsX1_mend wsX0_patchBellows := goodIn_r _ [19, 20, 30, 31, 32, 33, 34, 35, 36, 37, 38, 39, 40, 41, 42, 43] (by decide +kernel) (by decide +kernel)
set_option maxRecDepth 20000 in
theorem gX1_mend_X0_patchBellows_n72 : GoodIn wsX1_mend (wsX0_patchBellows) := ggX1_mend_X0_patchBellows
set_option maxRecDepth 20000 in
theorem ggX1_mend_X0_nudge : GoodIn wsX1_mend wsX0_nudge := goodIn_r _ [23, 24, 25, 30, 31, 32, 33, 34, 35, 36, 37, 38, 39, 40, 41, 42, 43] (by decide +kernel) (by decide +kernel)
set_option maxRecDepth 20000 in
theorem gX1_mend_X0_nudge_n75 : GoodIn wsX1_mend (wsX0_nudge) := ggX1_mend_X0_nudge
theorem dX1_mend_0 : decode cX1_mend 0 = .ok (.aload_n 0, 1) := by decide +kernel
theorem dX1_mend_1 : decode cX1_mend 1 = .ok (.iload_n 1, 1) := by decide +kernel
theorem dX1_mend_2 : decode cX1_mend 2 = .ok (.invokevirtual 40, 3) := by decide +kernel
theorem dX1_mend_5 : decode cX1_mend 5 = .ok (.iload_n 2, 1) := by decide +kernel
theorem dX1_mend_6 : decode cX1_mend 6 = .ok (.tableswitch 56 0 2 #[26, 36, 46], 26) := by decide +kernel
theorem dX1_mend_32 : decode cX1_mend 32 = .ok (.aload_n 0, 1) := by decide +kernel
theorem dX1_mend_33 : decode cX1_mend 33 = .ok (.getfield 11, 3) := by decide +kernel
theorem dX1_mend_36 : decode cX1_mend 36 = .ok (.iload_n 1, 1) := by decide +kernel
theorem dX1_mend_37 : decode cX1_mend 37 = .ok (.aaload, 1) := by decide +kernel
theorem dX1_mend_38 : decode cX1_mend 38 = .ok (.invokevirtual 69, 3) := by decide +kernel
theorem dX1_mend_41 : decode cX1_mend 41 = .ok (.ireturn, 1) := by decide +kernel
theorem dX1_mend_42 : decode cX1_mend 42 = .ok (.aload_n 0, 1) := by decide +kernel
theorem dX1_mend_43 : decode cX1_mend 43 = .ok (.getfield 11, 3) := by decide +kernel
theorem dX1_mend_46 : decode cX1_mend 46 = .ok (.iload_n 1, 1) := by decide +kernel
theorem dX1_mend_47 : decode cX1_mend 47 = .ok (.aaload, 1) := by decide +kernel
theorem dX1_mend_48 : decode cX1_mend 48 = .ok (.invokevirtual 72, 3) := by decide +kernel
theorem dX1_mend_51 : decode cX1_mend 51 = .ok (.ireturn, 1) := by decide +kernel
theorem dX1_mend_52 : decode cX1_mend 52 = .ok (.aload_n 0, 1) := by decide +kernel
theorem dX1_mend_53 : decode cX1_mend 53 = .ok (.getfield 11, 3) := by decide +kernel
theorem dX1_mend_56 : decode cX1_mend 56 = .ok (.iload_n 1, 1) := by decide +kernel
theorem dX1_mend_57 : decode cX1_mend 57 = .ok (.aaload, 1) := by decide +kernel
theorem dX1_mend_58 : decode cX1_mend 58 = .ok (.invokevirtual 75, 3) := by decide +kernel
theorem dX1_mend_61 : decode cX1_mend 61 = .ok (.ireturn, 1) := by decide +kernel
theorem dX1_mend_62 : decode cX1_mend 62 = .ok (.new 47, 3) := by decide +kernel
theorem dX1_mend_65 : decode cX1_mend 65 = .ok (.dup, 1) := by decide +kernel
theorem dX1_mend_66 : decode cX1_mend 66 = .ok (.ldc 78, 2) := by decide +kernel
theorem dX1_mend_68 : decode cX1_mend 68 = .ok (.invokespecial 51, 3) := by decide +kernel
theorem dX1_mend_71 : decode cX1_mend 71 = .ok (.athrow, 1) := by decide +kernel
set_option maxRecDepth 20000 in
theorem ggX1_shut_X1_checkClock : GoodIn wsX1_shut wsX1_checkClock := goodIn_ca (goodIn_r _ [8, 9, 10, 11, 24, 25, 26, 27] (by decide +kernel) (by decide +kernel)) (goodIn_sub (fun _ h => List.mem_cons_of_mem _ (List.mem_append_right _ h)) (by decide +kernel))
set_option maxRecDepth 20000 in
theorem gX1_shut_X1_checkClock : GoodIn wsX1_shut (wsV RX1 40 RX1 yX1_checkClock wsX1_checkClock) := goodIn_app (goodIn_of _ (by decide +kernel)) ggX1_shut_X1_checkClock
set_option maxRecDepth 20000 in
theorem ggX1_shut_X1_checkTime : GoodIn wsX1_shut wsX1_checkTime := goodIn_ca (goodIn_r _ [14, 1, 2, 15, 16, 7, 17] (by decide +kernel) (by decide +kernel)) (goodIn_sub (fun _ h => List.mem_cons_of_mem _ (List.mem_append_left _ (List.mem_append_right _ h))) (by decide +kernel))
set_option maxRecDepth 20000 in
theorem gX1_shut_X1_checkTime : GoodIn wsX1_shut (va_wsS RX1 26 yX1_checkTime wsX1_checkTime) := goodIn_app (goodIn_of _ (by decide +kernel)) ggX1_shut_X1_checkTime
set_option maxRecDepth 20000 in
theorem ggX1_shut_X0_silence : GoodIn wsX1_shut wsX0_silence := goodIn_r _ [21, 22, 23, 28, 29, 30, 31, 32, 33, 34, 35, 36, 37, 38, 39, 40, 41] (by decide +kernel) (by decide +kernel)
set_option maxRecDepth 20000 in
theorem gX1_shut_X0_silence_n82 : GoodIn wsX1_shut (wsX0_silence) := ggX1_shut_X0_silence
theorem dX1_shut_0 : decode cX1_shut 0 = .ok (.aload_n 0, 1) := by decide +kernel
theorem dX1_shut_1 : decode cX1_shut 1 = .ok (.iload_n 1, 1) := by decide +kernel
theorem dX1_shut_2 : decode cX1_shut 2 = .ok (.invokevirtual 40, 3) := by decide +kernel
theorem dX1_shut_5 : decode cX1_shut 5 = .ok (.iload_n 2, 1) := by decide +kernel
theorem dX1_shut_6 : decode cX1_shut 6 = .ok (.iconst (-1), 1) := by decide +kernel
theorem dX1_shut_7 : decode cX1_shut 7 = .ok (.if_icmp .eq 7, 3) := by decide +kernel
theorem dX1_shut_10 : decode cX1_shut 10 = .ok (.iload_n 2, 1) := by decide +kernel
theorem dX1_shut_11 : decode cX1_shut 11 = .ok (.invokestatic 26, 3) := by decide +kernel
theorem dX1_shut_14 : decode cX1_shut 14 = .ok (.iload_n 3, 1) := by decide +kernel
theorem dX1_shut_15 : decode cX1_shut 15 = .ok (.invokestatic 26, 3) := by decide +kernel
theorem dX1_shut_18 : decode cX1_shut 18 = .ok (.iload_n 2, 1) := by decide +kernel
theorem dX1_shut_19 : decode cX1_shut 19 = .ok (.iconst (-1), 1) := by decide +kernel
theorem dX1_shut_20 : decode cX1_shut 20 = .ok (.if_icmp .ne 17, 3) := by decide +kernel
theorem dX1_shut_23 : decode cX1_shut 23 = .ok (.iload_n 3, 1) := by decide +kernel
theorem dX1_shut_24 : decode cX1_shut 24 = .ok (.ifCond .eq 13, 3) := by decide +kernel
theorem dX1_shut_27 : decode cX1_shut 27 = .ok (.new 47, 3) := by decide +kernel
theorem dX1_shut_30 : decode cX1_shut 30 = .ok (.dup, 1) := by decide +kernel
theorem dX1_shut_31 : decode cX1_shut 31 = .ok (.ldc 80, 2) := by decide +kernel
theorem dX1_shut_33 : decode cX1_shut 33 = .ok (.invokespecial 51, 3) := by decide +kernel
theorem dX1_shut_36 : decode cX1_shut 36 = .ok (.athrow, 1) := by decide +kernel
theorem dX1_shut_37 : decode cX1_shut 37 = .ok (.aload_n 0, 1) := by decide +kernel
theorem dX1_shut_38 : decode cX1_shut 38 = .ok (.getfield 11, 3) := by decide +kernel
theorem dX1_shut_41 : decode cX1_shut 41 = .ok (.iload_n 1, 1) := by decide +kernel
theorem dX1_shut_42 : decode cX1_shut 42 = .ok (.aaload, 1) := by decide +kernel
theorem dX1_shut_43 : decode cX1_shut 43 = .ok (.iload_n 2, 1) := by decide +kernel
theorem dX1_shut_44 : decode cX1_shut 44 = .ok (.iload_n 3, 1) := by decide +kernel
theorem dX1_shut_45 : decode cX1_shut 45 = .ok (.invokevirtual 82, 3) := by decide +kernel
theorem dX1_shut_48 : decode cX1_shut 48 = .ok (.ireturn, 1) := by decide +kernel
set_option maxRecDepth 20000 in
theorem ggX1_clock_X1_checkClock : GoodIn wsX1_clock wsX1_checkClock := goodIn_ca (goodIn_r _ [8, 1, 2, 9, 43, 44, 45, 46] (by decide +kernel) (by decide +kernel)) (goodIn_sub (fun _ h => List.mem_cons_of_mem _ (List.mem_append_right _ h)) (by decide +kernel))
set_option maxRecDepth 20000 in
theorem gX1_clock_X1_checkClock : GoodIn wsX1_clock (wsV RX1 40 RX1 yX1_checkClock wsX1_checkClock) := goodIn_app (goodIn_of _ (by decide +kernel)) ggX1_clock_X1_checkClock
set_option maxRecDepth 20000 in
theorem ggX1_clock_X1_isWithin : GoodIn wsX1_clock wsX1_isWithin := goodIn_r _ [12] (by decide +kernel) (by decide +kernel)
set_option maxRecDepth 20000 in
theorem gX1_clock_X1_isWithin : GoodIn wsX1_clock (va_wsS RX1 43 yX1_isWithin wsX1_isWithin) := goodIn_app (goodIn_of _ (by decide +kernel)) ggX1_clock_X1_isWithin
set_option maxRecDepth 20000 in
theorem ggX1_clock_X0_reading : GoodIn wsX1_clock wsX0_reading := goodIn_r _ [16, 17, 18, 19, 20, 21, 22, 23, 24, 25, 26, 27, 28, 14, 29, 30, 31, 32, 33, 34, 35, 36, 37, 38, 39, 40, 41, 42, 47, 48, 49, 50, 51, 52, 53, 54, 55, 56, 57, 58, 59, 60] (by decide +kernel) (by decide +kernel)
set_option maxRecDepth 20000 in
theorem gX1_clock_X0_reading_n91 : GoodIn wsX1_clock (wsX0_reading) := ggX1_clock_X0_reading
theorem dX1_clock_0 : decode cX1_clock 0 = .ok (.aload_n 0, 1) := by decide +kernel
theorem dX1_clock_1 : decode cX1_clock 1 = .ok (.iload_n 1, 1) := by decide +kernel
theorem dX1_clock_2 : decode cX1_clock 2 = .ok (.invokevirtual 40, 3) := by decide +kernel
theorem dX1_clock_5 : decode cX1_clock 5 = .ok (.iload_n 2, 1) := by decide +kernel
theorem dX1_clock_6 : decode cX1_clock 6 = .ok (.iconst 0, 1) := by decide +kernel
theorem dX1_clock_7 : decode cX1_clock 7 = .ok (.bipush 10, 2) := by decide +kernel
theorem dX1_clock_9 : decode cX1_clock 9 = .ok (.invokestatic 43, 3) := by decide +kernel
theorem dX1_clock_12 : decode cX1_clock 12 = .ok (.ifCond .ne 13, 3) := by decide +kernel
theorem dX1_clock_15 : decode cX1_clock 15 = .ok (.new 86, 3) := by decide +kernel
theorem dX1_clock_18 : decode cX1_clock 18 = .ok (.dup, 1) := by decide +kernel
theorem dX1_clock_19 : decode cX1_clock 19 = .ok (.ldc 88, 2) := by decide +kernel
theorem dX1_clock_21 : decode cX1_clock 21 = .ok (.invokespecial 90, 3) := by decide +kernel
theorem dX1_clock_24 : decode cX1_clock 24 = .ok (.athrow, 1) := by decide +kernel
theorem dX1_clock_25 : decode cX1_clock 25 = .ok (.aload_n 0, 1) := by decide +kernel
theorem dX1_clock_26 : decode cX1_clock 26 = .ok (.getfield 11, 3) := by decide +kernel
theorem dX1_clock_29 : decode cX1_clock 29 = .ok (.iload_n 1, 1) := by decide +kernel
theorem dX1_clock_30 : decode cX1_clock 30 = .ok (.aaload, 1) := by decide +kernel
theorem dX1_clock_31 : decode cX1_clock 31 = .ok (.iload_n 2, 1) := by decide +kernel
theorem dX1_clock_32 : decode cX1_clock 32 = .ok (.invokevirtual 91, 3) := by decide +kernel
theorem dX1_clock_35 : decode cX1_clock 35 = .ok (.ireturn, 1) := by decide +kernel
set_option maxRecDepth 20000 in
theorem ggX1_off_X1_checkClock : GoodIn wsX1_off wsX1_checkClock := goodIn_ca (goodIn_r _ [7, 8, 9, 10, 21, 22, 23, 24] (by decide +kernel) (by decide +kernel)) (goodIn_sub (fun _ h => List.mem_cons_of_mem _ (List.mem_append_right _ h)) (by decide +kernel))
set_option maxRecDepth 20000 in
theorem gX1_off_X1_checkClock : GoodIn wsX1_off (wsV RX1 40 RX1 yX1_checkClock wsX1_checkClock) := goodIn_app (goodIn_of _ (by decide +kernel)) ggX1_off_X1_checkClock
set_option maxRecDepth 20000 in
theorem ggX1_off_X1_offOf : GoodIn wsX1_off wsX1_offOf := goodIn_r _ [13, 14, 15, 6, 16, 17, 18, 19, 20, 25, 26, 27, 28, 29, 30, 31, 32, 33, 34, 35, 36, 37, 38] (by decide +kernel) (by decide +kernel)
set_option maxRecDepth 20000 in
theorem gX1_off_X1_offOf : GoodIn wsX1_off (va_wsS RX1 62 yX1_offOf wsX1_offOf) := goodIn_app (goodIn_of _ (by decide +kernel)) ggX1_off_X1_offOf
theorem dX1_off_0 : decode cX1_off 0 = .ok (.aload_n 0, 1) := by decide +kernel
theorem dX1_off_1 : decode cX1_off 1 = .ok (.iload_n 1, 1) := by decide +kernel
theorem dX1_off_2 : decode cX1_off 2 = .ok (.invokevirtual 40, 3) := by decide +kernel
theorem dX1_off_5 : decode cX1_off 5 = .ok (.aload_n 0, 1) := by decide +kernel
theorem dX1_off_6 : decode cX1_off 6 = .ok (.getfield 11, 3) := by decide +kernel
theorem dX1_off_9 : decode cX1_off 9 = .ok (.iload_n 1, 1) := by decide +kernel
theorem dX1_off_10 : decode cX1_off 10 = .ok (.aaload, 1) := by decide +kernel
theorem dX1_off_11 : decode cX1_off 11 = .ok (.aload_n 0, 1) := by decide +kernel
theorem dX1_off_12 : decode cX1_off 12 = .ok (.getfield 23, 3) := by decide +kernel
theorem dX1_off_15 : decode cX1_off 15 = .ok (.invokestatic 62, 3) := by decide +kernel
theorem dX1_off_18 : decode cX1_off 18 = .ok (.ireturn, 1) := by decide +kernel
set_option maxRecDepth 20000 in
theorem ggX1_count_X1_isWithin : GoodIn wsX1_count wsX1_isWithin := goodIn_r _ [6] (by decide +kernel) (by decide +kernel)
set_option maxRecDepth 20000 in
theorem gX1_count_X1_isWithin : GoodIn wsX1_count (va_wsS RX1 43 yX1_isWithin wsX1_isWithin) := goodIn_app (goodIn_of _ (by decide +kernel)) ggX1_count_X1_isWithin
set_option maxRecDepth 20000 in
theorem ggX1_count_X1_tally : GoodIn wsX1_count wsX1_tally := goodIn_r _ [10, 11, 12, 13, 14, 15, 5, 16, 17, 18, 19, 20, 21, 22, 23, 24, 25, 26, 27, 28, 29, 30, 31, 32, 33, 34, 35, 36, 37, 38, 39, 40, 41, 42, 43, 44, 45, 46, 47, 48, 49, 50, 51, 52, 53, 54, 55, 56, 57, 58, 59, 60, 61, 62, 63, 64, 65, 66, 67, 68, 69, 70, 71, 72, 73, 74, 75, 76, 77, 78, 79, 80, 81, 82, 83, 84, 85, 86, 87] (by decide +kernel) (by decide +kernel)
set_option maxRecDepth 20000 in
theorem gX1_count_X1_tally : GoodIn wsX1_count (wsV RX1 97 RX1 yX1_tally wsX1_tally) := goodIn_app (goodIn_of _ (by decide +kernel)) ggX1_count_X1_tally
theorem dX1_count_0 : decode cX1_count 0 = .ok (.iload_n 1, 1) := by decide +kernel
theorem dX1_count_1 : decode cX1_count 1 = .ok (.iconst 0, 1) := by decide +kernel
theorem dX1_count_2 : decode cX1_count 2 = .ok (.bipush 7, 2) := by decide +kernel
theorem dX1_count_4 : decode cX1_count 4 = .ok (.invokestatic 43, 3) := by decide +kernel
theorem dX1_count_7 : decode cX1_count 7 = .ok (.ifCond .ne 13, 3) := by decide +kernel
theorem dX1_count_10 : decode cX1_count 10 = .ok (.new 86, 3) := by decide +kernel
theorem dX1_count_13 : decode cX1_count 13 = .ok (.dup, 1) := by decide +kernel
theorem dX1_count_14 : decode cX1_count 14 = .ok (.ldc 95, 2) := by decide +kernel
theorem dX1_count_16 : decode cX1_count 16 = .ok (.invokespecial 90, 3) := by decide +kernel
theorem dX1_count_19 : decode cX1_count 19 = .ok (.athrow, 1) := by decide +kernel
theorem dX1_count_20 : decode cX1_count 20 = .ok (.aload_n 0, 1) := by decide +kernel
theorem dX1_count_21 : decode cX1_count 21 = .ok (.iload_n 1, 1) := by decide +kernel
theorem dX1_count_22 : decode cX1_count 22 = .ok (.invokevirtual 97, 3) := by decide +kernel
theorem dX1_count_25 : decode cX1_count 25 = .ok (.ireturn, 1) := by decide +kernel
set_option maxRecDepth 20000 in
theorem ggX1_pass_X1_checkMinutes : GoodIn wsX1_pass wsX1_checkMinutes := goodIn_ca (goodIn_r _ [6, 7, 8, 9, 10, 5, 11] (by decide +kernel) (by decide +kernel)) (goodIn_sub (fun _ h => List.mem_cons_of_mem _ (List.mem_append_right _ h)) (by decide +kernel))
set_option maxRecDepth 20000 in
theorem gX1_pass_X1_checkMinutes : GoodIn wsX1_pass (va_wsS RX1 100 yX1_checkMinutes wsX1_checkMinutes) := goodIn_app (goodIn_of _ (by decide +kernel)) ggX1_pass_X1_checkMinutes
set_option maxRecDepth 20000 in
theorem ggX1_pass_X1_runRow : GoodIn wsX1_pass wsX1_runRow := goodIn_r _ [15, 16, 17, 18, 19, 20, 21, 22, 23, 24, 25, 26, 27, 28, 29, 30, 31, 32, 33, 34, 35, 36, 37, 38, 39, 40, 41, 42, 43, 44, 45, 46, 47, 48, 49, 50, 51, 52, 53, 54, 55, 56, 57, 58, 59, 60, 61, 62, 63, 64, 65, 66, 67, 68, 69, 70, 71, 72, 73, 74, 75, 76, 77, 78, 79, 80, 81, 82, 83] (by decide +kernel) (by decide +kernel)
set_option maxRecDepth 20000 in
theorem gX1_pass_X1_runRow : GoodIn wsX1_pass (wsV RX1 103 RX1 yX1_runRow wsX1_runRow) := goodIn_app (goodIn_of _ (by decide +kernel)) ggX1_pass_X1_runRow
theorem dX1_pass_0 : decode cX1_pass 0 = .ok (.iload_n 1, 1) := by decide +kernel
theorem dX1_pass_1 : decode cX1_pass 1 = .ok (.invokestatic 100, 3) := by decide +kernel
theorem dX1_pass_4 : decode cX1_pass 4 = .ok (.iconst 0, 1) := by decide +kernel
theorem dX1_pass_5 : decode cX1_pass 5 = .ok (.istore_n 2, 1) := by decide +kernel
theorem dX1_pass_6 : decode cX1_pass 6 = .ok (.iconst 0, 1) := by decide +kernel
theorem dX1_pass_7 : decode cX1_pass 7 = .ok (.istore_n 3, 1) := by decide +kernel
theorem dX1_pass_8 : decode cX1_pass 8 = .ok (.iload_n 3, 1) := by decide +kernel
theorem dX1_pass_9 : decode cX1_pass 9 = .ok (.iload_n 1, 1) := by decide +kernel
theorem dX1_pass_10 : decode cX1_pass 10 = .ok (.if_icmp .ge 34, 3) := by decide +kernel
theorem dX1_pass_13 : decode cX1_pass 13 = .ok (.iload_n 2, 1) := by decide +kernel
theorem dX1_pass_14 : decode cX1_pass 14 = .ok (.aload_n 0, 1) := by decide +kernel
theorem dX1_pass_15 : decode cX1_pass 15 = .ok (.aload_n 0, 1) := by decide +kernel
theorem dX1_pass_16 : decode cX1_pass 16 = .ok (.getfield 11, 3) := by decide +kernel
theorem dX1_pass_19 : decode cX1_pass 19 = .ok (.aload_n 0, 1) := by decide +kernel
theorem dX1_pass_20 : decode cX1_pass 20 = .ok (.getfield 23, 3) := by decide +kernel
theorem dX1_pass_23 : decode cX1_pass 23 = .ok (.invokevirtual 103, 3) := by decide +kernel
theorem dX1_pass_26 : decode cX1_pass 26 = .ok (.iadd, 1) := by decide +kernel
theorem dX1_pass_27 : decode cX1_pass 27 = .ok (.istore_n 2, 1) := by decide +kernel
theorem dX1_pass_28 : decode cX1_pass 28 = .ok (.aload_n 0, 1) := by decide +kernel
theorem dX1_pass_29 : decode cX1_pass 29 = .ok (.dup, 1) := by decide +kernel
theorem dX1_pass_30 : decode cX1_pass 30 = .ok (.getfield 23, 3) := by decide +kernel
theorem dX1_pass_33 : decode cX1_pass 33 = .ok (.iconst 1, 1) := by decide +kernel
theorem dX1_pass_34 : decode cX1_pass 34 = .ok (.iadd, 1) := by decide +kernel
theorem dX1_pass_35 : decode cX1_pass 35 = .ok (.putfield 23, 3) := by decide +kernel
theorem dX1_pass_38 : decode cX1_pass 38 = .ok (.iinc 3 1, 3) := by decide +kernel
theorem dX1_pass_41 : decode cX1_pass 41 = .ok (.goto (-33), 3) := by decide +kernel
theorem dX1_pass_44 : decode cX1_pass 44 = .ok (.iload_n 2, 1) := by decide +kernel
theorem dX1_pass_45 : decode cX1_pass 45 = .ok (.ireturn, 1) := by decide +kernel
set_option maxRecDepth 20000 in
theorem ggX1_next_X1_checkClock : GoodIn wsX1_next wsX1_checkClock := goodIn_ca (goodIn_r _ [8, 9, 10, 11, 64, 65, 66, 67] (by decide +kernel) (by decide +kernel)) (goodIn_sub (fun _ h => List.mem_cons_of_mem _ (List.mem_append_right _ h)) (by decide +kernel))
set_option maxRecDepth 20000 in
theorem gX1_next_X1_checkClock : GoodIn wsX1_next (wsV RX1 40 RX1 yX1_checkClock wsX1_checkClock) := goodIn_app (goodIn_of _ (by decide +kernel)) ggX1_next_X1_checkClock
set_option maxRecDepth 20000 in
theorem ggX1_next_X0_copyFrom : GoodIn wsX1_next wsX0_copyFrom := goodIn_r _ [15, 16, 17, 18, 19, 20, 21, 22, 23, 24, 25, 26, 27, 28, 29, 68, 69, 70, 71, 72, 73, 74, 75, 76, 77, 78, 79, 80, 81] (by decide +kernel) (by decide +kernel)
set_option maxRecDepth 20000 in
theorem gX1_next_X0_copyFrom_n107 : GoodIn wsX1_next (wsX0_copyFrom) := ggX1_next_X0_copyFrom
set_option maxRecDepth 20000 in
theorem ggX1_next_X0_runMinute : GoodIn wsX1_next wsX0_runMinute := goodIn_r _ [32, 29, 22, 33, 34, 35, 13, 36, 24, 23, 37, 38, 39, 40, 16, 17, 41, 42, 43, 44, 18, 20, 45, 46, 47, 48, 25, 26, 49, 50, 51, 52, 53, 54, 55, 21, 56, 57, 58, 59, 27, 28, 60, 61, 62, 63, 19, 68, 69, 70, 71, 72, 73, 74, 75, 76, 77, 78, 79, 80, 81] (by decide +kernel) (by decide +kernel)
set_option maxRecDepth 20000 in
theorem gX1_next_X0_runMinute_n111 : GoodIn wsX1_next (wsX0_runMinute) := ggX1_next_X0_runMinute
theorem dX1_next_0 : decode cX1_next 0 = .ok (.aload_n 0, 1) := by decide +kernel
theorem dX1_next_1 : decode cX1_next 1 = .ok (.iload_n 1, 1) := by decide +kernel
theorem dX1_next_2 : decode cX1_next 2 = .ok (.invokevirtual 40, 3) := by decide +kernel
theorem dX1_next_5 : decode cX1_next 5 = .ok (.aload_n 0, 1) := by decide +kernel
theorem dX1_next_6 : decode cX1_next 6 = .ok (.getfield 15, 3) := by decide +kernel
theorem dX1_next_9 : decode cX1_next 9 = .ok (.iload_n 1, 1) := by decide +kernel
theorem dX1_next_10 : decode cX1_next 10 = .ok (.aaload, 1) := by decide +kernel
theorem dX1_next_11 : decode cX1_next 11 = .ok (.astore_n 2, 1) := by decide +kernel
theorem dX1_next_12 : decode cX1_next 12 = .ok (.aload_n 2, 1) := by decide +kernel
theorem dX1_next_13 : decode cX1_next 13 = .ok (.aload_n 0, 1) := by decide +kernel
theorem dX1_next_14 : decode cX1_next 14 = .ok (.getfield 11, 3) := by decide +kernel
theorem dX1_next_17 : decode cX1_next 17 = .ok (.iload_n 1, 1) := by decide +kernel
theorem dX1_next_18 : decode cX1_next 18 = .ok (.aaload, 1) := by decide +kernel
theorem dX1_next_19 : decode cX1_next 19 = .ok (.invokevirtual 107, 3) := by decide +kernel
theorem dX1_next_22 : decode cX1_next 22 = .ok (.iconst 0, 1) := by decide +kernel
theorem dX1_next_23 : decode cX1_next 23 = .ok (.istore_n 3, 1) := by decide +kernel
theorem dX1_next_24 : decode cX1_next 24 = .ok (.iload_n 3, 1) := by decide +kernel
theorem dX1_next_25 : decode cX1_next 25 = .ok (.sipush 720, 3) := by decide +kernel
theorem dX1_next_28 : decode cX1_next 28 = .ok (.if_icmp .ge 30, 3) := by decide +kernel
theorem dX1_next_31 : decode cX1_next 31 = .ok (.aload_n 2, 1) := by decide +kernel
theorem dX1_next_32 : decode cX1_next 32 = .ok (.aload_n 0, 1) := by decide +kernel
theorem dX1_next_33 : decode cX1_next 33 = .ok (.getfield 23, 3) := by decide +kernel
theorem dX1_next_36 : decode cX1_next 36 = .ok (.iload_n 3, 1) := by decide +kernel
theorem dX1_next_37 : decode cX1_next 37 = .ok (.iadd, 1) := by decide +kernel
theorem dX1_next_38 : decode cX1_next 38 = .ok (.invokevirtual 111, 3) := by decide +kernel
theorem dX1_next_41 : decode cX1_next 41 = .ok (.aload_n 2, 1) := by decide +kernel
theorem dX1_next_42 : decode cX1_next 42 = .ok (.getfield 114, 3) := by decide +kernel
theorem dX1_next_45 : decode cX1_next 45 = .ok (.ifCond .le 7, 3) := by decide +kernel
theorem dX1_next_48 : decode cX1_next 48 = .ok (.iload_n 3, 1) := by decide +kernel
theorem dX1_next_49 : decode cX1_next 49 = .ok (.iconst 1, 1) := by decide +kernel
theorem dX1_next_50 : decode cX1_next 50 = .ok (.iadd, 1) := by decide +kernel
theorem dX1_next_51 : decode cX1_next 51 = .ok (.ireturn, 1) := by decide +kernel
theorem dX1_next_52 : decode cX1_next 52 = .ok (.iinc 3 1, 3) := by decide +kernel
theorem dX1_next_55 : decode cX1_next 55 = .ok (.goto (-31), 3) := by decide +kernel
theorem dX1_next_58 : decode cX1_next 58 = .ok (.iconst (-1), 1) := by decide +kernel
theorem dX1_next_59 : decode cX1_next 59 = .ok (.ireturn, 1) := by decide +kernel
set_option maxRecDepth 20000 in
theorem ggX1_stands_X1_checkClock : GoodIn wsX1_stands wsX1_checkClock := goodIn_ca (goodIn_r _ [6, 7, 8, 9, 16, 17, 18, 19] (by decide +kernel) (by decide +kernel)) (goodIn_sub (fun _ h => List.mem_cons_of_mem _ (List.mem_append_right _ h)) (by decide +kernel))
set_option maxRecDepth 20000 in
theorem gX1_stands_X1_checkClock : GoodIn wsX1_stands (wsV RX1 40 RX1 yX1_checkClock wsX1_checkClock) := goodIn_app (goodIn_of _ (by decide +kernel)) ggX1_stands_X1_checkClock
set_option maxRecDepth 20000 in
theorem ggX1_stands_X0_minutesToStand : GoodIn wsX1_stands wsX0_minutesToStand := goodIn_r _ [13, 14, 15, 20, 21, 22, 23, 24, 25, 26, 27, 28, 29, 30, 31, 32, 33] (by decide +kernel) (by decide +kernel)
set_option maxRecDepth 20000 in
theorem gX1_stands_X0_minutesToStand_n117 : GoodIn wsX1_stands (wsX0_minutesToStand) := ggX1_stands_X0_minutesToStand
theorem dX1_stands_0 : decode cX1_stands 0 = .ok (.aload_n 0, 1) := by decide +kernel
theorem dX1_stands_1 : decode cX1_stands 1 = .ok (.iload_n 1, 1) := by decide +kernel
theorem dX1_stands_2 : decode cX1_stands 2 = .ok (.invokevirtual 40, 3) := by decide +kernel
theorem dX1_stands_5 : decode cX1_stands 5 = .ok (.aload_n 0, 1) := by decide +kernel
theorem dX1_stands_6 : decode cX1_stands 6 = .ok (.getfield 11, 3) := by decide +kernel
theorem dX1_stands_9 : decode cX1_stands 9 = .ok (.iload_n 1, 1) := by decide +kernel
theorem dX1_stands_10 : decode cX1_stands 10 = .ok (.aaload, 1) := by decide +kernel
theorem dX1_stands_11 : decode cX1_stands 11 = .ok (.invokevirtual 117, 3) := by decide +kernel
theorem dX1_stands_14 : decode cX1_stands 14 = .ok (.ireturn, 1) := by decide +kernel
set_option maxRecDepth 20000 in
theorem ggX1_loudest_X1_checkMinutes : GoodIn wsX1_loudest wsX1_checkMinutes := goodIn_ca (goodIn_r _ [6, 7, 8, 9, 10, 5, 11] (by decide +kernel) (by decide +kernel)) (goodIn_sub (fun _ h => List.mem_cons_of_mem _ (List.mem_append_right _ h)) (by decide +kernel))
set_option maxRecDepth 20000 in
theorem gX1_loudest_X1_checkMinutes : GoodIn wsX1_loudest (va_wsS RX1 100 yX1_checkMinutes wsX1_checkMinutes) := goodIn_app (goodIn_of _ (by decide +kernel)) ggX1_loudest_X1_checkMinutes
set_option maxRecDepth 20000 in
theorem ggX1_loudest_X1_copyClocks : GoodIn wsX1_loudest wsX1_copyClocks := goodIn_r _ [15, 16, 1, 17, 18, 19, 20, 21, 22, 23, 24, 25, 26, 27, 28, 29, 30, 31, 32, 33, 34, 35, 74, 75, 76, 77, 78, 79, 80, 81, 82, 83, 84, 85, 86, 87, 88, 89, 90, 91] (by decide +kernel) (by decide +kernel)
set_option maxRecDepth 20000 in
theorem gX1_loudest_X1_copyClocks : GoodIn wsX1_loudest (wsV RX1 120 RX1 yX1_copyClocks wsX1_copyClocks) := goodIn_app (goodIn_of _ (by decide +kernel)) ggX1_loudest_X1_copyClocks
set_option maxRecDepth 20000 in
theorem ggX1_loudest_X1_runRow : GoodIn wsX1_loudest wsX1_runRow := goodIn_r _ [39, 16, 40, 19, 41, 42, 35, 28, 43, 44, 45, 46, 30, 29, 47, 48, 49, 50, 22, 23, 51, 52, 53, 54, 24, 26, 55, 56, 57, 58, 31, 32, 59, 60, 61, 62, 63, 64, 65, 27, 66, 67, 68, 69, 33, 34, 70, 71, 72, 73, 25, 74, 75, 76, 77, 78, 79, 80, 81, 82, 83, 84, 85, 86, 87, 88, 89, 90, 91] (by decide +kernel) (by decide +kernel)
set_option maxRecDepth 20000 in
theorem gX1_loudest_X1_runRow : GoodIn wsX1_loudest (wsV RX1 103 RX1 yX1_runRow wsX1_runRow) := goodIn_app (goodIn_of _ (by decide +kernel)) ggX1_loudest_X1_runRow
theorem dX1_loudest_0 : decode cX1_loudest 0 = .ok (.iload_n 1, 1) := by decide +kernel
theorem dX1_loudest_1 : decode cX1_loudest 1 = .ok (.invokestatic 100, 3) := by decide +kernel
theorem dX1_loudest_4 : decode cX1_loudest 4 = .ok (.aload_n 0, 1) := by decide +kernel
theorem dX1_loudest_5 : decode cX1_loudest 5 = .ok (.invokevirtual 120, 3) := by decide +kernel
theorem dX1_loudest_8 : decode cX1_loudest 8 = .ok (.iconst 0, 1) := by decide +kernel
theorem dX1_loudest_9 : decode cX1_loudest 9 = .ok (.istore_n 2, 1) := by decide +kernel
theorem dX1_loudest_10 : decode cX1_loudest 10 = .ok (.iconst (-1), 1) := by decide +kernel
theorem dX1_loudest_11 : decode cX1_loudest 11 = .ok (.istore_n 3, 1) := by decide +kernel
theorem dX1_loudest_12 : decode cX1_loudest 12 = .ok (.iconst 0, 1) := by decide +kernel
theorem dX1_loudest_13 : decode cX1_loudest 13 = .ok (.istore 4, 2) := by decide +kernel
theorem dX1_loudest_15 : decode cX1_loudest 15 = .ok (.iload 4, 2) := by decide +kernel
theorem dX1_loudest_17 : decode cX1_loudest 17 = .ok (.iload_n 1, 1) := by decide +kernel
theorem dX1_loudest_18 : decode cX1_loudest 18 = .ok (.if_icmp .ge 40, 3) := by decide +kernel
theorem dX1_loudest_21 : decode cX1_loudest 21 = .ok (.aload_n 0, 1) := by decide +kernel
theorem dX1_loudest_22 : decode cX1_loudest 22 = .ok (.aload_n 0, 1) := by decide +kernel
theorem dX1_loudest_23 : decode cX1_loudest 23 = .ok (.getfield 15, 3) := by decide +kernel
theorem dX1_loudest_26 : decode cX1_loudest 26 = .ok (.aload_n 0, 1) := by decide +kernel
theorem dX1_loudest_27 : decode cX1_loudest 27 = .ok (.getfield 23, 3) := by decide +kernel
theorem dX1_loudest_30 : decode cX1_loudest 30 = .ok (.iload 4, 2) := by decide +kernel
theorem dX1_loudest_32 : decode cX1_loudest 32 = .ok (.iadd, 1) := by decide +kernel
theorem dX1_loudest_33 : decode cX1_loudest 33 = .ok (.invokevirtual 103, 3) := by decide +kernel
theorem dX1_loudest_36 : decode cX1_loudest 36 = .ok (.istore 5, 2) := by decide +kernel
theorem dX1_loudest_38 : decode cX1_loudest 38 = .ok (.iload 5, 2) := by decide +kernel
theorem dX1_loudest_40 : decode cX1_loudest 40 = .ok (.iload_n 2, 1) := by decide +kernel
theorem dX1_loudest_41 : decode cX1_loudest 41 = .ok (.if_icmp .le 11, 3) := by decide +kernel
theorem dX1_loudest_44 : decode cX1_loudest 44 = .ok (.iload 5, 2) := by decide +kernel
theorem dX1_loudest_46 : decode cX1_loudest 46 = .ok (.istore_n 2, 1) := by decide +kernel
theorem dX1_loudest_47 : decode cX1_loudest 47 = .ok (.iload 4, 2) := by decide +kernel
theorem dX1_loudest_49 : decode cX1_loudest 49 = .ok (.iconst 1, 1) := by decide +kernel
theorem dX1_loudest_50 : decode cX1_loudest 50 = .ok (.iadd, 1) := by decide +kernel
theorem dX1_loudest_51 : decode cX1_loudest 51 = .ok (.istore_n 3, 1) := by decide +kernel
theorem dX1_loudest_52 : decode cX1_loudest 52 = .ok (.iinc 4 1, 3) := by decide +kernel
theorem dX1_loudest_55 : decode cX1_loudest 55 = .ok (.goto (-40), 3) := by decide +kernel
theorem dX1_loudest_58 : decode cX1_loudest 58 = .ok (.iload_n 3, 1) := by decide +kernel
theorem dX1_loudest_59 : decode cX1_loudest 59 = .ok (.ireturn, 1) := by decide +kernel
set_option maxRecDepth 20000 in
theorem ggX1_foresee_X1_checkMinutes : GoodIn wsX1_foresee wsX1_checkMinutes := goodIn_ca (goodIn_r _ [9, 10, 11, 12, 13, 8, 14] (by decide +kernel) (by decide +kernel)) (goodIn_sub (fun _ h => List.mem_cons_of_mem _ (List.mem_append_right _ h)) (by decide +kernel))
set_option maxRecDepth 20000 in
theorem gX1_foresee_X1_checkMinutes : GoodIn wsX1_foresee (va_wsS RX1 100 yX1_checkMinutes wsX1_checkMinutes) := goodIn_app (goodIn_of _ (by decide +kernel)) ggX1_foresee_X1_checkMinutes
set_option maxRecDepth 20000 in
theorem ggX1_foresee_X1_isWithin : GoodIn wsX1_foresee wsX1_isWithin := goodIn_r _ [14] (by decide +kernel) (by decide +kernel)
set_option maxRecDepth 20000 in
theorem gX1_foresee_X1_isWithin : GoodIn wsX1_foresee (va_wsS RX1 43 yX1_isWithin wsX1_isWithin) := goodIn_app (goodIn_of _ (by decide +kernel)) ggX1_foresee_X1_isWithin
set_option maxRecDepth 20000 in
theorem ggX1_foresee_X1_copyClocks : GoodIn wsX1_foresee wsX1_copyClocks := goodIn_r _ [18, 19, 3, 5, 20, 21, 22, 23, 24, 25, 26, 27, 28, 29, 30, 31, 32, 33, 34, 35, 36, 37, 100, 101, 102, 103, 104, 105, 106, 107, 108, 109, 110, 111, 112, 113, 114, 115, 116, 117] (by decide +kernel) (by decide +kernel)
set_option maxRecDepth 20000 in
theorem gX1_foresee_X1_copyClocks : GoodIn wsX1_foresee (wsV RX1 120 RX1 yX1_copyClocks wsX1_copyClocks) := goodIn_app (goodIn_of _ (by decide +kernel)) ggX1_foresee_X1_copyClocks
set_option maxRecDepth 20000 in
theorem ggX1_foresee_X1_runRow : GoodIn wsX1_foresee wsX1_runRow := goodIn_r _ [41, 19, 42, 21, 43, 44, 37, 30, 45, 46, 47, 48, 32, 31, 49, 50, 51, 52, 24, 25, 53, 54, 55, 56, 26, 28, 57, 58, 59, 60, 33, 34, 61, 62, 63, 64, 65, 66, 67, 29, 68, 69, 70, 71, 35, 36, 72, 73, 74, 75, 27, 100, 101, 102, 103, 104, 105, 106, 107, 108, 109, 110, 111, 112, 113, 114, 115, 116, 117] (by decide +kernel) (by decide +kernel)
set_option maxRecDepth 20000 in
theorem gX1_foresee_X1_runRow : GoodIn wsX1_foresee (wsV RX1 103 RX1 yX1_runRow wsX1_runRow) := goodIn_app (goodIn_of _ (by decide +kernel)) ggX1_foresee_X1_runRow
set_option maxRecDepth 20000 in
theorem ggX1_foresee_X1_sumOf : GoodIn wsX1_foresee wsX1_sumOf := goodIn_r _ [79, 19, 80, 21, 81, 82, 31, 32, 27, 28, 29, 30, 35, 36, 37, 49, 50, 51, 52, 24, 25, 53, 54, 55, 56, 26, 57, 58, 59, 60, 33, 34, 100, 101, 102, 103, 104, 105, 106, 107, 108, 109, 110, 111, 112, 113, 114, 115, 116, 117] (by decide +kernel) (by decide +kernel)
set_option maxRecDepth 20000 in
theorem gX1_foresee_X1_sumOf : GoodIn wsX1_foresee (wsV RX1 125 RX1 yX1_sumOf wsX1_sumOf) := goodIn_app (goodIn_of _ (by decide +kernel)) ggX1_foresee_X1_sumOf
set_option maxRecDepth 20000 in
theorem ggX1_foresee_X1_offOfAll : GoodIn wsX1_foresee wsX1_offOfAll := goodIn_r _ [86, 19, 87, 88, 70, 89, 90, 91, 8, 92, 93, 94, 95, 96, 97, 98, 99, 100, 101, 102, 103, 104, 105, 106, 107, 108, 109, 110, 111, 112, 113, 114, 115, 116, 117] (by decide +kernel) (by decide +kernel)
set_option maxRecDepth 20000 in
theorem gX1_foresee_X1_offOfAll : GoodIn wsX1_foresee (wsV RX1 128 RX1 yX1_offOfAll wsX1_offOfAll) := goodIn_app (goodIn_of _ (by decide +kernel)) ggX1_foresee_X1_offOfAll
theorem dX1_foresee_0 : decode cX1_foresee 0 = .ok (.iload_n 1, 1) := by decide +kernel
theorem dX1_foresee_1 : decode cX1_foresee 1 = .ok (.invokestatic 100, 3) := by decide +kernel
theorem dX1_foresee_4 : decode cX1_foresee 4 = .ok (.iload_n 2, 1) := by decide +kernel
theorem dX1_foresee_5 : decode cX1_foresee 5 = .ok (.iconst 0, 1) := by decide +kernel
theorem dX1_foresee_6 : decode cX1_foresee 6 = .ok (.iconst 3, 1) := by decide +kernel
theorem dX1_foresee_7 : decode cX1_foresee 7 = .ok (.invokestatic 43, 3) := by decide +kernel
theorem dX1_foresee_10 : decode cX1_foresee 10 = .ok (.ifCond .ne 13, 3) := by decide +kernel
theorem dX1_foresee_13 : decode cX1_foresee 13 = .ok (.new 86, 3) := by decide +kernel
theorem dX1_foresee_16 : decode cX1_foresee 16 = .ok (.dup, 1) := by decide +kernel
theorem dX1_foresee_17 : decode cX1_foresee 17 = .ok (.ldc 123, 2) := by decide +kernel
theorem dX1_foresee_19 : decode cX1_foresee 19 = .ok (.invokespecial 90, 3) := by decide +kernel
theorem dX1_foresee_22 : decode cX1_foresee 22 = .ok (.athrow, 1) := by decide +kernel
theorem dX1_foresee_23 : decode cX1_foresee 23 = .ok (.aload_n 0, 1) := by decide +kernel
theorem dX1_foresee_24 : decode cX1_foresee 24 = .ok (.invokevirtual 120, 3) := by decide +kernel
theorem dX1_foresee_27 : decode cX1_foresee 27 = .ok (.iconst 0, 1) := by decide +kernel
theorem dX1_foresee_28 : decode cX1_foresee 28 = .ok (.istore_n 3, 1) := by decide +kernel
theorem dX1_foresee_29 : decode cX1_foresee 29 = .ok (.iconst 0, 1) := by decide +kernel
theorem dX1_foresee_30 : decode cX1_foresee 30 = .ok (.istore 4, 2) := by decide +kernel
theorem dX1_foresee_32 : decode cX1_foresee 32 = .ok (.iload 4, 2) := by decide +kernel
theorem dX1_foresee_34 : decode cX1_foresee 34 = .ok (.iload_n 1, 1) := by decide +kernel
theorem dX1_foresee_35 : decode cX1_foresee 35 = .ok (.if_icmp .ge 27, 3) := by decide +kernel
theorem dX1_foresee_38 : decode cX1_foresee 38 = .ok (.iload_n 3, 1) := by decide +kernel
theorem dX1_foresee_39 : decode cX1_foresee 39 = .ok (.aload_n 0, 1) := by decide +kernel
theorem dX1_foresee_40 : decode cX1_foresee 40 = .ok (.aload_n 0, 1) := by decide +kernel
theorem dX1_foresee_41 : decode cX1_foresee 41 = .ok (.getfield 15, 3) := by decide +kernel
theorem dX1_foresee_44 : decode cX1_foresee 44 = .ok (.aload_n 0, 1) := by decide +kernel
theorem dX1_foresee_45 : decode cX1_foresee 45 = .ok (.getfield 23, 3) := by decide +kernel
theorem dX1_foresee_48 : decode cX1_foresee 48 = .ok (.iload 4, 2) := by decide +kernel
theorem dX1_foresee_50 : decode cX1_foresee 50 = .ok (.iadd, 1) := by decide +kernel
theorem dX1_foresee_51 : decode cX1_foresee 51 = .ok (.invokevirtual 103, 3) := by decide +kernel
theorem dX1_foresee_54 : decode cX1_foresee 54 = .ok (.iadd, 1) := by decide +kernel
theorem dX1_foresee_55 : decode cX1_foresee 55 = .ok (.istore_n 3, 1) := by decide +kernel
theorem dX1_foresee_56 : decode cX1_foresee 56 = .ok (.iinc 4 1, 3) := by decide +kernel
theorem dX1_foresee_59 : decode cX1_foresee 59 = .ok (.goto (-27), 3) := by decide +kernel
theorem dX1_foresee_62 : decode cX1_foresee 62 = .ok (.iload_n 2, 1) := by decide +kernel
theorem dX1_foresee_63 : decode cX1_foresee 63 = .ok (.tableswitch 59 0 2 #[25, 27, 49], 25) := by decide +kernel
theorem dX1_foresee_88 : decode cX1_foresee 88 = .ok (.iload_n 3, 1) := by decide +kernel
theorem dX1_foresee_89 : decode cX1_foresee 89 = .ok (.ireturn, 1) := by decide +kernel
theorem dX1_foresee_90 : decode cX1_foresee 90 = .ok (.aload_n 0, 1) := by decide +kernel
theorem dX1_foresee_91 : decode cX1_foresee 91 = .ok (.aload_n 0, 1) := by decide +kernel
theorem dX1_foresee_92 : decode cX1_foresee 92 = .ok (.getfield 15, 3) := by decide +kernel
theorem dX1_foresee_95 : decode cX1_foresee 95 = .ok (.bipush 8, 2) := by decide +kernel
theorem dX1_foresee_97 : decode cX1_foresee 97 = .ok (.invokevirtual 125, 3) := by decide +kernel
theorem dX1_foresee_100 : decode cX1_foresee 100 = .ok (.aload_n 0, 1) := by decide +kernel
theorem dX1_foresee_101 : decode cX1_foresee 101 = .ok (.aload_n 0, 1) := by decide +kernel
theorem dX1_foresee_102 : decode cX1_foresee 102 = .ok (.getfield 11, 3) := by decide +kernel
theorem dX1_foresee_105 : decode cX1_foresee 105 = .ok (.bipush 8, 2) := by decide +kernel
theorem dX1_foresee_107 : decode cX1_foresee 107 = .ok (.invokevirtual 125, 3) := by decide +kernel
theorem dX1_foresee_110 : decode cX1_foresee 110 = .ok (.isub, 1) := by decide +kernel
theorem dX1_foresee_111 : decode cX1_foresee 111 = .ok (.ireturn, 1) := by decide +kernel
theorem dX1_foresee_112 : decode cX1_foresee 112 = .ok (.aload_n 0, 1) := by decide +kernel
theorem dX1_foresee_113 : decode cX1_foresee 113 = .ok (.aload_n 0, 1) := by decide +kernel
theorem dX1_foresee_114 : decode cX1_foresee 114 = .ok (.getfield 15, 3) := by decide +kernel
theorem dX1_foresee_117 : decode cX1_foresee 117 = .ok (.iconst 5, 1) := by decide +kernel
theorem dX1_foresee_118 : decode cX1_foresee 118 = .ok (.invokevirtual 125, 3) := by decide +kernel
theorem dX1_foresee_121 : decode cX1_foresee 121 = .ok (.ireturn, 1) := by decide +kernel
theorem dX1_foresee_122 : decode cX1_foresee 122 = .ok (.aload_n 0, 1) := by decide +kernel
theorem dX1_foresee_123 : decode cX1_foresee 123 = .ok (.aload_n 0, 1) := by decide +kernel
theorem dX1_foresee_124 : decode cX1_foresee 124 = .ok (.getfield 15, 3) := by decide +kernel
theorem dX1_foresee_127 : decode cX1_foresee 127 = .ok (.aload_n 0, 1) := by decide +kernel
theorem dX1_foresee_128 : decode cX1_foresee 128 = .ok (.getfield 23, 3) := by decide +kernel
theorem dX1_foresee_131 : decode cX1_foresee 131 = .ok (.iload_n 1, 1) := by decide +kernel
theorem dX1_foresee_132 : decode cX1_foresee 132 = .ok (.iadd, 1) := by decide +kernel
theorem dX1_foresee_133 : decode cX1_foresee 133 = .ok (.invokevirtual 128, 3) := by decide +kernel
theorem dX1_foresee_136 : decode cX1_foresee 136 = .ok (.ireturn, 1) := by decide +kernel
set_option maxRecDepth 20000 in
theorem ggX1_advise_X1_checkClock : GoodIn wsX1_advise wsX1_checkClock := goodIn_ca (goodIn_r _ [6, 7, 8, 9, 25, 26, 27, 28] (by decide +kernel) (by decide +kernel)) (goodIn_sub (fun _ h => List.mem_cons_of_mem _ (List.mem_append_right _ h)) (by decide +kernel))
set_option maxRecDepth 20000 in
theorem gX1_advise_X1_checkClock : GoodIn wsX1_advise (wsV RX1 40 RX1 yX1_checkClock wsX1_checkClock) := goodIn_app (goodIn_of _ (by decide +kernel)) ggX1_advise_X1_checkClock
set_option maxRecDepth 20000 in
theorem ggX1_advise_X0_truestGears : GoodIn wsX1_advise wsX0_truestGears := goodIn_r _ [13, 14, 15, 16, 17, 18, 19, 20, 21, 11, 22, 23, 24, 29, 30, 31, 32, 33, 34, 35, 36, 37, 38, 39, 40, 41, 42] (by decide +kernel) (by decide +kernel)
set_option maxRecDepth 20000 in
theorem gX1_advise_X0_truestGears_n131 : GoodIn wsX1_advise (wsX0_truestGears) := ggX1_advise_X0_truestGears
theorem dX1_advise_0 : decode cX1_advise 0 = .ok (.aload_n 0, 1) := by decide +kernel
theorem dX1_advise_1 : decode cX1_advise 1 = .ok (.iload_n 1, 1) := by decide +kernel
theorem dX1_advise_2 : decode cX1_advise 2 = .ok (.invokevirtual 40, 3) := by decide +kernel
theorem dX1_advise_5 : decode cX1_advise 5 = .ok (.aload_n 0, 1) := by decide +kernel
theorem dX1_advise_6 : decode cX1_advise 6 = .ok (.getfield 11, 3) := by decide +kernel
theorem dX1_advise_9 : decode cX1_advise 9 = .ok (.iload_n 1, 1) := by decide +kernel
theorem dX1_advise_10 : decode cX1_advise 10 = .ok (.aaload, 1) := by decide +kernel
theorem dX1_advise_11 : decode cX1_advise 11 = .ok (.invokevirtual 131, 3) := by decide +kernel
theorem dX1_advise_14 : decode cX1_advise 14 = .ok (.ireturn, 1) := by decide +kernel
set_option maxRecDepth 20000 in
theorem ggX1_mean_X0_advance : GoodIn wsX1_mean wsX0_advance := goodIn_r _ [6, 7, 8, 9, 10, 11, 4, 12, 13, 14, 19, 20, 21, 22, 23, 24, 25, 26, 27, 28, 29, 30, 31, 32] (by decide +kernel) (by decide +kernel)
set_option maxRecDepth 20000 in
theorem gX1_mean_X0_advance_n58 : GoodIn wsX1_mean (wsX0_advance) := ggX1_mean_X0_advance
theorem dX1_mean_0 : decode cX1_mean 0 = .ok (.iconst 0, 1) := by decide +kernel
theorem dX1_mean_1 : decode cX1_mean 1 = .ok (.istore_n 1, 1) := by decide +kernel
theorem dX1_mean_2 : decode cX1_mean 2 = .ok (.iconst 0, 1) := by decide +kernel
theorem dX1_mean_3 : decode cX1_mean 3 = .ok (.istore_n 2, 1) := by decide +kernel
theorem dX1_mean_4 : decode cX1_mean 4 = .ok (.iconst 0, 1) := by decide +kernel
theorem dX1_mean_5 : decode cX1_mean 5 = .ok (.istore_n 3, 1) := by decide +kernel
theorem dX1_mean_6 : decode cX1_mean 6 = .ok (.iload_n 3, 1) := by decide +kernel
theorem dX1_mean_7 : decode cX1_mean 7 = .ok (.aload_n 0, 1) := by decide +kernel
theorem dX1_mean_8 : decode cX1_mean 8 = .ok (.getfield 19, 3) := by decide +kernel
theorem dX1_mean_11 : decode cX1_mean 11 = .ok (.if_icmp .ge 36, 3) := by decide +kernel
theorem dX1_mean_14 : decode cX1_mean 14 = .ok (.aload_n 0, 1) := by decide +kernel
theorem dX1_mean_15 : decode cX1_mean 15 = .ok (.getfield 11, 3) := by decide +kernel
theorem dX1_mean_18 : decode cX1_mean 18 = .ok (.iload_n 3, 1) := by decide +kernel
theorem dX1_mean_19 : decode cX1_mean 19 = .ok (.aaload, 1) := by decide +kernel
theorem dX1_mean_20 : decode cX1_mean 20 = .ok (.getfield 134, 3) := by decide +kernel
theorem dX1_mean_23 : decode cX1_mean 23 = .ok (.ifCond .eq 18, 3) := by decide +kernel
theorem dX1_mean_26 : decode cX1_mean 26 = .ok (.iinc 1 1, 3) := by decide +kernel
theorem dX1_mean_29 : decode cX1_mean 29 = .ok (.iload_n 2, 1) := by decide +kernel
theorem dX1_mean_30 : decode cX1_mean 30 = .ok (.aload_n 0, 1) := by decide +kernel
theorem dX1_mean_31 : decode cX1_mean 31 = .ok (.getfield 11, 3) := by decide +kernel
theorem dX1_mean_34 : decode cX1_mean 34 = .ok (.iload_n 3, 1) := by decide +kernel
theorem dX1_mean_35 : decode cX1_mean 35 = .ok (.aaload, 1) := by decide +kernel
theorem dX1_mean_36 : decode cX1_mean 36 = .ok (.invokevirtual 58, 3) := by decide +kernel
theorem dX1_mean_39 : decode cX1_mean 39 = .ok (.iadd, 1) := by decide +kernel
theorem dX1_mean_40 : decode cX1_mean 40 = .ok (.istore_n 2, 1) := by decide +kernel
theorem dX1_mean_41 : decode cX1_mean 41 = .ok (.iinc 3 1, 3) := by decide +kernel
theorem dX1_mean_44 : decode cX1_mean 44 = .ok (.goto (-38), 3) := by decide +kernel
theorem dX1_mean_47 : decode cX1_mean 47 = .ok (.iload_n 1, 1) := by decide +kernel
theorem dX1_mean_48 : decode cX1_mean 48 = .ok (.ifCond .ne 5, 3) := by decide +kernel
theorem dX1_mean_51 : decode cX1_mean 51 = .ok (.dconst 0, 1) := by decide +kernel
theorem dX1_mean_52 : decode cX1_mean 52 = .ok (.dreturn, 1) := by decide +kernel
theorem dX1_mean_53 : decode cX1_mean 53 = .ok (.iload_n 2, 1) := by decide +kernel
theorem dX1_mean_54 : decode cX1_mean 54 = .ok (.i2d, 1) := by decide +kernel
theorem dX1_mean_55 : decode cX1_mean 55 = .ok (.iload_n 1, 1) := by decide +kernel
theorem dX1_mean_56 : decode cX1_mean 56 = .ok (.i2d, 1) := by decide +kernel
theorem dX1_mean_57 : decode cX1_mean 57 = .ok (.ddiv, 1) := by decide +kernel
theorem dX1_mean_58 : decode cX1_mean 58 = .ok (.dreturn, 1) := by decide +kernel
set_option maxRecDepth 20000 in
theorem ggX1_digest_X1_tally : GoodIn wsX1_digest wsX1_tally := goodIn_r _ [9, 10, 3, 4, 11, 12, 8, 13, 14, 15, 16, 17, 18, 19, 20, 21, 22, 23, 24, 25, 26, 27, 28, 29, 30, 31, 32, 33, 34, 35, 36, 37, 38, 39, 40, 41, 42, 43, 44, 45, 46, 47, 48, 49, 50, 51, 52, 53, 54, 55, 56, 57, 58, 59, 60, 61, 62, 63, 64, 65, 66, 72, 73, 74, 75, 76, 77, 78, 79, 80, 81, 82, 83, 84, 85, 86, 87, 88, 89] (by decide +kernel) (by decide +kernel)
set_option maxRecDepth 20000 in
theorem gX1_digest_X1_tally : GoodIn wsX1_digest (wsV RX1 97 RX1 yX1_tally wsX1_tally) := goodIn_app (goodIn_of _ (by decide +kernel)) ggX1_digest_X1_tally
set_option maxRecDepth 20000 in
theorem ggX1_digest_X0_mixInto : GoodIn wsX1_digest wsX0_mixInto := goodIn_r _ [69, 70, 39, 40, 45, 50, 51, 71, 22, 24, 23, 25, 26, 27, 28, 29, 30, 31, 32, 33, 34, 35, 36, 37, 38, 41, 42, 43, 44, 46, 47, 48, 49, 76, 77, 78, 79, 80, 81, 82, 83, 84, 85, 86, 87, 88, 89] (by decide +kernel) (by decide +kernel)
set_option maxRecDepth 20000 in
theorem gX1_digest_X0_mixInto_n142 : GoodIn wsX1_digest (wsX0_mixInto) := ggX1_digest_X0_mixInto
theorem dX1_digest_0 : decode cX1_digest 0 = .ok (.ldc2_w 138, 3) := by decide +kernel
theorem dX1_digest_3 : decode cX1_digest 3 = .ok (.lstore_n 1, 1) := by decide +kernel
theorem dX1_digest_4 : decode cX1_digest 4 = .ok (.iconst 0, 1) := by decide +kernel
theorem dX1_digest_5 : decode cX1_digest 5 = .ok (.istore_n 3, 1) := by decide +kernel
theorem dX1_digest_6 : decode cX1_digest 6 = .ok (.iload_n 3, 1) := by decide +kernel
theorem dX1_digest_7 : decode cX1_digest 7 = .ok (.bipush 8, 2) := by decide +kernel
theorem dX1_digest_9 : decode cX1_digest 9 = .ok (.if_icmp .ge 22, 3) := by decide +kernel
theorem dX1_digest_12 : decode cX1_digest 12 = .ok (.lload_n 1, 1) := by decide +kernel
theorem dX1_digest_13 : decode cX1_digest 13 = .ok (.ldc2_w 140, 3) := by decide +kernel
theorem dX1_digest_16 : decode cX1_digest 16 = .ok (.lmul, 1) := by decide +kernel
theorem dX1_digest_17 : decode cX1_digest 17 = .ok (.aload_n 0, 1) := by decide +kernel
theorem dX1_digest_18 : decode cX1_digest 18 = .ok (.iload_n 3, 1) := by decide +kernel
theorem dX1_digest_19 : decode cX1_digest 19 = .ok (.invokevirtual 97, 3) := by decide +kernel
theorem dX1_digest_22 : decode cX1_digest 22 = .ok (.i2l, 1) := by decide +kernel
theorem dX1_digest_23 : decode cX1_digest 23 = .ok (.ladd, 1) := by decide +kernel
theorem dX1_digest_24 : decode cX1_digest 24 = .ok (.lstore_n 1, 1) := by decide +kernel
theorem dX1_digest_25 : decode cX1_digest 25 = .ok (.iinc 3 1, 3) := by decide +kernel
theorem dX1_digest_28 : decode cX1_digest 28 = .ok (.goto (-22), 3) := by decide +kernel
theorem dX1_digest_31 : decode cX1_digest 31 = .ok (.iconst 0, 1) := by decide +kernel
theorem dX1_digest_32 : decode cX1_digest 32 = .ok (.istore_n 3, 1) := by decide +kernel
theorem dX1_digest_33 : decode cX1_digest 33 = .ok (.iload_n 3, 1) := by decide +kernel
theorem dX1_digest_34 : decode cX1_digest 34 = .ok (.aload_n 0, 1) := by decide +kernel
theorem dX1_digest_35 : decode cX1_digest 35 = .ok (.getfield 19, 3) := by decide +kernel
theorem dX1_digest_38 : decode cX1_digest 38 = .ok (.if_icmp .ge 20, 3) := by decide +kernel
theorem dX1_digest_41 : decode cX1_digest 41 = .ok (.aload_n 0, 1) := by decide +kernel
theorem dX1_digest_42 : decode cX1_digest 42 = .ok (.getfield 11, 3) := by decide +kernel
theorem dX1_digest_45 : decode cX1_digest 45 = .ok (.iload_n 3, 1) := by decide +kernel
theorem dX1_digest_46 : decode cX1_digest 46 = .ok (.aaload, 1) := by decide +kernel
theorem dX1_digest_47 : decode cX1_digest 47 = .ok (.lload_n 1, 1) := by decide +kernel
theorem dX1_digest_48 : decode cX1_digest 48 = .ok (.invokevirtual 142, 3) := by decide +kernel
theorem dX1_digest_51 : decode cX1_digest 51 = .ok (.lstore_n 1, 1) := by decide +kernel
theorem dX1_digest_52 : decode cX1_digest 52 = .ok (.iinc 3 1, 3) := by decide +kernel
theorem dX1_digest_55 : decode cX1_digest 55 = .ok (.goto (-22), 3) := by decide +kernel
theorem dX1_digest_58 : decode cX1_digest 58 = .ok (.lload_n 1, 1) := by decide +kernel
theorem dX1_digest_59 : decode cX1_digest 59 = .ok (.lreturn, 1) := by decide +kernel
theorem dX1_checkClock_0 : decode cX1_checkClock 0 = .ok (.iload_n 1, 1) := by decide +kernel
theorem dX1_checkClock_1 : decode cX1_checkClock 1 = .ok (.ifCond .lt 11, 3) := by decide +kernel
theorem dX1_checkClock_4 : decode cX1_checkClock 4 = .ok (.iload_n 1, 1) := by decide +kernel
theorem dX1_checkClock_5 : decode cX1_checkClock 5 = .ok (.aload_n 0, 1) := by decide +kernel
theorem dX1_checkClock_6 : decode cX1_checkClock 6 = .ok (.getfield 19, 3) := by decide +kernel
theorem dX1_checkClock_9 : decode cX1_checkClock 9 = .ok (.if_icmp .lt 13, 3) := by decide +kernel
theorem dX1_checkClock_12 : decode cX1_checkClock 12 = .ok (.new 86, 3) := by decide +kernel
theorem dX1_checkClock_15 : decode cX1_checkClock 15 = .ok (.dup, 1) := by decide +kernel
theorem dX1_checkClock_16 : decode cX1_checkClock 16 = .ok (.ldc 146, 2) := by decide +kernel
theorem dX1_checkClock_18 : decode cX1_checkClock 18 = .ok (.invokespecial 90, 3) := by decide +kernel
theorem dX1_checkClock_21 : decode cX1_checkClock 21 = .ok (.athrow, 1) := by decide +kernel
theorem dX1_checkClock_22 : decode cX1_checkClock 22 = .ok (.return_, 1) := by decide +kernel
set_option maxRecDepth 20000 in
theorem ggX1_checkTime_X1_isWithin : GoodIn wsX1_checkTime wsX1_isWithin := goodIn_r _ [6] (by decide +kernel) (by decide +kernel)
set_option maxRecDepth 20000 in
theorem gX1_checkTime_X1_isWithin : GoodIn wsX1_checkTime (va_wsS RX1 43 yX1_isWithin wsX1_isWithin) := goodIn_app (goodIn_of _ (by decide +kernel)) ggX1_checkTime_X1_isWithin
theorem dX1_checkTime_0 : decode cX1_checkTime 0 = .ok (.iload_n 0, 1) := by decide +kernel
theorem dX1_checkTime_1 : decode cX1_checkTime 1 = .ok (.iconst 0, 1) := by decide +kernel
theorem dX1_checkTime_2 : decode cX1_checkTime 2 = .ok (.sipush 719, 3) := by decide +kernel
theorem dX1_checkTime_5 : decode cX1_checkTime 5 = .ok (.invokestatic 43, 3) := by decide +kernel
theorem dX1_checkTime_8 : decode cX1_checkTime 8 = .ok (.ifCond .ne 13, 3) := by decide +kernel
theorem dX1_checkTime_11 : decode cX1_checkTime 11 = .ok (.new 47, 3) := by decide +kernel
theorem dX1_checkTime_14 : decode cX1_checkTime 14 = .ok (.dup, 1) := by decide +kernel
theorem dX1_checkTime_15 : decode cX1_checkTime 15 = .ok (.ldc 148, 2) := by decide +kernel
theorem dX1_checkTime_17 : decode cX1_checkTime 17 = .ok (.invokespecial 51, 3) := by decide +kernel
theorem dX1_checkTime_20 : decode cX1_checkTime 20 = .ok (.athrow, 1) := by decide +kernel
theorem dX1_checkTime_21 : decode cX1_checkTime 21 = .ok (.return_, 1) := by decide +kernel
set_option maxRecDepth 20000 in
theorem ggX1_checkMinutes_X1_isWithin : GoodIn wsX1_checkMinutes wsX1_isWithin := goodIn_r _ [6] (by decide +kernel) (by decide +kernel)
set_option maxRecDepth 20000 in
theorem gX1_checkMinutes_X1_isWithin : GoodIn wsX1_checkMinutes (va_wsS RX1 43 yX1_isWithin wsX1_isWithin) := goodIn_app (goodIn_of _ (by decide +kernel)) ggX1_checkMinutes_X1_isWithin
theorem dX1_checkMinutes_0 : decode cX1_checkMinutes 0 = .ok (.iload_n 0, 1) := by decide +kernel
theorem dX1_checkMinutes_1 : decode cX1_checkMinutes 1 = .ok (.iconst 1, 1) := by decide +kernel
theorem dX1_checkMinutes_2 : decode cX1_checkMinutes 2 = .ok (.sipush 720, 3) := by decide +kernel
theorem dX1_checkMinutes_5 : decode cX1_checkMinutes 5 = .ok (.invokestatic 43, 3) := by decide +kernel
theorem dX1_checkMinutes_8 : decode cX1_checkMinutes 8 = .ok (.ifCond .ne 13, 3) := by decide +kernel
theorem dX1_checkMinutes_11 : decode cX1_checkMinutes 11 = .ok (.new 47, 3) := by decide +kernel
theorem dX1_checkMinutes_14 : decode cX1_checkMinutes 14 = .ok (.dup, 1) := by decide +kernel
theorem dX1_checkMinutes_15 : decode cX1_checkMinutes 15 = .ok (.ldc 150, 2) := by decide +kernel
theorem dX1_checkMinutes_17 : decode cX1_checkMinutes 17 = .ok (.invokespecial 51, 3) := by decide +kernel
theorem dX1_checkMinutes_20 : decode cX1_checkMinutes 20 = .ok (.athrow, 1) := by decide +kernel
theorem dX1_checkMinutes_21 : decode cX1_checkMinutes 21 = .ok (.return_, 1) := by decide +kernel
theorem dX1_isWithin_0 : decode cX1_isWithin 0 = .ok (.iload_n 0, 1) := by decide +kernel
theorem dX1_isWithin_1 : decode cX1_isWithin 1 = .ok (.iload_n 1, 1) := by decide +kernel
theorem dX1_isWithin_2 : decode cX1_isWithin 2 = .ok (.if_icmp .lt 12, 3) := by decide +kernel
theorem dX1_isWithin_5 : decode cX1_isWithin 5 = .ok (.iload_n 0, 1) := by decide +kernel
theorem dX1_isWithin_6 : decode cX1_isWithin 6 = .ok (.iload_n 2, 1) := by decide +kernel
theorem dX1_isWithin_7 : decode cX1_isWithin 7 = .ok (.if_icmp .gt 7, 3) := by decide +kernel
theorem dX1_isWithin_10 : decode cX1_isWithin 10 = .ok (.iconst 1, 1) := by decide +kernel
theorem dX1_isWithin_11 : decode cX1_isWithin 11 = .ok (.goto 4, 3) := by decide +kernel
theorem dX1_isWithin_14 : decode cX1_isWithin 14 = .ok (.iconst 0, 1) := by decide +kernel
theorem dX1_isWithin_15 : decode cX1_isWithin 15 = .ok (.ireturn, 1) := by decide +kernel
set_option maxRecDepth 20000 in
theorem ggX1_trueTime_J9_floorMod_7cf53 : GoodIn wsX1_trueTime wsJ9_floorMod_7cf53 := goodIn_r _ [4] (by decide +kernel) (by decide +kernel)
set_option maxRecDepth 20000 in
theorem gX1_trueTime_J9_floorMod_7cf53 : GoodIn wsX1_trueTime (va_wsS RX1 152 yJ9_floorMod_7cf53 wsJ9_floorMod_7cf53) := goodIn_app (goodIn_of _ (by decide +kernel)) ggX1_trueTime_J9_floorMod_7cf53
theorem dX1_trueTime_0 : decode cX1_trueTime 0 = .ok (.iload_n 0, 1) := by decide +kernel
theorem dX1_trueTime_1 : decode cX1_trueTime 1 = .ok (.sipush 720, 3) := by decide +kernel
theorem dX1_trueTime_4 : decode cX1_trueTime 4 = .ok (.invokestatic 152, 3) := by decide +kernel
theorem dX1_trueTime_7 : decode cX1_trueTime 7 = .ok (.ireturn, 1) := by decide +kernel
set_option maxRecDepth 20000 in
theorem ggX1_offOf_X1_trueTime : GoodIn wsX1_offOf wsX1_trueTime := goodIn_r _ [4, 5, 6, 7, 8] (by decide +kernel) (by decide +kernel)
set_option maxRecDepth 20000 in
theorem gX1_offOf_X1_trueTime : GoodIn wsX1_offOf (va_wsS RX1 160 yX1_trueTime wsX1_trueTime) := goodIn_app (goodIn_of _ (by decide +kernel)) ggX1_offOf_X1_trueTime
set_option maxRecDepth 20000 in
theorem ggX1_offOf_J9_floorMod_7cf53 : GoodIn wsX1_offOf wsJ9_floorMod_7cf53 := goodIn_r _ [8] (by decide +kernel) (by decide +kernel)
set_option maxRecDepth 20000 in
theorem gX1_offOf_J9_floorMod_7cf53 : GoodIn wsX1_offOf (va_wsS RX1 152 yJ9_floorMod_7cf53 wsJ9_floorMod_7cf53) := goodIn_app (goodIn_of _ (by decide +kernel)) ggX1_offOf_J9_floorMod_7cf53
theorem dX1_offOf_0 : decode cX1_offOf 0 = .ok (.aload_n 0, 1) := by decide +kernel
theorem dX1_offOf_1 : decode cX1_offOf 1 = .ok (.getfield 157, 3) := by decide +kernel
theorem dX1_offOf_4 : decode cX1_offOf 4 = .ok (.iload_n 1, 1) := by decide +kernel
theorem dX1_offOf_5 : decode cX1_offOf 5 = .ok (.invokestatic 160, 3) := by decide +kernel
theorem dX1_offOf_8 : decode cX1_offOf 8 = .ok (.isub, 1) := by decide +kernel
theorem dX1_offOf_9 : decode cX1_offOf 9 = .ok (.istore_n 2, 1) := by decide +kernel
theorem dX1_offOf_10 : decode cX1_offOf 10 = .ok (.iload_n 2, 1) := by decide +kernel
theorem dX1_offOf_11 : decode cX1_offOf 11 = .ok (.sipush 360, 3) := by decide +kernel
theorem dX1_offOf_14 : decode cX1_offOf 14 = .ok (.iadd, 1) := by decide +kernel
theorem dX1_offOf_15 : decode cX1_offOf 15 = .ok (.sipush 720, 3) := by decide +kernel
theorem dX1_offOf_18 : decode cX1_offOf 18 = .ok (.invokestatic 152, 3) := by decide +kernel
theorem dX1_offOf_21 : decode cX1_offOf 21 = .ok (.sipush 360, 3) := by decide +kernel
theorem dX1_offOf_24 : decode cX1_offOf 24 = .ok (.isub, 1) := by decide +kernel
theorem dX1_offOf_25 : decode cX1_offOf 25 = .ok (.ireturn, 1) := by decide +kernel
set_option maxRecDepth 20000 in
theorem ggX1_runRow_X0_runMinute : GoodIn wsX1_runRow wsX0_runMinute := goodIn_r _ [5, 6, 7, 8, 9, 10, 3, 11, 12, 13, 14, 15, 16, 17, 18, 19, 20, 21, 22, 23, 24, 25, 26, 27, 28, 29, 30, 31, 32, 33, 34, 35, 36, 37, 38, 39, 40, 41, 42, 43, 44, 45, 46, 47, 48, 49, 50, 55, 56, 57, 58, 59, 60, 61, 62, 63, 64, 65, 66, 67, 68] (by decide +kernel) (by decide +kernel)
set_option maxRecDepth 20000 in
theorem gX1_runRow_X0_runMinute_n111 : GoodIn wsX1_runRow (wsX0_runMinute) := ggX1_runRow_X0_runMinute
theorem dX1_runRow_0 : decode cX1_runRow 0 = .ok (.iconst 0, 1) := by decide +kernel
theorem dX1_runRow_1 : decode cX1_runRow 1 = .ok (.istore_n 3, 1) := by decide +kernel
theorem dX1_runRow_2 : decode cX1_runRow 2 = .ok (.iconst 0, 1) := by decide +kernel
theorem dX1_runRow_3 : decode cX1_runRow 3 = .ok (.istore 4, 2) := by decide +kernel
theorem dX1_runRow_5 : decode cX1_runRow 5 = .ok (.iload 4, 2) := by decide +kernel
theorem dX1_runRow_7 : decode cX1_runRow 7 = .ok (.aload_n 0, 1) := by decide +kernel
theorem dX1_runRow_8 : decode cX1_runRow 8 = .ok (.getfield 19, 3) := by decide +kernel
theorem dX1_runRow_11 : decode cX1_runRow 11 = .ok (.if_icmp .ge 27, 3) := by decide +kernel
theorem dX1_runRow_14 : decode cX1_runRow 14 = .ok (.aload_n 1, 1) := by decide +kernel
theorem dX1_runRow_15 : decode cX1_runRow 15 = .ok (.iload 4, 2) := by decide +kernel
theorem dX1_runRow_17 : decode cX1_runRow 17 = .ok (.aaload, 1) := by decide +kernel
theorem dX1_runRow_18 : decode cX1_runRow 18 = .ok (.iload_n 2, 1) := by decide +kernel
theorem dX1_runRow_19 : decode cX1_runRow 19 = .ok (.invokevirtual 111, 3) := by decide +kernel
theorem dX1_runRow_22 : decode cX1_runRow 22 = .ok (.iload_n 3, 1) := by decide +kernel
theorem dX1_runRow_23 : decode cX1_runRow 23 = .ok (.aload_n 1, 1) := by decide +kernel
theorem dX1_runRow_24 : decode cX1_runRow 24 = .ok (.iload 4, 2) := by decide +kernel
theorem dX1_runRow_26 : decode cX1_runRow 26 = .ok (.aaload, 1) := by decide +kernel
theorem dX1_runRow_27 : decode cX1_runRow 27 = .ok (.getfield 114, 3) := by decide +kernel
theorem dX1_runRow_30 : decode cX1_runRow 30 = .ok (.iadd, 1) := by decide +kernel
theorem dX1_runRow_31 : decode cX1_runRow 31 = .ok (.istore_n 3, 1) := by decide +kernel
theorem dX1_runRow_32 : decode cX1_runRow 32 = .ok (.iinc 4 1, 3) := by decide +kernel
theorem dX1_runRow_35 : decode cX1_runRow 35 = .ok (.goto (-30), 3) := by decide +kernel
theorem dX1_runRow_38 : decode cX1_runRow 38 = .ok (.iload_n 3, 1) := by decide +kernel
theorem dX1_runRow_39 : decode cX1_runRow 39 = .ok (.ireturn, 1) := by decide +kernel
set_option maxRecDepth 20000 in
theorem ggX1_copyClocks_X0_copyFrom : GoodIn wsX1_copyClocks wsX0_copyFrom := goodIn_r _ [7, 8, 9, 10, 11, 12, 13, 14, 15, 16, 17, 18, 19, 20, 21, 26, 27, 28, 29, 30, 31, 32, 33, 34, 35, 36, 37, 38, 39] (by decide +kernel) (by decide +kernel)
set_option maxRecDepth 20000 in
theorem gX1_copyClocks_X0_copyFrom_n107 : GoodIn wsX1_copyClocks (wsX0_copyFrom) := ggX1_copyClocks_X0_copyFrom
theorem dX1_copyClocks_0 : decode cX1_copyClocks 0 = .ok (.iconst 0, 1) := by decide +kernel
theorem dX1_copyClocks_1 : decode cX1_copyClocks 1 = .ok (.istore_n 1, 1) := by decide +kernel
theorem dX1_copyClocks_2 : decode cX1_copyClocks 2 = .ok (.iload_n 1, 1) := by decide +kernel
theorem dX1_copyClocks_3 : decode cX1_copyClocks 3 = .ok (.aload_n 0, 1) := by decide +kernel
theorem dX1_copyClocks_4 : decode cX1_copyClocks 4 = .ok (.getfield 19, 3) := by decide +kernel
theorem dX1_copyClocks_7 : decode cX1_copyClocks 7 = .ok (.if_icmp .ge 24, 3) := by decide +kernel
theorem dX1_copyClocks_10 : decode cX1_copyClocks 10 = .ok (.aload_n 0, 1) := by decide +kernel
theorem dX1_copyClocks_11 : decode cX1_copyClocks 11 = .ok (.getfield 15, 3) := by decide +kernel
theorem dX1_copyClocks_14 : decode cX1_copyClocks 14 = .ok (.iload_n 1, 1) := by decide +kernel
theorem dX1_copyClocks_15 : decode cX1_copyClocks 15 = .ok (.aaload, 1) := by decide +kernel
theorem dX1_copyClocks_16 : decode cX1_copyClocks 16 = .ok (.aload_n 0, 1) := by decide +kernel
theorem dX1_copyClocks_17 : decode cX1_copyClocks 17 = .ok (.getfield 11, 3) := by decide +kernel
theorem dX1_copyClocks_20 : decode cX1_copyClocks 20 = .ok (.iload_n 1, 1) := by decide +kernel
theorem dX1_copyClocks_21 : decode cX1_copyClocks 21 = .ok (.aaload, 1) := by decide +kernel
theorem dX1_copyClocks_22 : decode cX1_copyClocks 22 = .ok (.invokevirtual 107, 3) := by decide +kernel
theorem dX1_copyClocks_25 : decode cX1_copyClocks 25 = .ok (.iinc 1 1, 3) := by decide +kernel
theorem dX1_copyClocks_28 : decode cX1_copyClocks 28 = .ok (.goto (-26), 3) := by decide +kernel
theorem dX1_copyClocks_31 : decode cX1_copyClocks 31 = .ok (.return_, 1) := by decide +kernel
set_option maxRecDepth 20000 in
theorem ggX1_tally_X1_trueTime : GoodIn wsX1_tally wsX1_trueTime := goodIn_r _ [7, 8, 9, 10, 11] (by decide +kernel) (by decide +kernel)
set_option maxRecDepth 20000 in
theorem gX1_tally_X1_trueTime : GoodIn wsX1_tally (va_wsS RX1 160 yX1_trueTime wsX1_trueTime) := goodIn_app (goodIn_of _ (by decide +kernel)) ggX1_tally_X1_trueTime
set_option maxRecDepth 20000 in
theorem ggX1_tally_X1_sumOf : GoodIn wsX1_tally wsX1_sumOf := goodIn_r _ [15, 2, 16, 17, 18, 19, 20, 21, 22, 23, 24, 25, 26, 27, 28, 29, 30, 31, 32, 33, 34, 35, 36, 37, 38, 39, 40, 41, 42, 43, 44, 45, 61, 62, 63, 64, 65, 66, 67, 68, 69, 70, 71, 72, 73, 74, 75, 76, 77, 78] (by decide +kernel) (by decide +kernel)
set_option maxRecDepth 20000 in
theorem gX1_tally_X1_sumOf : GoodIn wsX1_tally (wsV RX1 125 RX1 yX1_sumOf wsX1_sumOf) := goodIn_app (goodIn_of _ (by decide +kernel)) ggX1_tally_X1_sumOf
set_option maxRecDepth 20000 in
theorem ggX1_tally_X1_trueClocks : GoodIn wsX1_tally wsX1_trueClocks := goodIn_r _ [49, 2, 3, 1, 50, 51, 6, 52, 4, 5, 7, 8, 9, 10, 11, 61, 62, 63, 64, 65, 66, 67, 68, 69, 70, 71, 72, 73, 74, 75, 76, 77, 78] (by decide +kernel) (by decide +kernel)
set_option maxRecDepth 20000 in
theorem gX1_tally_X1_trueClocks : GoodIn wsX1_tally (wsV RX1 163 RX1 yX1_trueClocks wsX1_trueClocks) := goodIn_app (goodIn_of _ (by decide +kernel)) ggX1_tally_X1_trueClocks
set_option maxRecDepth 20000 in
theorem ggX1_tally_X1_offOfAll : GoodIn wsX1_tally wsX1_offOfAll := goodIn_r _ [56, 2, 57, 58, 59, 60, 50, 51, 6, 52, 4, 5, 7, 8, 9, 10, 11, 61, 62, 63, 64, 65, 66, 67, 68, 69, 70, 71, 72, 73, 74, 75, 76, 77, 78] (by decide +kernel) (by decide +kernel)
set_option maxRecDepth 20000 in
theorem gX1_tally_X1_offOfAll : GoodIn wsX1_tally (wsV RX1 128 RX1 yX1_offOfAll wsX1_offOfAll) := goodIn_app (goodIn_of _ (by decide +kernel)) ggX1_tally_X1_offOfAll
theorem dX1_tally_0 : decode cX1_tally 0 = .ok (.iload_n 1, 1) := by decide +kernel
theorem dX1_tally_1 : decode cX1_tally 1 = .ok (.tableswitch 98 0 6 #[43, 48, 56, 61, 71, 82, 93], 43) := by decide +kernel
theorem dX1_tally_44 : decode cX1_tally 44 = .ok (.aload_n 0, 1) := by decide +kernel
theorem dX1_tally_45 : decode cX1_tally 45 = .ok (.getfield 23, 3) := by decide +kernel
theorem dX1_tally_48 : decode cX1_tally 48 = .ok (.ireturn, 1) := by decide +kernel
theorem dX1_tally_49 : decode cX1_tally 49 = .ok (.aload_n 0, 1) := by decide +kernel
theorem dX1_tally_50 : decode cX1_tally 50 = .ok (.getfield 23, 3) := by decide +kernel
theorem dX1_tally_53 : decode cX1_tally 53 = .ok (.invokestatic 160, 3) := by decide +kernel
theorem dX1_tally_56 : decode cX1_tally 56 = .ok (.ireturn, 1) := by decide +kernel
theorem dX1_tally_57 : decode cX1_tally 57 = .ok (.aload_n 0, 1) := by decide +kernel
theorem dX1_tally_58 : decode cX1_tally 58 = .ok (.getfield 19, 3) := by decide +kernel
theorem dX1_tally_61 : decode cX1_tally 61 = .ok (.ireturn, 1) := by decide +kernel
theorem dX1_tally_62 : decode cX1_tally 62 = .ok (.aload_n 0, 1) := by decide +kernel
theorem dX1_tally_63 : decode cX1_tally 63 = .ok (.aload_n 0, 1) := by decide +kernel
theorem dX1_tally_64 : decode cX1_tally 64 = .ok (.getfield 11, 3) := by decide +kernel
theorem dX1_tally_67 : decode cX1_tally 67 = .ok (.iconst 5, 1) := by decide +kernel
theorem dX1_tally_68 : decode cX1_tally 68 = .ok (.invokevirtual 125, 3) := by decide +kernel
theorem dX1_tally_71 : decode cX1_tally 71 = .ok (.ireturn, 1) := by decide +kernel
theorem dX1_tally_72 : decode cX1_tally 72 = .ok (.aload_n 0, 1) := by decide +kernel
theorem dX1_tally_73 : decode cX1_tally 73 = .ok (.aload_n 0, 1) := by decide +kernel
theorem dX1_tally_74 : decode cX1_tally 74 = .ok (.getfield 11, 3) := by decide +kernel
theorem dX1_tally_77 : decode cX1_tally 77 = .ok (.bipush 7, 2) := by decide +kernel
theorem dX1_tally_79 : decode cX1_tally 79 = .ok (.invokevirtual 125, 3) := by decide +kernel
theorem dX1_tally_82 : decode cX1_tally 82 = .ok (.ireturn, 1) := by decide +kernel
theorem dX1_tally_83 : decode cX1_tally 83 = .ok (.aload_n 0, 1) := by decide +kernel
theorem dX1_tally_84 : decode cX1_tally 84 = .ok (.aload_n 0, 1) := by decide +kernel
theorem dX1_tally_85 : decode cX1_tally 85 = .ok (.getfield 11, 3) := by decide +kernel
theorem dX1_tally_88 : decode cX1_tally 88 = .ok (.bipush 9, 2) := by decide +kernel
theorem dX1_tally_90 : decode cX1_tally 90 = .ok (.invokevirtual 125, 3) := by decide +kernel
theorem dX1_tally_93 : decode cX1_tally 93 = .ok (.ireturn, 1) := by decide +kernel
theorem dX1_tally_94 : decode cX1_tally 94 = .ok (.aload_n 0, 1) := by decide +kernel
theorem dX1_tally_95 : decode cX1_tally 95 = .ok (.invokevirtual 163, 3) := by decide +kernel
theorem dX1_tally_98 : decode cX1_tally 98 = .ok (.ireturn, 1) := by decide +kernel
theorem dX1_tally_99 : decode cX1_tally 99 = .ok (.aload_n 0, 1) := by decide +kernel
theorem dX1_tally_100 : decode cX1_tally 100 = .ok (.aload_n 0, 1) := by decide +kernel
theorem dX1_tally_101 : decode cX1_tally 101 = .ok (.getfield 11, 3) := by decide +kernel
theorem dX1_tally_104 : decode cX1_tally 104 = .ok (.aload_n 0, 1) := by decide +kernel
theorem dX1_tally_105 : decode cX1_tally 105 = .ok (.getfield 23, 3) := by decide +kernel
theorem dX1_tally_108 : decode cX1_tally 108 = .ok (.invokevirtual 128, 3) := by decide +kernel
theorem dX1_tally_111 : decode cX1_tally 111 = .ok (.ireturn, 1) := by decide +kernel
set_option maxRecDepth 20000 in
theorem ggX1_sumOf_X0_reading : GoodIn wsX1_sumOf wsX0_reading := goodIn_r _ [5, 6, 7, 8, 9, 10, 11, 12, 13, 14, 15, 16, 17, 3, 18, 19, 20, 21, 22, 23, 24, 25, 26, 27, 28, 29, 30, 31, 36, 37, 38, 39, 40, 41, 42, 43, 44, 45, 46, 47, 48, 49] (by decide +kernel) (by decide +kernel)
set_option maxRecDepth 20000 in
theorem gX1_sumOf_X0_reading_n91 : GoodIn wsX1_sumOf (wsX0_reading) := ggX1_sumOf_X0_reading
theorem dX1_sumOf_0 : decode cX1_sumOf 0 = .ok (.iconst 0, 1) := by decide +kernel
theorem dX1_sumOf_1 : decode cX1_sumOf 1 = .ok (.istore_n 3, 1) := by decide +kernel
theorem dX1_sumOf_2 : decode cX1_sumOf 2 = .ok (.iconst 0, 1) := by decide +kernel
theorem dX1_sumOf_3 : decode cX1_sumOf 3 = .ok (.istore 4, 2) := by decide +kernel
theorem dX1_sumOf_5 : decode cX1_sumOf 5 = .ok (.iload 4, 2) := by decide +kernel
theorem dX1_sumOf_7 : decode cX1_sumOf 7 = .ok (.aload_n 0, 1) := by decide +kernel
theorem dX1_sumOf_8 : decode cX1_sumOf 8 = .ok (.getfield 19, 3) := by decide +kernel
theorem dX1_sumOf_11 : decode cX1_sumOf 11 = .ok (.if_icmp .ge 20, 3) := by decide +kernel
theorem dX1_sumOf_14 : decode cX1_sumOf 14 = .ok (.iload_n 3, 1) := by decide +kernel
theorem dX1_sumOf_15 : decode cX1_sumOf 15 = .ok (.aload_n 1, 1) := by decide +kernel
theorem dX1_sumOf_16 : decode cX1_sumOf 16 = .ok (.iload 4, 2) := by decide +kernel
theorem dX1_sumOf_18 : decode cX1_sumOf 18 = .ok (.aaload, 1) := by decide +kernel
theorem dX1_sumOf_19 : decode cX1_sumOf 19 = .ok (.iload_n 2, 1) := by decide +kernel
theorem dX1_sumOf_20 : decode cX1_sumOf 20 = .ok (.invokevirtual 91, 3) := by decide +kernel
theorem dX1_sumOf_23 : decode cX1_sumOf 23 = .ok (.iadd, 1) := by decide +kernel
theorem dX1_sumOf_24 : decode cX1_sumOf 24 = .ok (.istore_n 3, 1) := by decide +kernel
theorem dX1_sumOf_25 : decode cX1_sumOf 25 = .ok (.iinc 4 1, 3) := by decide +kernel
theorem dX1_sumOf_28 : decode cX1_sumOf 28 = .ok (.goto (-23), 3) := by decide +kernel
theorem dX1_sumOf_31 : decode cX1_sumOf 31 = .ok (.iload_n 3, 1) := by decide +kernel
theorem dX1_sumOf_32 : decode cX1_sumOf 32 = .ok (.ireturn, 1) := by decide +kernel
set_option maxRecDepth 20000 in
theorem ggX1_offOfAll_X1_offOf : GoodIn wsX1_offOfAll wsX1_offOf := goodIn_r _ [9, 10, 11, 8, 12, 13, 14, 15, 16, 21, 22, 23, 24, 25, 26, 27, 28, 29, 30, 31, 32, 33, 34] (by decide +kernel) (by decide +kernel)
set_option maxRecDepth 20000 in
theorem gX1_offOfAll_X1_offOf : GoodIn wsX1_offOfAll (va_wsS RX1 62 yX1_offOf wsX1_offOf) := goodIn_app (goodIn_of _ (by decide +kernel)) ggX1_offOfAll_X1_offOf
theorem dX1_offOfAll_0 : decode cX1_offOfAll 0 = .ok (.iconst 0, 1) := by decide +kernel
theorem dX1_offOfAll_1 : decode cX1_offOfAll 1 = .ok (.istore_n 3, 1) := by decide +kernel
theorem dX1_offOfAll_2 : decode cX1_offOfAll 2 = .ok (.iconst 0, 1) := by decide +kernel
theorem dX1_offOfAll_3 : decode cX1_offOfAll 3 = .ok (.istore 4, 2) := by decide +kernel
theorem dX1_offOfAll_5 : decode cX1_offOfAll 5 = .ok (.iload 4, 2) := by decide +kernel
theorem dX1_offOfAll_7 : decode cX1_offOfAll 7 = .ok (.aload_n 0, 1) := by decide +kernel
theorem dX1_offOfAll_8 : decode cX1_offOfAll 8 = .ok (.getfield 19, 3) := by decide +kernel
theorem dX1_offOfAll_11 : decode cX1_offOfAll 11 = .ok (.if_icmp .ge 23, 3) := by decide +kernel
theorem dX1_offOfAll_14 : decode cX1_offOfAll 14 = .ok (.iload_n 3, 1) := by decide +kernel
theorem dX1_offOfAll_15 : decode cX1_offOfAll 15 = .ok (.aload_n 1, 1) := by decide +kernel
theorem dX1_offOfAll_16 : decode cX1_offOfAll 16 = .ok (.iload 4, 2) := by decide +kernel
theorem dX1_offOfAll_18 : decode cX1_offOfAll 18 = .ok (.aaload, 1) := by decide +kernel
theorem dX1_offOfAll_19 : decode cX1_offOfAll 19 = .ok (.iload_n 2, 1) := by decide +kernel
theorem dX1_offOfAll_20 : decode cX1_offOfAll 20 = .ok (.invokestatic 62, 3) := by decide +kernel
theorem dX1_offOfAll_23 : decode cX1_offOfAll 23 = .ok (.invokestatic 166, 3) := by decide +kernel
theorem dX1_offOfAll_26 : decode cX1_offOfAll 26 = .ok (.iadd, 1) := by decide +kernel
theorem dX1_offOfAll_27 : decode cX1_offOfAll 27 = .ok (.istore_n 3, 1) := by decide +kernel
theorem dX1_offOfAll_28 : decode cX1_offOfAll 28 = .ok (.iinc 4 1, 3) := by decide +kernel
theorem dX1_offOfAll_31 : decode cX1_offOfAll 31 = .ok (.goto (-26), 3) := by decide +kernel
theorem dX1_offOfAll_34 : decode cX1_offOfAll 34 = .ok (.iload_n 3, 1) := by decide +kernel
theorem dX1_offOfAll_35 : decode cX1_offOfAll 35 = .ok (.ireturn, 1) := by decide +kernel
set_option maxRecDepth 20000 in
theorem ggX1_trueClocks_X1_offOf : GoodIn wsX1_trueClocks wsX1_offOf := goodIn_r _ [7, 8, 9, 6, 10, 11, 12, 13, 14, 19, 20, 21, 22, 23, 24, 25, 26, 27, 28, 29, 30, 31, 32] (by decide +kernel) (by decide +kernel)
set_option maxRecDepth 20000 in
theorem gX1_trueClocks_X1_offOf : GoodIn wsX1_trueClocks (va_wsS RX1 62 yX1_offOf wsX1_offOf) := goodIn_app (goodIn_of _ (by decide +kernel)) ggX1_trueClocks_X1_offOf
theorem dX1_trueClocks_0 : decode cX1_trueClocks 0 = .ok (.iconst 0, 1) := by decide +kernel
theorem dX1_trueClocks_1 : decode cX1_trueClocks 1 = .ok (.istore_n 1, 1) := by decide +kernel
theorem dX1_trueClocks_2 : decode cX1_trueClocks 2 = .ok (.iconst 0, 1) := by decide +kernel
theorem dX1_trueClocks_3 : decode cX1_trueClocks 3 = .ok (.istore_n 2, 1) := by decide +kernel
theorem dX1_trueClocks_4 : decode cX1_trueClocks 4 = .ok (.iload_n 2, 1) := by decide +kernel
theorem dX1_trueClocks_5 : decode cX1_trueClocks 5 = .ok (.aload_n 0, 1) := by decide +kernel
theorem dX1_trueClocks_6 : decode cX1_trueClocks 6 = .ok (.getfield 19, 3) := by decide +kernel
theorem dX1_trueClocks_9 : decode cX1_trueClocks 9 = .ok (.if_icmp .ge 28, 3) := by decide +kernel
theorem dX1_trueClocks_12 : decode cX1_trueClocks 12 = .ok (.aload_n 0, 1) := by decide +kernel
theorem dX1_trueClocks_13 : decode cX1_trueClocks 13 = .ok (.getfield 11, 3) := by decide +kernel
theorem dX1_trueClocks_16 : decode cX1_trueClocks 16 = .ok (.iload_n 2, 1) := by decide +kernel
theorem dX1_trueClocks_17 : decode cX1_trueClocks 17 = .ok (.aaload, 1) := by decide +kernel
theorem dX1_trueClocks_18 : decode cX1_trueClocks 18 = .ok (.aload_n 0, 1) := by decide +kernel
theorem dX1_trueClocks_19 : decode cX1_trueClocks 19 = .ok (.getfield 23, 3) := by decide +kernel
theorem dX1_trueClocks_22 : decode cX1_trueClocks 22 = .ok (.invokestatic 62, 3) := by decide +kernel
theorem dX1_trueClocks_25 : decode cX1_trueClocks 25 = .ok (.ifCond .ne 6, 3) := by decide +kernel
theorem dX1_trueClocks_28 : decode cX1_trueClocks 28 = .ok (.iinc 1 1, 3) := by decide +kernel
theorem dX1_trueClocks_31 : decode cX1_trueClocks 31 = .ok (.iinc 2 1, 3) := by decide +kernel
theorem dX1_trueClocks_34 : decode cX1_trueClocks 34 = .ok (.goto (-30), 3) := by decide +kernel
theorem dX1_trueClocks_37 : decode cX1_trueClocks 37 = .ok (.iload_n 1, 1) := by decide +kernel
theorem dX1_trueClocks_38 : decode cX1_trueClocks 38 = .ok (.ireturn, 1) := by decide +kernel
end
section
theorem dJ9_floorMod_7cf53_0 : decode cJ9_floorMod_7cf53 0 = .ok (.iload_n 0, 1) := by decide +kernel
theorem dJ9_floorMod_7cf53_1 : decode cJ9_floorMod_7cf53 1 = .ok (.iload_n 1, 1) := by decide +kernel
theorem dJ9_floorMod_7cf53_2 : decode cJ9_floorMod_7cf53 2 = .ok (.irem, 1) := by decide +kernel
theorem dJ9_floorMod_7cf53_3 : decode cJ9_floorMod_7cf53 3 = .ok (.istore_n 2, 1) := by decide +kernel
theorem dJ9_floorMod_7cf53_4 : decode cJ9_floorMod_7cf53 4 = .ok (.iload_n 0, 1) := by decide +kernel
theorem dJ9_floorMod_7cf53_5 : decode cJ9_floorMod_7cf53 5 = .ok (.iload_n 1, 1) := by decide +kernel
theorem dJ9_floorMod_7cf53_6 : decode cJ9_floorMod_7cf53 6 = .ok (.ixor, 1) := by decide +kernel
theorem dJ9_floorMod_7cf53_7 : decode cJ9_floorMod_7cf53 7 = .ok (.ifCond .ge 11, 3) := by decide +kernel
theorem dJ9_floorMod_7cf53_10 : decode cJ9_floorMod_7cf53 10 = .ok (.iload_n 2, 1) := by decide +kernel
theorem dJ9_floorMod_7cf53_11 : decode cJ9_floorMod_7cf53 11 = .ok (.ifCond .eq 7, 3) := by decide +kernel
theorem dJ9_floorMod_7cf53_14 : decode cJ9_floorMod_7cf53 14 = .ok (.iload_n 2, 1) := by decide +kernel
theorem dJ9_floorMod_7cf53_15 : decode cJ9_floorMod_7cf53 15 = .ok (.iload_n 1, 1) := by decide +kernel
theorem dJ9_floorMod_7cf53_16 : decode cJ9_floorMod_7cf53 16 = .ok (.iadd, 1) := by decide +kernel
theorem dJ9_floorMod_7cf53_17 : decode cJ9_floorMod_7cf53 17 = .ok (.ireturn, 1) := by decide +kernel
theorem dJ9_floorMod_7cf53_18 : decode cJ9_floorMod_7cf53 18 = .ok (.iload_n 2, 1) := by decide +kernel
theorem dJ9_floorMod_7cf53_19 : decode cJ9_floorMod_7cf53 19 = .ok (.ireturn, 1) := by decide +kernel
theorem dJ9_abs_0f7a4_0 : decode cJ9_abs_0f7a4 0 = .ok (.iload_n 0, 1) := by decide +kernel
theorem dJ9_abs_0f7a4_1 : decode cJ9_abs_0f7a4 1 = .ok (.ifCond .ge 8, 3) := by decide +kernel
theorem dJ9_abs_0f7a4_4 : decode cJ9_abs_0f7a4 4 = .ok (.iload_n 0, 1) := by decide +kernel
theorem dJ9_abs_0f7a4_5 : decode cJ9_abs_0f7a4 5 = .ok (.ineg, 1) := by decide +kernel
theorem dJ9_abs_0f7a4_6 : decode cJ9_abs_0f7a4 6 = .ok (.goto 4, 3) := by decide +kernel
theorem dJ9_abs_0f7a4_9 : decode cJ9_abs_0f7a4 9 = .ok (.iload_n 0, 1) := by decide +kernel
theorem dJ9_abs_0f7a4_10 : decode cJ9_abs_0f7a4 10 = .ok (.ireturn, 1) := by decide +kernel
theorem dJ9_max_7cf53_0 : decode cJ9_max_7cf53 0 = .ok (.iload_n 0, 1) := by decide +kernel
theorem dJ9_max_7cf53_1 : decode cJ9_max_7cf53 1 = .ok (.iload_n 1, 1) := by decide +kernel
theorem dJ9_max_7cf53_2 : decode cJ9_max_7cf53 2 = .ok (.if_icmp .lt 7, 3) := by decide +kernel
theorem dJ9_max_7cf53_5 : decode cJ9_max_7cf53 5 = .ok (.iload_n 0, 1) := by decide +kernel
theorem dJ9_max_7cf53_6 : decode cJ9_max_7cf53 6 = .ok (.goto 4, 3) := by decide +kernel
theorem dJ9_max_7cf53_9 : decode cJ9_max_7cf53 9 = .ok (.iload_n 1, 1) := by decide +kernel
theorem dJ9_max_7cf53_10 : decode cJ9_max_7cf53 10 = .ok (.ireturn, 1) := by decide +kernel
theorem dJ9_min_7cf53_0 : decode cJ9_min_7cf53 0 = .ok (.iload_n 0, 1) := by decide +kernel
theorem dJ9_min_7cf53_1 : decode cJ9_min_7cf53 1 = .ok (.iload_n 1, 1) := by decide +kernel
theorem dJ9_min_7cf53_2 : decode cJ9_min_7cf53 2 = .ok (.if_icmp .gt 7, 3) := by decide +kernel
theorem dJ9_min_7cf53_5 : decode cJ9_min_7cf53 5 = .ok (.iload_n 0, 1) := by decide +kernel
theorem dJ9_min_7cf53_6 : decode cJ9_min_7cf53 6 = .ok (.goto 4, 3) := by decide +kernel
theorem dJ9_min_7cf53_9 : decode cJ9_min_7cf53 9 = .ok (.iload_n 1, 1) := by decide +kernel
theorem dJ9_min_7cf53_10 : decode cJ9_min_7cf53 10 = .ok (.ireturn, 1) := by decide +kernel
set_option maxRecDepth 20000 in
theorem ggL_come_X1_come : GoodIn wsL_come wsX1_come := goodIn_ca (goodIn_ca (goodIn_r _ [7, 8, 9, 10, 11, 12, 13, 6, 14, 15, 16, 17, 18, 19, 20, 21, 22, 23, 24, 25, 26, 27, 28, 29, 30, 31, 32, 33, 34, 35, 36, 37, 38, 39, 40, 41, 42, 43] (by decide +kernel) (by decide +kernel)) (goodIn_sub (fun _ h => List.mem_cons_of_mem _ (List.mem_append_left _ (List.mem_append_right _ h))) (by decide +kernel))) (goodIn_sub (fun _ h => List.mem_cons_of_mem _ (List.mem_append_right _ h)) (by decide +kernel))
set_option maxRecDepth 20000 in
theorem gL_come_X1_come : GoodIn wsL_come (wsV RL 7 RX1 yX1_come wsX1_come) := goodIn_app (goodIn_of _ (by decide +kernel)) ggL_come_X1_come
theorem dL_come_0 : decode cL_come 0 = .ok (.aload_n 2, 1) := by decide +kernel
theorem dL_come_1 : decode cL_come 1 = .ok (.iconst 0, 1) := by decide +kernel
theorem dL_come_2 : decode cL_come 2 = .ok (.aload_n 0, 1) := by decide +kernel
theorem dL_come_3 : decode cL_come 3 = .ok (.iload_n 1, 1) := by decide +kernel
theorem dL_come_4 : decode cL_come 4 = .ok (.invokevirtual 7, 3) := by decide +kernel
theorem dL_come_7 : decode cL_come 7 = .ok (.i2l, 1) := by decide +kernel
theorem dL_come_8 : decode cL_come 8 = .ok (.lastore, 1) := by decide +kernel
theorem dL_come_9 : decode cL_come 9 = .ok (.goto 9, 3) := by decide +kernel
theorem dL_come_12 : decode cL_come 12 = .ok (.astore_n 3, 1) := by decide +kernel
theorem dL_come_13 : decode cL_come 13 = .ok (.iconst 1, 1) := by decide +kernel
theorem dL_come_14 : decode cL_come 14 = .ok (.ireturn, 1) := by decide +kernel
theorem dL_come_15 : decode cL_come 15 = .ok (.astore_n 3, 1) := by decide +kernel
theorem dL_come_16 : decode cL_come 16 = .ok (.iconst 2, 1) := by decide +kernel
theorem dL_come_17 : decode cL_come 17 = .ok (.ireturn, 1) := by decide +kernel
theorem dL_come_18 : decode cL_come 18 = .ok (.iconst 0, 1) := by decide +kernel
theorem dL_come_19 : decode cL_come 19 = .ok (.ireturn, 1) := by decide +kernel
set_option maxRecDepth 20000 in
theorem ggL_gear_X1_gear : GoodIn wsL_gear wsX1_gear := goodIn_ca (goodIn_ca (goodIn_r _ [7, 8, 9, 10, 11, 12, 13, 6, 14, 15, 16, 17, 18, 19, 20, 21, 22, 23, 24, 25, 26, 27, 28, 29, 30, 31, 32, 33, 34, 35, 36, 37, 38, 39, 40, 41, 42, 43, 44, 45, 46, 47, 48, 49, 50, 51, 52, 53] (by decide +kernel) (by decide +kernel)) (goodIn_sub (fun _ h => List.mem_cons_of_mem _ (List.mem_append_left _ (List.mem_append_right _ h))) (by decide +kernel))) (goodIn_sub (fun _ h => List.mem_cons_of_mem _ (List.mem_append_right _ h)) (by decide +kernel))
set_option maxRecDepth 20000 in
theorem gL_gear_X1_gear : GoodIn wsL_gear (wsV RL 17 RX1 yX1_gear wsX1_gear) := goodIn_app (goodIn_of _ (by decide +kernel)) ggL_gear_X1_gear
theorem dL_gear_0 : decode cL_gear 0 = .ok (.aload 5, 2) := by decide +kernel
theorem dL_gear_2 : decode cL_gear 2 = .ok (.iconst 0, 1) := by decide +kernel
theorem dL_gear_3 : decode cL_gear 3 = .ok (.aload_n 0, 1) := by decide +kernel
theorem dL_gear_4 : decode cL_gear 4 = .ok (.iload_n 1, 1) := by decide +kernel
theorem dL_gear_5 : decode cL_gear 5 = .ok (.iload_n 2, 1) := by decide +kernel
theorem dL_gear_6 : decode cL_gear 6 = .ok (.iload_n 3, 1) := by decide +kernel
theorem dL_gear_7 : decode cL_gear 7 = .ok (.iload 4, 2) := by decide +kernel
theorem dL_gear_9 : decode cL_gear 9 = .ok (.invokevirtual 17, 3) := by decide +kernel
theorem dL_gear_12 : decode cL_gear 12 = .ok (.i2l, 1) := by decide +kernel
theorem dL_gear_13 : decode cL_gear 13 = .ok (.lastore, 1) := by decide +kernel
theorem dL_gear_14 : decode cL_gear 14 = .ok (.goto 11, 3) := by decide +kernel
theorem dL_gear_17 : decode cL_gear 17 = .ok (.astore 6, 2) := by decide +kernel
theorem dL_gear_19 : decode cL_gear 19 = .ok (.iconst 1, 1) := by decide +kernel
theorem dL_gear_20 : decode cL_gear 20 = .ok (.ireturn, 1) := by decide +kernel
theorem dL_gear_21 : decode cL_gear 21 = .ok (.astore 6, 2) := by decide +kernel
theorem dL_gear_23 : decode cL_gear 23 = .ok (.iconst 2, 1) := by decide +kernel
theorem dL_gear_24 : decode cL_gear 24 = .ok (.ireturn, 1) := by decide +kernel
theorem dL_gear_25 : decode cL_gear 25 = .ok (.iconst 0, 1) := by decide +kernel
theorem dL_gear_26 : decode cL_gear 26 = .ok (.ireturn, 1) := by decide +kernel
set_option maxRecDepth 20000 in
theorem ggL_set_X1_set : GoodIn wsL_set wsX1_set := goodIn_ca (goodIn_ca (goodIn_r _ [7, 8, 9, 10, 11, 12, 6, 13, 14, 15, 16, 17, 18, 19, 20, 21, 22, 23, 24, 25, 26, 27, 28, 29, 30, 31, 32, 33, 34, 35, 36, 37, 38, 39, 40, 41, 42, 43, 44, 45, 46, 47, 48, 49, 50, 51, 52, 53, 54, 55, 56, 57, 58] (by decide +kernel) (by decide +kernel)) (goodIn_sub (fun _ h => List.mem_cons_of_mem _ (List.mem_append_left _ (List.mem_append_right _ h))) (by decide +kernel))) (goodIn_sub (fun _ h => List.mem_cons_of_mem _ (List.mem_append_right _ h)) (by decide +kernel))
set_option maxRecDepth 20000 in
theorem gL_set_X1_set : GoodIn wsL_set (wsV RL 23 RX1 yX1_set wsX1_set) := goodIn_app (goodIn_of _ (by decide +kernel)) ggL_set_X1_set
theorem dL_set_0 : decode cL_set 0 = .ok (.aload_n 3, 1) := by decide +kernel
theorem dL_set_1 : decode cL_set 1 = .ok (.iconst 0, 1) := by decide +kernel
theorem dL_set_2 : decode cL_set 2 = .ok (.aload_n 0, 1) := by decide +kernel
theorem dL_set_3 : decode cL_set 3 = .ok (.iload_n 1, 1) := by decide +kernel
theorem dL_set_4 : decode cL_set 4 = .ok (.iload_n 2, 1) := by decide +kernel
theorem dL_set_5 : decode cL_set 5 = .ok (.invokevirtual 23, 3) := by decide +kernel
theorem dL_set_8 : decode cL_set 8 = .ok (.i2l, 1) := by decide +kernel
theorem dL_set_9 : decode cL_set 9 = .ok (.lastore, 1) := by decide +kernel
theorem dL_set_10 : decode cL_set 10 = .ok (.goto 11, 3) := by decide +kernel
theorem dL_set_13 : decode cL_set 13 = .ok (.astore 4, 2) := by decide +kernel
theorem dL_set_15 : decode cL_set 15 = .ok (.iconst 1, 1) := by decide +kernel
theorem dL_set_16 : decode cL_set 16 = .ok (.ireturn, 1) := by decide +kernel
theorem dL_set_17 : decode cL_set 17 = .ok (.astore 4, 2) := by decide +kernel
theorem dL_set_19 : decode cL_set 19 = .ok (.iconst 2, 1) := by decide +kernel
theorem dL_set_20 : decode cL_set 20 = .ok (.ireturn, 1) := by decide +kernel
theorem dL_set_21 : decode cL_set 21 = .ok (.iconst 0, 1) := by decide +kernel
theorem dL_set_22 : decode cL_set 22 = .ok (.ireturn, 1) := by decide +kernel
set_option maxRecDepth 20000 in
theorem ggL_wind_X1_wind : GoodIn wsL_wind wsX1_wind := goodIn_ca (goodIn_r _ [6, 7, 8, 9, 10, 5, 11, 12, 13, 14, 15, 16, 17, 18, 19, 20, 21, 22, 23, 24, 25, 26, 27, 28, 29, 30, 31, 32, 33, 34, 35, 36, 37, 38] (by decide +kernel) (by decide +kernel)) (goodIn_sub (fun _ h => List.mem_cons_of_mem _ (List.mem_append_right _ h)) (by decide +kernel))
set_option maxRecDepth 20000 in
theorem gL_wind_X1_wind : GoodIn wsL_wind (wsV RL 27 RX1 yX1_wind wsX1_wind) := goodIn_app (goodIn_of _ (by decide +kernel)) ggL_wind_X1_wind
theorem dL_wind_0 : decode cL_wind 0 = .ok (.aload_n 2, 1) := by decide +kernel
theorem dL_wind_1 : decode cL_wind 1 = .ok (.iconst 0, 1) := by decide +kernel
theorem dL_wind_2 : decode cL_wind 2 = .ok (.aload_n 0, 1) := by decide +kernel
theorem dL_wind_3 : decode cL_wind 3 = .ok (.iload_n 1, 1) := by decide +kernel
theorem dL_wind_4 : decode cL_wind 4 = .ok (.invokevirtual 27, 3) := by decide +kernel
theorem dL_wind_7 : decode cL_wind 7 = .ok (.i2l, 1) := by decide +kernel
theorem dL_wind_8 : decode cL_wind 8 = .ok (.lastore, 1) := by decide +kernel
theorem dL_wind_9 : decode cL_wind 9 = .ok (.goto 6, 3) := by decide +kernel
theorem dL_wind_12 : decode cL_wind 12 = .ok (.astore_n 3, 1) := by decide +kernel
theorem dL_wind_13 : decode cL_wind 13 = .ok (.iconst 1, 1) := by decide +kernel
theorem dL_wind_14 : decode cL_wind 14 = .ok (.ireturn, 1) := by decide +kernel
theorem dL_wind_15 : decode cL_wind 15 = .ok (.iconst 0, 1) := by decide +kernel
theorem dL_wind_16 : decode cL_wind 16 = .ok (.ireturn, 1) := by decide +kernel
set_option maxRecDepth 20000 in
theorem ggL_mend_X1_mend : GoodIn wsL_mend wsX1_mend := goodIn_ca (goodIn_ca (goodIn_r _ [7, 8, 9, 10, 11, 12, 13, 6, 14, 15, 16, 17, 18, 19, 20, 21, 22, 23, 24, 25, 26, 27, 28, 29, 30, 31, 32, 33, 34, 35, 36, 37, 38, 39, 40, 41, 42, 43, 44, 45, 46, 47, 48, 49] (by decide +kernel) (by decide +kernel)) (goodIn_sub (fun _ h => List.mem_cons_of_mem _ (List.mem_append_left _ (List.mem_append_right _ h))) (by decide +kernel))) (goodIn_sub (fun _ h => List.mem_cons_of_mem _ (List.mem_append_right _ h)) (by decide +kernel))
set_option maxRecDepth 20000 in
theorem gL_mend_X1_mend : GoodIn wsL_mend (wsV RL 30 RX1 yX1_mend wsX1_mend) := goodIn_app (goodIn_of _ (by decide +kernel)) ggL_mend_X1_mend
theorem dL_mend_0 : decode cL_mend 0 = .ok (.aload_n 3, 1) := by decide +kernel
theorem dL_mend_1 : decode cL_mend 1 = .ok (.iconst 0, 1) := by decide +kernel
theorem dL_mend_2 : decode cL_mend 2 = .ok (.aload_n 0, 1) := by decide +kernel
theorem dL_mend_3 : decode cL_mend 3 = .ok (.iload_n 1, 1) := by decide +kernel
theorem dL_mend_4 : decode cL_mend 4 = .ok (.iload_n 2, 1) := by decide +kernel
theorem dL_mend_5 : decode cL_mend 5 = .ok (.invokevirtual 30, 3) := by decide +kernel
theorem dL_mend_8 : decode cL_mend 8 = .ok (.i2l, 1) := by decide +kernel
theorem dL_mend_9 : decode cL_mend 9 = .ok (.lastore, 1) := by decide +kernel
theorem dL_mend_10 : decode cL_mend 10 = .ok (.goto 11, 3) := by decide +kernel
theorem dL_mend_13 : decode cL_mend 13 = .ok (.astore 4, 2) := by decide +kernel
theorem dL_mend_15 : decode cL_mend 15 = .ok (.iconst 1, 1) := by decide +kernel
theorem dL_mend_16 : decode cL_mend 16 = .ok (.ireturn, 1) := by decide +kernel
theorem dL_mend_17 : decode cL_mend 17 = .ok (.astore 4, 2) := by decide +kernel
theorem dL_mend_19 : decode cL_mend 19 = .ok (.iconst 2, 1) := by decide +kernel
theorem dL_mend_20 : decode cL_mend 20 = .ok (.ireturn, 1) := by decide +kernel
theorem dL_mend_21 : decode cL_mend 21 = .ok (.iconst 0, 1) := by decide +kernel
theorem dL_mend_22 : decode cL_mend 22 = .ok (.ireturn, 1) := by decide +kernel
set_option maxRecDepth 20000 in
theorem ggL_shut_X1_shut : GoodIn wsL_shut wsX1_shut := goodIn_ca (goodIn_ca (goodIn_r _ [7, 8, 9, 10, 11, 12, 13, 6, 14, 15, 16, 17, 18, 19, 20, 21, 22, 23, 24, 25, 26, 27, 28, 29, 30, 31, 32, 33, 34, 35, 36, 37, 38, 39, 40, 41, 42, 43, 44, 45, 46, 47] (by decide +kernel) (by decide +kernel)) (goodIn_sub (fun _ h => List.mem_cons_of_mem _ (List.mem_append_left _ (List.mem_append_right _ h))) (by decide +kernel))) (goodIn_sub (fun _ h => List.mem_cons_of_mem _ (List.mem_append_right _ h)) (by decide +kernel))
set_option maxRecDepth 20000 in
theorem gL_shut_X1_shut : GoodIn wsL_shut (wsV RL 33 RX1 yX1_shut wsX1_shut) := goodIn_app (goodIn_of _ (by decide +kernel)) ggL_shut_X1_shut
theorem dL_shut_0 : decode cL_shut 0 = .ok (.aload 4, 2) := by decide +kernel
theorem dL_shut_2 : decode cL_shut 2 = .ok (.iconst 0, 1) := by decide +kernel
theorem dL_shut_3 : decode cL_shut 3 = .ok (.aload_n 0, 1) := by decide +kernel
theorem dL_shut_4 : decode cL_shut 4 = .ok (.iload_n 1, 1) := by decide +kernel
theorem dL_shut_5 : decode cL_shut 5 = .ok (.iload_n 2, 1) := by decide +kernel
theorem dL_shut_6 : decode cL_shut 6 = .ok (.iload_n 3, 1) := by decide +kernel
theorem dL_shut_7 : decode cL_shut 7 = .ok (.invokevirtual 33, 3) := by decide +kernel
theorem dL_shut_10 : decode cL_shut 10 = .ok (.i2l, 1) := by decide +kernel
theorem dL_shut_11 : decode cL_shut 11 = .ok (.lastore, 1) := by decide +kernel
theorem dL_shut_12 : decode cL_shut 12 = .ok (.goto 11, 3) := by decide +kernel
theorem dL_shut_15 : decode cL_shut 15 = .ok (.astore 5, 2) := by decide +kernel
theorem dL_shut_17 : decode cL_shut 17 = .ok (.iconst 1, 1) := by decide +kernel
theorem dL_shut_18 : decode cL_shut 18 = .ok (.ireturn, 1) := by decide +kernel
theorem dL_shut_19 : decode cL_shut 19 = .ok (.astore 5, 2) := by decide +kernel
theorem dL_shut_21 : decode cL_shut 21 = .ok (.iconst 2, 1) := by decide +kernel
theorem dL_shut_22 : decode cL_shut 22 = .ok (.ireturn, 1) := by decide +kernel
theorem dL_shut_23 : decode cL_shut 23 = .ok (.iconst 0, 1) := by decide +kernel
theorem dL_shut_24 : decode cL_shut 24 = .ok (.ireturn, 1) := by decide +kernel
set_option maxRecDepth 20000 in
theorem ggL_clock_X1_clock : GoodIn wsL_clock wsX1_clock := goodIn_ca (goodIn_r _ [6, 7, 8, 9, 10, 11, 12, 5, 13, 14, 15, 16, 17, 18, 19, 20, 21, 22, 23, 24, 25, 26, 27, 28, 29, 30, 31, 32, 33, 34, 35, 36, 37, 38, 39, 40, 41, 42, 43, 44, 45, 46, 47, 48, 49, 50, 51, 52, 53, 54, 55, 56, 57, 58, 59, 60, 61, 62, 63, 64, 65] (by decide +kernel) (by decide +kernel)) (goodIn_sub (fun _ h => List.mem_cons_of_mem _ (List.mem_append_right _ h)) (by decide +kernel))
set_option maxRecDepth 20000 in
theorem gL_clock_X1_clock : GoodIn wsL_clock (wsV RL 37 RX1 yX1_clock wsX1_clock) := goodIn_app (goodIn_of _ (by decide +kernel)) ggL_clock_X1_clock
theorem dL_clock_0 : decode cL_clock 0 = .ok (.aload_n 3, 1) := by decide +kernel
theorem dL_clock_1 : decode cL_clock 1 = .ok (.iconst 0, 1) := by decide +kernel
theorem dL_clock_2 : decode cL_clock 2 = .ok (.aload_n 0, 1) := by decide +kernel
theorem dL_clock_3 : decode cL_clock 3 = .ok (.iload_n 1, 1) := by decide +kernel
theorem dL_clock_4 : decode cL_clock 4 = .ok (.iload_n 2, 1) := by decide +kernel
theorem dL_clock_5 : decode cL_clock 5 = .ok (.invokevirtual 37, 3) := by decide +kernel
theorem dL_clock_8 : decode cL_clock 8 = .ok (.i2l, 1) := by decide +kernel
theorem dL_clock_9 : decode cL_clock 9 = .ok (.lastore, 1) := by decide +kernel
theorem dL_clock_10 : decode cL_clock 10 = .ok (.goto 7, 3) := by decide +kernel
theorem dL_clock_13 : decode cL_clock 13 = .ok (.astore 4, 2) := by decide +kernel
theorem dL_clock_15 : decode cL_clock 15 = .ok (.iconst 1, 1) := by decide +kernel
theorem dL_clock_16 : decode cL_clock 16 = .ok (.ireturn, 1) := by decide +kernel
theorem dL_clock_17 : decode cL_clock 17 = .ok (.iconst 0, 1) := by decide +kernel
theorem dL_clock_18 : decode cL_clock 18 = .ok (.ireturn, 1) := by decide +kernel
set_option maxRecDepth 20000 in
theorem ggL_off_X1_off : GoodIn wsL_off wsX1_off := goodIn_ca (goodIn_r _ [6, 7, 8, 9, 10, 11, 5, 12, 13, 14, 15, 16, 17, 18, 19, 20, 21, 22, 23, 24, 25, 26, 27, 28, 29, 30, 31, 32, 33, 34, 35, 36, 37, 38, 39, 40, 41, 42, 43] (by decide +kernel) (by decide +kernel)) (goodIn_sub (fun _ h => List.mem_cons_of_mem _ (List.mem_append_right _ h)) (by decide +kernel))
set_option maxRecDepth 20000 in
theorem gL_off_X1_off : GoodIn wsL_off (wsV RL 40 RX1 yX1_off wsX1_off) := goodIn_app (goodIn_of _ (by decide +kernel)) ggL_off_X1_off
theorem dL_off_0 : decode cL_off 0 = .ok (.aload_n 2, 1) := by decide +kernel
theorem dL_off_1 : decode cL_off 1 = .ok (.iconst 0, 1) := by decide +kernel
theorem dL_off_2 : decode cL_off 2 = .ok (.aload_n 0, 1) := by decide +kernel
theorem dL_off_3 : decode cL_off 3 = .ok (.iload_n 1, 1) := by decide +kernel
theorem dL_off_4 : decode cL_off 4 = .ok (.invokevirtual 40, 3) := by decide +kernel
theorem dL_off_7 : decode cL_off 7 = .ok (.i2l, 1) := by decide +kernel
theorem dL_off_8 : decode cL_off 8 = .ok (.lastore, 1) := by decide +kernel
theorem dL_off_9 : decode cL_off 9 = .ok (.goto 6, 3) := by decide +kernel
theorem dL_off_12 : decode cL_off 12 = .ok (.astore_n 3, 1) := by decide +kernel
theorem dL_off_13 : decode cL_off 13 = .ok (.iconst 1, 1) := by decide +kernel
theorem dL_off_14 : decode cL_off 14 = .ok (.ireturn, 1) := by decide +kernel
theorem dL_off_15 : decode cL_off 15 = .ok (.iconst 0, 1) := by decide +kernel
theorem dL_off_16 : decode cL_off 16 = .ok (.ireturn, 1) := by decide +kernel
set_option maxRecDepth 20000 in
theorem ggL_count_X1_count : GoodIn wsL_count wsX1_count := goodIn_ca (goodIn_r _ [6, 7, 8, 9, 10, 5, 11, 12, 13, 14, 15, 16, 17, 18, 19, 20, 21, 22, 23, 24, 25, 26, 27, 28, 29, 30, 31, 32, 33, 34, 35, 36, 37, 38, 39, 40, 41, 42, 43, 44, 45, 46, 47, 48, 49, 50, 51, 52, 53, 54, 55, 56, 57, 58, 59, 60, 61, 62, 63, 64, 65, 66, 67, 68, 69, 70, 71, 72, 73, 74, 75, 76, 77, 78, 79, 80, 81, 82, 83, 84, 85, 86, 87, 88, 89, 90, 91, 92] (by decide +kernel) (by decide +kernel)) (goodIn_sub (fun _ h => List.mem_cons_of_mem _ (List.mem_append_right _ h)) (by decide +kernel))
set_option maxRecDepth 20000 in
theorem gL_count_X1_count : GoodIn wsL_count (wsV RL 43 RX1 yX1_count wsX1_count) := goodIn_app (goodIn_of _ (by decide +kernel)) ggL_count_X1_count
theorem dL_count_0 : decode cL_count 0 = .ok (.aload_n 2, 1) := by decide +kernel
theorem dL_count_1 : decode cL_count 1 = .ok (.iconst 0, 1) := by decide +kernel
theorem dL_count_2 : decode cL_count 2 = .ok (.aload_n 0, 1) := by decide +kernel
theorem dL_count_3 : decode cL_count 3 = .ok (.iload_n 1, 1) := by decide +kernel
theorem dL_count_4 : decode cL_count 4 = .ok (.invokevirtual 43, 3) := by decide +kernel
theorem dL_count_7 : decode cL_count 7 = .ok (.i2l, 1) := by decide +kernel
theorem dL_count_8 : decode cL_count 8 = .ok (.lastore, 1) := by decide +kernel
theorem dL_count_9 : decode cL_count 9 = .ok (.goto 6, 3) := by decide +kernel
theorem dL_count_12 : decode cL_count 12 = .ok (.astore_n 3, 1) := by decide +kernel
theorem dL_count_13 : decode cL_count 13 = .ok (.iconst 1, 1) := by decide +kernel
theorem dL_count_14 : decode cL_count 14 = .ok (.ireturn, 1) := by decide +kernel
theorem dL_count_15 : decode cL_count 15 = .ok (.iconst 0, 1) := by decide +kernel
theorem dL_count_16 : decode cL_count 16 = .ok (.ireturn, 1) := by decide +kernel
set_option maxRecDepth 20000 in
theorem ggL_pass_X1_pass : GoodIn wsL_pass wsX1_pass := goodIn_ca (goodIn_r _ [6, 7, 8, 9, 10, 5, 11, 12, 13, 14, 15, 16, 17, 18, 19, 20, 21, 22, 23, 24, 25, 26, 27, 28, 29, 30, 31, 32, 33, 34, 35, 36, 37, 38, 39, 40, 41, 42, 43, 44, 45, 46, 47, 48, 49, 50, 51, 52, 53, 54, 55, 56, 57, 58, 59, 60, 61, 62, 63, 64, 65, 66, 67, 68, 69, 70, 71, 72, 73, 74, 75, 76, 77, 78, 79, 80, 81, 82, 83, 84, 85, 86, 87, 88] (by decide +kernel) (by decide +kernel)) (goodIn_sub (fun _ h => List.mem_cons_of_mem _ (List.mem_append_right _ h)) (by decide +kernel))
set_option maxRecDepth 20000 in
theorem gL_pass_X1_pass : GoodIn wsL_pass (wsV RL 46 RX1 yX1_pass wsX1_pass) := goodIn_app (goodIn_of _ (by decide +kernel)) ggL_pass_X1_pass
theorem dL_pass_0 : decode cL_pass 0 = .ok (.aload_n 2, 1) := by decide +kernel
theorem dL_pass_1 : decode cL_pass 1 = .ok (.iconst 0, 1) := by decide +kernel
theorem dL_pass_2 : decode cL_pass 2 = .ok (.aload_n 0, 1) := by decide +kernel
theorem dL_pass_3 : decode cL_pass 3 = .ok (.iload_n 1, 1) := by decide +kernel
theorem dL_pass_4 : decode cL_pass 4 = .ok (.invokevirtual 46, 3) := by decide +kernel
theorem dL_pass_7 : decode cL_pass 7 = .ok (.i2l, 1) := by decide +kernel
theorem dL_pass_8 : decode cL_pass 8 = .ok (.lastore, 1) := by decide +kernel
theorem dL_pass_9 : decode cL_pass 9 = .ok (.goto 6, 3) := by decide +kernel
theorem dL_pass_12 : decode cL_pass 12 = .ok (.astore_n 3, 1) := by decide +kernel
theorem dL_pass_13 : decode cL_pass 13 = .ok (.iconst 1, 1) := by decide +kernel
theorem dL_pass_14 : decode cL_pass 14 = .ok (.ireturn, 1) := by decide +kernel
theorem dL_pass_15 : decode cL_pass 15 = .ok (.iconst 0, 1) := by decide +kernel
theorem dL_pass_16 : decode cL_pass 16 = .ok (.ireturn, 1) := by decide +kernel
set_option maxRecDepth 20000 in
theorem ggL_next_X1_next : GoodIn wsL_next wsX1_next := goodIn_ca (goodIn_r _ [6, 7, 8, 9, 10, 11, 12, 5, 13, 14, 15, 16, 17, 18, 19, 20, 21, 22, 23, 24, 25, 26, 27, 28, 29, 30, 31, 32, 33, 34, 35, 36, 37, 38, 39, 40, 41, 42, 43, 44, 45, 46, 47, 48, 49, 50, 51, 52, 53, 54, 55, 56, 57, 58, 59, 60, 61, 62, 63, 64, 65, 66, 67, 68, 69, 70, 71, 72, 73, 74, 75, 76, 77, 78, 79, 80, 81, 82, 83, 84, 85, 86] (by decide +kernel) (by decide +kernel)) (goodIn_sub (fun _ h => List.mem_cons_of_mem _ (List.mem_append_right _ h)) (by decide +kernel))
set_option maxRecDepth 20000 in
theorem gL_next_X1_next : GoodIn wsL_next (wsV RL 49 RX1 yX1_next wsX1_next) := goodIn_app (goodIn_of _ (by decide +kernel)) ggL_next_X1_next
theorem dL_next_0 : decode cL_next 0 = .ok (.aload_n 2, 1) := by decide +kernel
theorem dL_next_1 : decode cL_next 1 = .ok (.iconst 0, 1) := by decide +kernel
theorem dL_next_2 : decode cL_next 2 = .ok (.aload_n 0, 1) := by decide +kernel
theorem dL_next_3 : decode cL_next 3 = .ok (.iload_n 1, 1) := by decide +kernel
theorem dL_next_4 : decode cL_next 4 = .ok (.invokevirtual 49, 3) := by decide +kernel
theorem dL_next_7 : decode cL_next 7 = .ok (.i2l, 1) := by decide +kernel
theorem dL_next_8 : decode cL_next 8 = .ok (.lastore, 1) := by decide +kernel
theorem dL_next_9 : decode cL_next 9 = .ok (.goto 6, 3) := by decide +kernel
theorem dL_next_12 : decode cL_next 12 = .ok (.astore_n 3, 1) := by decide +kernel
theorem dL_next_13 : decode cL_next 13 = .ok (.iconst 1, 1) := by decide +kernel
theorem dL_next_14 : decode cL_next 14 = .ok (.ireturn, 1) := by decide +kernel
theorem dL_next_15 : decode cL_next 15 = .ok (.iconst 0, 1) := by decide +kernel
theorem dL_next_16 : decode cL_next 16 = .ok (.ireturn, 1) := by decide +kernel
set_option maxRecDepth 20000 in
theorem ggL_stands_X1_stands : GoodIn wsL_stands wsX1_stands := goodIn_ca (goodIn_r _ [6, 7, 8, 9, 10, 5, 11, 12, 13, 14, 15, 16, 17, 18, 19, 20, 21, 22, 23, 24, 25, 26, 27, 28, 29, 30, 31, 32, 33, 34, 35, 36, 37, 38] (by decide +kernel) (by decide +kernel)) (goodIn_sub (fun _ h => List.mem_cons_of_mem _ (List.mem_append_right _ h)) (by decide +kernel))
set_option maxRecDepth 20000 in
theorem gL_stands_X1_stands : GoodIn wsL_stands (wsV RL 52 RX1 yX1_stands wsX1_stands) := goodIn_app (goodIn_of _ (by decide +kernel)) ggL_stands_X1_stands
theorem dL_stands_0 : decode cL_stands 0 = .ok (.aload_n 2, 1) := by decide +kernel
theorem dL_stands_1 : decode cL_stands 1 = .ok (.iconst 0, 1) := by decide +kernel
theorem dL_stands_2 : decode cL_stands 2 = .ok (.aload_n 0, 1) := by decide +kernel
theorem dL_stands_3 : decode cL_stands 3 = .ok (.iload_n 1, 1) := by decide +kernel
theorem dL_stands_4 : decode cL_stands 4 = .ok (.invokevirtual 52, 3) := by decide +kernel
theorem dL_stands_7 : decode cL_stands 7 = .ok (.i2l, 1) := by decide +kernel
theorem dL_stands_8 : decode cL_stands 8 = .ok (.lastore, 1) := by decide +kernel
theorem dL_stands_9 : decode cL_stands 9 = .ok (.goto 6, 3) := by decide +kernel
theorem dL_stands_12 : decode cL_stands 12 = .ok (.astore_n 3, 1) := by decide +kernel
theorem dL_stands_13 : decode cL_stands 13 = .ok (.iconst 1, 1) := by decide +kernel
theorem dL_stands_14 : decode cL_stands 14 = .ok (.ireturn, 1) := by decide +kernel
theorem dL_stands_15 : decode cL_stands 15 = .ok (.iconst 0, 1) := by decide +kernel
theorem dL_stands_16 : decode cL_stands 16 = .ok (.ireturn, 1) := by decide +kernel
set_option maxRecDepth 20000 in
theorem ggL_loudest_X1_loudest : GoodIn wsL_loudest wsX1_loudest := goodIn_ca (goodIn_r _ [6, 7, 8, 9, 10, 5, 11, 12, 13, 14, 15, 16, 17, 18, 19, 20, 21, 22, 23, 24, 25, 26, 27, 28, 29, 30, 31, 32, 33, 34, 35, 36, 37, 38, 39, 40, 41, 42, 43, 44, 45, 46, 47, 48, 49, 50, 51, 52, 53, 54, 55, 56, 57, 58, 59, 60, 61, 62, 63, 64, 65, 66, 67, 68, 69, 70, 71, 72, 73, 74, 75, 76, 77, 78, 79, 80, 81, 82, 83, 84, 85, 86, 87, 88, 89, 90, 91, 92, 93, 94, 95, 96] (by decide +kernel) (by decide +kernel)) (goodIn_sub (fun _ h => List.mem_cons_of_mem _ (List.mem_append_right _ h)) (by decide +kernel))
set_option maxRecDepth 20000 in
theorem gL_loudest_X1_loudest : GoodIn wsL_loudest (wsV RL 55 RX1 yX1_loudest wsX1_loudest) := goodIn_app (goodIn_of _ (by decide +kernel)) ggL_loudest_X1_loudest
theorem dL_loudest_0 : decode cL_loudest 0 = .ok (.aload_n 2, 1) := by decide +kernel
theorem dL_loudest_1 : decode cL_loudest 1 = .ok (.iconst 0, 1) := by decide +kernel
theorem dL_loudest_2 : decode cL_loudest 2 = .ok (.aload_n 0, 1) := by decide +kernel
theorem dL_loudest_3 : decode cL_loudest 3 = .ok (.iload_n 1, 1) := by decide +kernel
theorem dL_loudest_4 : decode cL_loudest 4 = .ok (.invokevirtual 55, 3) := by decide +kernel
theorem dL_loudest_7 : decode cL_loudest 7 = .ok (.i2l, 1) := by decide +kernel
theorem dL_loudest_8 : decode cL_loudest 8 = .ok (.lastore, 1) := by decide +kernel
theorem dL_loudest_9 : decode cL_loudest 9 = .ok (.goto 6, 3) := by decide +kernel
theorem dL_loudest_12 : decode cL_loudest 12 = .ok (.astore_n 3, 1) := by decide +kernel
theorem dL_loudest_13 : decode cL_loudest 13 = .ok (.iconst 1, 1) := by decide +kernel
theorem dL_loudest_14 : decode cL_loudest 14 = .ok (.ireturn, 1) := by decide +kernel
theorem dL_loudest_15 : decode cL_loudest 15 = .ok (.iconst 0, 1) := by decide +kernel
theorem dL_loudest_16 : decode cL_loudest 16 = .ok (.ireturn, 1) := by decide +kernel
set_option maxRecDepth 20000 in
theorem ggL_foresee_X1_foresee : GoodIn wsL_foresee wsX1_foresee := goodIn_ca (goodIn_ca (goodIn_r _ [7, 8, 9, 10, 11, 12, 13, 14, 6, 15, 16, 17, 18, 19, 20, 21, 22, 23, 24, 25, 26, 27, 28, 29, 30, 31, 32, 33, 34, 35, 36, 37, 38, 39, 40, 41, 42, 43, 44, 45, 46, 47, 48, 49, 50, 51, 52, 53, 54, 55, 56, 57, 58, 59, 60, 61, 62, 63, 64, 65, 66, 67, 68, 69, 70, 71, 72, 73, 74, 75, 76, 77, 78, 79, 80, 81, 82, 83, 84, 85, 86, 87, 88, 89, 90, 91, 92, 93, 94, 95, 96, 97, 98, 99, 100, 101, 102, 103, 104, 105, 106, 107, 108, 109, 110, 111, 112, 113, 114, 115, 116, 117, 118, 119, 120, 121, 122, 123] (by decide +kernel) (by decide +kernel)) (goodIn_sub (fun _ h => List.mem_cons_of_mem _ (List.mem_append_left _ (List.mem_append_right _ h))) (by decide +kernel))) (goodIn_sub (fun _ h => List.mem_cons_of_mem _ (List.mem_append_right _ h)) (by decide +kernel))
set_option maxRecDepth 20000 in
theorem gL_foresee_X1_foresee : GoodIn wsL_foresee (wsV RL 58 RX1 yX1_foresee wsX1_foresee) := goodIn_app (goodIn_of _ (by decide +kernel)) ggL_foresee_X1_foresee
theorem dL_foresee_0 : decode cL_foresee 0 = .ok (.aload_n 3, 1) := by decide +kernel
theorem dL_foresee_1 : decode cL_foresee 1 = .ok (.iconst 0, 1) := by decide +kernel
theorem dL_foresee_2 : decode cL_foresee 2 = .ok (.aload_n 0, 1) := by decide +kernel
theorem dL_foresee_3 : decode cL_foresee 3 = .ok (.iload_n 1, 1) := by decide +kernel
theorem dL_foresee_4 : decode cL_foresee 4 = .ok (.iload_n 2, 1) := by decide +kernel
theorem dL_foresee_5 : decode cL_foresee 5 = .ok (.invokevirtual 58, 3) := by decide +kernel
theorem dL_foresee_8 : decode cL_foresee 8 = .ok (.i2l, 1) := by decide +kernel
theorem dL_foresee_9 : decode cL_foresee 9 = .ok (.lastore, 1) := by decide +kernel
theorem dL_foresee_10 : decode cL_foresee 10 = .ok (.goto 11, 3) := by decide +kernel
theorem dL_foresee_13 : decode cL_foresee 13 = .ok (.astore 4, 2) := by decide +kernel
theorem dL_foresee_15 : decode cL_foresee 15 = .ok (.iconst 1, 1) := by decide +kernel
theorem dL_foresee_16 : decode cL_foresee 16 = .ok (.ireturn, 1) := by decide +kernel
theorem dL_foresee_17 : decode cL_foresee 17 = .ok (.astore 4, 2) := by decide +kernel
theorem dL_foresee_19 : decode cL_foresee 19 = .ok (.iconst 2, 1) := by decide +kernel
theorem dL_foresee_20 : decode cL_foresee 20 = .ok (.ireturn, 1) := by decide +kernel
theorem dL_foresee_21 : decode cL_foresee 21 = .ok (.iconst 0, 1) := by decide +kernel
theorem dL_foresee_22 : decode cL_foresee 22 = .ok (.ireturn, 1) := by decide +kernel
set_option maxRecDepth 20000 in
theorem ggL_advise_X1_advise : GoodIn wsL_advise wsX1_advise := goodIn_ca (goodIn_r _ [6, 7, 8, 9, 10, 5, 11, 12, 13, 14, 15, 16, 17, 18, 19, 20, 21, 22, 23, 24, 25, 26, 27, 28, 29, 30, 31, 32, 33, 34, 35, 36, 37, 38, 39, 40, 41, 42, 43, 44, 45, 46, 47] (by decide +kernel) (by decide +kernel)) (goodIn_sub (fun _ h => List.mem_cons_of_mem _ (List.mem_append_right _ h)) (by decide +kernel))
set_option maxRecDepth 20000 in
theorem gL_advise_X1_advise : GoodIn wsL_advise (wsV RL 61 RX1 yX1_advise wsX1_advise) := goodIn_app (goodIn_of _ (by decide +kernel)) ggL_advise_X1_advise
theorem dL_advise_0 : decode cL_advise 0 = .ok (.aload_n 2, 1) := by decide +kernel
theorem dL_advise_1 : decode cL_advise 1 = .ok (.iconst 0, 1) := by decide +kernel
theorem dL_advise_2 : decode cL_advise 2 = .ok (.aload_n 0, 1) := by decide +kernel
theorem dL_advise_3 : decode cL_advise 3 = .ok (.iload_n 1, 1) := by decide +kernel
theorem dL_advise_4 : decode cL_advise 4 = .ok (.invokevirtual 61, 3) := by decide +kernel
theorem dL_advise_7 : decode cL_advise 7 = .ok (.i2l, 1) := by decide +kernel
theorem dL_advise_8 : decode cL_advise 8 = .ok (.lastore, 1) := by decide +kernel
theorem dL_advise_9 : decode cL_advise 9 = .ok (.goto 6, 3) := by decide +kernel
theorem dL_advise_12 : decode cL_advise 12 = .ok (.astore_n 3, 1) := by decide +kernel
theorem dL_advise_13 : decode cL_advise 13 = .ok (.iconst 1, 1) := by decide +kernel
theorem dL_advise_14 : decode cL_advise 14 = .ok (.ireturn, 1) := by decide +kernel
theorem dL_advise_15 : decode cL_advise 15 = .ok (.iconst 0, 1) := by decide +kernel
theorem dL_advise_16 : decode cL_advise 16 = .ok (.ireturn, 1) := by decide +kernel
set_option maxRecDepth 20000 in
theorem ggL_law_X1_init : GoodIn wsL_law wsX1_init := goodIn_r _ [9, 10, 11, 12, 13, 14, 15, 16, 17, 18, 19, 20, 21, 22, 23, 24, 25, 26, 27, 28, 29, 30, 31, 32, 33, 34, 35, 36, 455, 456, 457, 458, 463, 464, 465, 466, 467, 468, 469, 470, 471, 472, 473, 474, 475, 476] (by decide +kernel) (by decide +kernel)
set_option maxRecDepth 20000 in
theorem gL_law_X1_init : GoodIn wsL_law (wsX1_init) := ggL_law_X1_init
set_option maxRecDepth 20000 in
theorem ggL_law_X2_init : GoodIn wsL_law wsX2_init := goodIn_r _ [39, 40, 11, 12, 41, 42, 43, 459, 460, 461, 462] (by decide +kernel) (by decide +kernel)
set_option maxRecDepth 20000 in
theorem gL_law_X2_init : GoodIn wsL_law (wsX2_init) := ggL_law_X2_init
set_option maxRecDepth 20000 in
theorem ggL_law_L_come : GoodIn wsL_law wsL_come := goodIn_ca (goodIn_ca (goodIn_r _ [47, 48, 49, 50, 51, 52, 2, 53, 54, 55, 18, 14, 56, 57, 58, 59, 60, 61, 62, 63, 64, 17, 65, 66, 30, 31, 455, 456, 457, 458, 463, 464, 465, 466, 467, 468, 469, 470, 471, 472, 473, 474, 475, 476] (by decide +kernel) (by decide +kernel)) (goodIn_sub (fun _ h => List.mem_append_left _ (List.mem_append_left _ (List.mem_append_right _ h))) (by decide +kernel))) (goodIn_sub (fun _ h => List.mem_append_left _ (List.mem_append_right _ h)) (by decide +kernel))
set_option maxRecDepth 20000 in
theorem gL_law_L_come : GoodIn wsL_law (va_wsS RL 68 yL_come wsL_come) := goodIn_app (goodIn_of _ (by decide +kernel)) ggL_law_L_come
set_option maxRecDepth 20000 in
theorem ggL_law_X2_come : GoodIn wsL_law wsX2_come := goodIn_r _ [70, 71, 72, 41, 42, 73, 74, 75, 76, 77, 78, 5, 79, 80, 81, 82, 83, 459, 460, 461, 462] (by decide +kernel) (by decide +kernel)
set_option maxRecDepth 20000 in
theorem gL_law_X2_come : GoodIn wsL_law (wsV RL 73 RX2 yX2_come wsX2_come) := goodIn_app (goodIn_of _ (by decide +kernel)) ggL_law_X2_come
set_option maxRecDepth 20000 in
theorem ggL_law_X2_thrown : GoodIn wsL_law wsX2_thrown := goodIn_r _ [87, 71, 459, 460, 461, 462] (by decide +kernel) (by decide +kernel)
set_option maxRecDepth 20000 in
theorem gL_law_X2_thrown : GoodIn wsL_law (wsV RL 74 RX2 yX2_thrown wsX2_thrown) := goodIn_app (goodIn_of _ (by decide +kernel)) ggL_law_X2_thrown
set_option maxRecDepth 20000 in
theorem ggL_law_L_gear : GoodIn wsL_law wsL_gear := goodIn_ca (goodIn_ca (goodIn_r _ [90, 91, 48, 92, 93, 94, 2, 95, 59, 60, 14, 96, 97, 98, 99, 100, 101, 18, 61, 62, 63, 102, 17, 103, 104, 23, 24, 25, 105, 106, 107, 108, 109, 110, 111, 27, 455, 456, 457, 458, 463, 464, 465, 466, 467, 468, 469, 470, 471, 472, 473, 474, 475, 476] (by decide +kernel) (by decide +kernel)) (goodIn_sub (fun _ h => List.mem_append_left _ (List.mem_append_right _ h)) (by decide +kernel))) (goodIn_sub (fun _ h => List.mem_append_right _ h) (by decide +kernel))
set_option maxRecDepth 20000 in
theorem gL_law_L_gear : GoodIn wsL_law (va_wsS RL 78 yL_gear wsL_gear) := goodIn_app (goodIn_of _ (by decide +kernel)) ggL_law_L_gear
set_option maxRecDepth 20000 in
theorem ggL_law_X2_gear : GoodIn wsL_law wsX2_gear := goodIn_r _ [115, 71, 116, 117, 118, 5, 119, 72, 77, 78, 79, 80, 81, 82, 83, 120, 121, 122, 123, 42, 124, 125, 126, 127, 128, 129, 130, 131, 132, 133, 134, 135, 459, 460, 461, 462] (by decide +kernel) (by decide +kernel)
set_option maxRecDepth 20000 in
theorem gL_law_X2_gear : GoodIn wsL_law (wsV RL 81 RX2 yX2_gear wsX2_gear) := goodIn_app (goodIn_of _ (by decide +kernel)) ggL_law_X2_gear
set_option maxRecDepth 20000 in
theorem ggL_law_L_set : GoodIn wsL_law wsL_set := goodIn_ca (goodIn_ca (goodIn_r _ [138, 91, 48, 139, 140, 141, 2, 142, 14, 19, 96, 97, 98, 99, 100, 101, 18, 56, 57, 58, 59, 60, 61, 62, 63, 143, 144, 145, 146, 147, 148, 149, 150, 151, 152, 64, 17, 65, 66, 30, 31, 455, 456, 457, 458, 463, 464, 465, 466, 467, 468, 469, 470, 471, 472, 473, 474, 475, 476] (by decide +kernel) (by decide +kernel)) (goodIn_sub (fun _ h => List.mem_append_right _ h) (by decide +kernel))) (goodIn_sub (fun _ h => List.mem_append_left _ (List.mem_append_right _ h)) (by decide +kernel))
set_option maxRecDepth 20000 in
theorem gL_law_L_set : GoodIn wsL_law (va_wsS RL 82 yL_set wsL_set) := goodIn_app (goodIn_of _ (by decide +kernel)) ggL_law_L_set
set_option maxRecDepth 20000 in
theorem ggL_law_X2_set : GoodIn wsL_law wsX2_set := goodIn_r _ [156, 71, 116, 117, 118, 5, 119, 72, 77, 78, 79, 80, 81, 82, 83, 157, 158, 159, 160, 43, 128, 129, 130, 131, 42, 120, 121, 122, 123, 459, 460, 461, 462] (by decide +kernel) (by decide +kernel)
set_option maxRecDepth 20000 in
theorem gL_law_X2_set : GoodIn wsL_law (wsV RL 85 RX2 yX2_set wsX2_set) := goodIn_app (goodIn_of _ (by decide +kernel)) ggL_law_X2_set
set_option maxRecDepth 20000 in
theorem ggL_law_L_wind : GoodIn wsL_law wsL_wind := goodIn_ca (goodIn_r _ [163, 91, 164, 165, 166, 2, 167, 14, 96, 97, 98, 99, 100, 101, 18, 168, 17, 169, 170, 26, 29, 455, 456, 457, 458, 463, 464, 465, 466, 467, 468, 469, 470, 471, 472, 473, 474, 475, 476] (by decide +kernel) (by decide +kernel)) (goodIn_sub (fun _ h => List.mem_append_right _ h) (by decide +kernel))
set_option maxRecDepth 20000 in
theorem gL_law_L_wind : GoodIn wsL_law (va_wsS RL 86 yL_wind wsL_wind) := goodIn_app (goodIn_of _ (by decide +kernel)) ggL_law_L_wind
set_option maxRecDepth 20000 in
theorem ggL_law_X2_wind : GoodIn wsL_law wsX2_wind := goodIn_r _ [174, 71, 116, 117, 118, 5, 119, 72, 77, 78, 79, 80, 81, 82, 83, 128, 129, 130, 131, 42, 120, 121, 122, 123, 459, 460, 461, 462] (by decide +kernel) (by decide +kernel)
set_option maxRecDepth 20000 in
theorem gL_law_X2_wind : GoodIn wsL_law (wsV RL 88 RX2 yX2_wind wsX2_wind) := goodIn_app (goodIn_of _ (by decide +kernel)) ggL_law_X2_wind
set_option maxRecDepth 20000 in
theorem ggL_law_L_mend : GoodIn wsL_law wsL_mend := goodIn_ca (goodIn_ca (goodIn_r _ [177, 91, 48, 178, 179, 180, 2, 181, 59, 60, 14, 96, 97, 98, 99, 100, 101, 18, 182, 17, 183, 184, 27, 185, 186, 187, 28, 188, 189, 190, 29, 26, 455, 456, 457, 458, 463, 464, 465, 466, 467, 468, 469, 470, 471, 472, 473, 474, 475, 476] (by decide +kernel) (by decide +kernel)) (goodIn_sub (fun _ h => List.mem_append_left _ (List.mem_append_right _ h)) (by decide +kernel))) (goodIn_sub (fun _ h => List.mem_append_right _ h) (by decide +kernel))
set_option maxRecDepth 20000 in
theorem gL_law_L_mend : GoodIn wsL_law (va_wsS RL 89 yL_mend wsL_mend) := goodIn_app (goodIn_of _ (by decide +kernel)) ggL_law_L_mend
set_option maxRecDepth 20000 in
theorem ggL_law_X2_mend : GoodIn wsL_law wsX2_mend := goodIn_r _ [194, 71, 116, 117, 118, 5, 119, 72, 77, 78, 79, 80, 81, 82, 83, 128, 129, 130, 131, 42, 120, 121, 122, 123, 459, 460, 461, 462] (by decide +kernel) (by decide +kernel)
set_option maxRecDepth 20000 in
theorem gL_law_X2_mend : GoodIn wsL_law (wsV RL 91 RX2 yX2_mend wsX2_mend) := goodIn_app (goodIn_of _ (by decide +kernel)) ggL_law_X2_mend
set_option maxRecDepth 20000 in
theorem ggL_law_L_shut : GoodIn wsL_law wsL_shut := goodIn_ca (goodIn_ca (goodIn_r _ [197, 91, 48, 198, 199, 200, 2, 201, 59, 60, 14, 96, 97, 98, 99, 100, 101, 18, 56, 57, 58, 61, 62, 63, 202, 17, 203, 204, 32, 33, 455, 456, 457, 458, 463, 464, 465, 466, 467, 468, 469, 470, 471, 472, 473, 474, 475, 476] (by decide +kernel) (by decide +kernel)) (goodIn_sub (fun _ h => List.mem_append_left _ (List.mem_append_right _ h)) (by decide +kernel))) (goodIn_sub (fun _ h => List.mem_append_right _ h) (by decide +kernel))
set_option maxRecDepth 20000 in
theorem gL_law_L_shut : GoodIn wsL_law (va_wsS RL 92 yL_shut wsL_shut) := goodIn_app (goodIn_of _ (by decide +kernel)) ggL_law_L_shut
set_option maxRecDepth 20000 in
theorem ggL_law_X2_shut : GoodIn wsL_law wsX2_shut := goodIn_r _ [208, 71, 116, 117, 118, 5, 119, 72, 77, 78, 79, 80, 81, 82, 83, 128, 129, 130, 131, 42, 120, 121, 122, 123, 459, 460, 461, 462] (by decide +kernel) (by decide +kernel)
set_option maxRecDepth 20000 in
theorem gL_law_X2_shut : GoodIn wsL_law (wsV RL 95 RX2 yX2_shut wsX2_shut) := goodIn_app (goodIn_of _ (by decide +kernel)) ggL_law_X2_shut
set_option maxRecDepth 20000 in
theorem ggL_law_L_clock : GoodIn wsL_law wsL_clock := goodIn_ca (goodIn_r _ [211, 91, 212, 213, 214, 2, 215, 100, 101, 14, 96, 97, 98, 99, 18, 61, 62, 63, 216, 17, 217, 218, 30, 31, 26, 27, 28, 29, 34, 35, 36, 219, 105, 106, 107, 23, 24, 108, 109, 110, 111, 25, 220, 221, 222, 223, 32, 33, 455, 456, 457, 458, 463, 464, 465, 466, 467, 468, 469, 470, 471, 472, 473, 474, 475, 476] (by decide +kernel) (by decide +kernel)) (goodIn_sub (fun _ h => List.mem_append_right _ h) (by decide +kernel))
set_option maxRecDepth 20000 in
theorem gL_law_L_clock : GoodIn wsL_law (va_wsS RL 96 yL_clock wsL_clock) := goodIn_app (goodIn_of _ (by decide +kernel)) ggL_law_L_clock
set_option maxRecDepth 20000 in
theorem ggL_law_X2_clock : GoodIn wsL_law wsX2_clock := goodIn_r _ [227, 71, 116, 117, 118, 5, 119, 72, 77, 78, 79, 228, 229, 230, 231, 124, 125, 126, 127, 128, 129, 130, 131, 42, 132, 133, 134, 135, 232, 233, 234, 235, 80, 81, 82, 83, 459, 460, 461, 462] (by decide +kernel) (by decide +kernel)
set_option maxRecDepth 20000 in
theorem gL_law_X2_clock : GoodIn wsL_law (wsV RL 98 RX2 yX2_clock wsX2_clock) := goodIn_app (goodIn_of _ (by decide +kernel)) ggL_law_X2_clock
set_option maxRecDepth 20000 in
theorem ggL_law_L_off : GoodIn wsL_law wsL_off := goodIn_ca (goodIn_r _ [238, 91, 239, 240, 241, 2, 242, 14, 19, 96, 97, 98, 99, 100, 101, 18, 143, 144, 145, 146, 147, 148, 149, 150, 151, 152, 455, 456, 457, 458, 463, 464, 465, 466, 467, 468, 469, 470, 471, 472, 473, 474, 475, 476] (by decide +kernel) (by decide +kernel)) (goodIn_sub (fun _ h => List.mem_append_right _ h) (by decide +kernel))
set_option maxRecDepth 20000 in
theorem gL_law_L_off : GoodIn wsL_law (va_wsS RL 99 yL_off wsL_off) := goodIn_app (goodIn_of _ (by decide +kernel)) ggL_law_L_off
set_option maxRecDepth 20000 in
theorem ggL_law_X2_off : GoodIn wsL_law wsX2_off := goodIn_r _ [246, 71, 116, 117, 118, 5, 119, 72, 77, 78, 79, 157, 158, 159, 160, 43, 128, 129, 130, 131, 42, 80, 81, 82, 83, 459, 460, 461, 462] (by decide +kernel) (by decide +kernel)
set_option maxRecDepth 20000 in
theorem gL_law_X2_off : GoodIn wsL_law (wsV RL 101 RX2 yX2_off wsX2_off) := goodIn_app (goodIn_of _ (by decide +kernel)) ggL_law_X2_off
set_option maxRecDepth 20000 in
theorem ggL_law_L_count : GoodIn wsL_law wsL_count := goodIn_ca (goodIn_r _ [249, 91, 250, 251, 252, 2, 253, 100, 101, 61, 62, 63, 254, 255, 256, 257, 19, 18, 14, 146, 147, 148, 149, 150, 151, 152, 258, 259, 260, 261, 216, 17, 217, 218, 30, 31, 26, 27, 28, 29, 34, 35, 36, 219, 105, 106, 107, 23, 24, 108, 109, 110, 111, 25, 220, 221, 222, 223, 32, 33, 262, 263, 264, 265, 143, 144, 145, 266, 267, 268, 269, 270, 271, 272, 273, 455, 456, 457, 458, 463, 464, 465, 466, 467, 468, 469, 470, 471, 472, 473, 474, 475, 476] (by decide +kernel) (by decide +kernel)) (goodIn_sub (fun _ h => List.mem_append_right _ h) (by decide +kernel))
set_option maxRecDepth 20000 in
theorem gL_law_L_count : GoodIn wsL_law (va_wsS RL 102 yL_count wsL_count) := goodIn_app (goodIn_of _ (by decide +kernel)) ggL_law_L_count
set_option maxRecDepth 20000 in
theorem ggL_law_X2_count : GoodIn wsL_law wsX2_count := goodIn_r _ [277, 71, 77, 78, 5, 79, 278, 279, 280, 281, 43, 72, 282, 271, 272, 273, 283, 284, 285, 286, 128, 129, 130, 131, 42, 157, 158, 159, 160, 80, 81, 82, 83, 459, 460, 461, 462] (by decide +kernel) (by decide +kernel)
set_option maxRecDepth 20000 in
theorem gL_law_X2_count : GoodIn wsL_law (wsV RL 104 RX2 yX2_count wsX2_count) := goodIn_app (goodIn_of _ (by decide +kernel)) ggL_law_X2_count
set_option maxRecDepth 20000 in
theorem ggL_law_L_pass : GoodIn wsL_law wsL_pass := goodIn_ca (goodIn_r _ [289, 48, 290, 291, 292, 2, 293, 14, 19, 294, 295, 296, 59, 60, 61, 62, 63, 297, 298, 299, 300, 18, 301, 17, 302, 303, 36, 29, 304, 305, 306, 307, 31, 30, 219, 105, 106, 107, 23, 24, 108, 109, 110, 111, 25, 27, 220, 221, 222, 223, 32, 33, 308, 309, 310, 311, 312, 313, 314, 28, 315, 316, 272, 317, 34, 35, 318, 319, 320, 321, 26, 455, 456, 457, 458, 463, 464, 465, 466, 467, 468, 469, 470, 471, 472, 473, 474, 475, 476] (by decide +kernel) (by decide +kernel)) (goodIn_sub (fun _ h => List.mem_append_left _ (List.mem_append_right _ h)) (by decide +kernel))
set_option maxRecDepth 20000 in
theorem gL_law_L_pass : GoodIn wsL_law (va_wsS RL 105 yL_pass wsL_pass) := goodIn_app (goodIn_of _ (by decide +kernel)) ggL_law_L_pass
set_option maxRecDepth 20000 in
theorem ggL_law_X2_pass : GoodIn wsL_law wsX2_pass := goodIn_r _ [325, 71, 77, 78, 5, 79, 80, 81, 82, 83, 283, 284, 285, 286, 72, 128, 129, 130, 131, 42, 326, 327, 328, 329, 330, 331, 332, 333, 43, 334, 335, 272, 336, 120, 121, 122, 123, 124, 125, 126, 127, 132, 133, 134, 135, 337, 338, 339, 340, 341, 342, 343, 344, 345, 316, 317, 232, 233, 234, 235, 459, 460, 461, 462] (by decide +kernel) (by decide +kernel)
set_option maxRecDepth 20000 in
theorem gL_law_X2_pass : GoodIn wsL_law (wsV RL 107 RX2 yX2_pass wsX2_pass) := goodIn_app (goodIn_of _ (by decide +kernel)) ggL_law_X2_pass
set_option maxRecDepth 20000 in
theorem ggL_law_L_next : GoodIn wsL_law wsL_next := goodIn_ca (goodIn_r _ [348, 91, 349, 350, 351, 2, 352, 15, 14, 19, 96, 97, 98, 99, 100, 101, 18, 353, 17, 354, 355, 23, 24, 25, 26, 27, 28, 29, 30, 31, 32, 33, 34, 35, 36, 301, 302, 303, 304, 305, 306, 307, 219, 105, 106, 107, 108, 109, 110, 111, 220, 221, 222, 223, 308, 309, 310, 311, 312, 313, 314, 315, 316, 272, 317, 318, 319, 320, 321, 455, 456, 457, 458, 463, 464, 465, 466, 467, 468, 469, 470, 471, 472, 473, 474, 475, 476] (by decide +kernel) (by decide +kernel)) (goodIn_sub (fun _ h => List.mem_append_right _ h) (by decide +kernel))
set_option maxRecDepth 20000 in
theorem gL_law_L_next : GoodIn wsL_law (va_wsS RL 108 yL_next wsL_next) := goodIn_app (goodIn_of _ (by decide +kernel)) ggL_law_L_next
set_option maxRecDepth 20000 in
theorem ggL_law_X2_next : GoodIn wsL_law wsX2_next := goodIn_r _ [359, 71, 116, 117, 118, 5, 119, 72, 77, 78, 79, 80, 81, 82, 83, 360, 361, 362, 363, 364, 42, 365, 366, 367, 368, 369, 43, 330, 331, 332, 333, 334, 335, 272, 336, 120, 121, 122, 123, 128, 129, 130, 131, 124, 125, 126, 127, 132, 133, 134, 135, 337, 338, 339, 340, 341, 342, 343, 344, 345, 316, 317, 232, 233, 234, 235, 370, 371, 372, 373, 73, 74, 75, 76, 459, 460, 461, 462] (by decide +kernel) (by decide +kernel)
set_option maxRecDepth 20000 in
theorem gL_law_X2_next : GoodIn wsL_law (wsV RL 110 RX2 yX2_next wsX2_next) := goodIn_app (goodIn_of _ (by decide +kernel)) ggL_law_X2_next
set_option maxRecDepth 20000 in
theorem ggL_law_L_stands : GoodIn wsL_law wsL_stands := goodIn_ca (goodIn_r _ [376, 91, 377, 378, 379, 2, 380, 14, 96, 97, 98, 99, 100, 101, 18, 381, 17, 382, 383, 29, 26, 455, 456, 457, 458, 463, 464, 465, 466, 467, 468, 469, 470, 471, 472, 473, 474, 475, 476] (by decide +kernel) (by decide +kernel)) (goodIn_sub (fun _ h => List.mem_append_right _ h) (by decide +kernel))
set_option maxRecDepth 20000 in
theorem gL_law_L_stands : GoodIn wsL_law (va_wsS RL 111 yL_stands wsL_stands) := goodIn_app (goodIn_of _ (by decide +kernel)) ggL_law_L_stands
set_option maxRecDepth 20000 in
theorem ggL_law_X2_stands : GoodIn wsL_law wsX2_stands := goodIn_r _ [387, 71, 116, 117, 118, 5, 119, 72, 77, 78, 79, 80, 81, 82, 83, 128, 129, 130, 131, 42, 459, 460, 461, 462] (by decide +kernel) (by decide +kernel)
set_option maxRecDepth 20000 in
theorem gL_law_X2_stands : GoodIn wsL_law (wsV RL 113 RX2 yX2_stands wsX2_stands) := goodIn_app (goodIn_of _ (by decide +kernel)) ggL_law_X2_stands
set_option maxRecDepth 20000 in
theorem ggL_law_L_loudest : GoodIn wsL_law wsL_loudest := goodIn_ca (goodIn_r _ [390, 48, 391, 392, 393, 2, 394, 15, 19, 294, 295, 296, 59, 60, 61, 62, 63, 395, 396, 397, 398, 18, 14, 353, 17, 354, 355, 23, 24, 25, 26, 27, 28, 29, 30, 31, 32, 33, 34, 35, 36, 297, 298, 299, 300, 301, 302, 303, 304, 305, 306, 307, 219, 105, 106, 107, 108, 109, 110, 111, 220, 221, 222, 223, 308, 309, 310, 311, 312, 313, 314, 315, 316, 272, 317, 318, 319, 320, 321, 455, 456, 457, 458, 463, 464, 465, 466, 467, 468, 469, 470, 471, 472, 473, 474, 475, 476] (by decide +kernel) (by decide +kernel)) (goodIn_sub (fun _ h => List.mem_append_left _ (List.mem_append_right _ h)) (by decide +kernel))
set_option maxRecDepth 20000 in
theorem gL_law_L_loudest : GoodIn wsL_law (va_wsS RL 114 yL_loudest wsL_loudest) := goodIn_app (goodIn_of _ (by decide +kernel)) ggL_law_L_loudest
set_option maxRecDepth 20000 in
theorem ggL_law_X2_loudest : GoodIn wsL_law wsX2_loudest := goodIn_r _ [402, 71, 77, 78, 5, 79, 80, 81, 82, 83, 360, 361, 362, 363, 364, 42, 365, 366, 367, 368, 369, 43, 330, 331, 332, 333, 72, 334, 335, 272, 336, 120, 121, 122, 123, 128, 129, 130, 131, 124, 125, 126, 127, 132, 133, 134, 135, 337, 338, 339, 340, 341, 342, 343, 344, 345, 316, 317, 232, 233, 234, 235, 283, 284, 285, 286, 370, 371, 372, 373, 73, 74, 75, 76, 459, 460, 461, 462] (by decide +kernel) (by decide +kernel)
set_option maxRecDepth 20000 in
theorem gL_law_X2_loudest : GoodIn wsL_law (wsV RL 116 RX2 yX2_loudest wsX2_loudest) := goodIn_app (goodIn_of _ (by decide +kernel)) ggL_law_X2_loudest
set_option maxRecDepth 20000 in
theorem ggL_law_L_foresee : GoodIn wsL_law wsL_foresee := goodIn_ca (goodIn_ca (goodIn_r _ [405, 48, 91, 406, 407, 408, 2, 409, 100, 101, 15, 19, 14, 294, 295, 296, 59, 60, 61, 62, 63, 395, 396, 397, 398, 18, 353, 17, 354, 355, 23, 24, 25, 26, 27, 28, 29, 30, 31, 32, 33, 34, 35, 36, 297, 298, 299, 300, 301, 302, 303, 304, 305, 306, 307, 219, 105, 106, 107, 108, 109, 110, 111, 220, 221, 222, 223, 308, 309, 310, 311, 312, 313, 314, 315, 316, 272, 317, 318, 319, 320, 321, 258, 259, 260, 261, 216, 217, 218, 266, 267, 268, 269, 270, 271, 273, 143, 144, 145, 146, 147, 148, 149, 150, 151, 152, 455, 456, 457, 458, 463, 464, 465, 466, 467, 468, 469, 470, 471, 472, 473, 474, 475, 476] (by decide +kernel) (by decide +kernel)) (goodIn_sub (fun _ h => List.mem_append_right _ h) (by decide +kernel))) (goodIn_sub (fun _ h => List.mem_append_left _ (List.mem_append_right _ h)) (by decide +kernel))
set_option maxRecDepth 20000 in
theorem gL_law_L_foresee : GoodIn wsL_law (va_wsS RL 117 yL_foresee wsL_foresee) := goodIn_app (goodIn_of _ (by decide +kernel)) ggL_law_L_foresee
set_option maxRecDepth 20000 in
theorem ggL_law_X2_foresee : GoodIn wsL_law wsX2_foresee := goodIn_r _ [413, 71, 77, 78, 5, 79, 80, 81, 82, 83, 360, 361, 362, 363, 364, 42, 365, 366, 367, 368, 369, 43, 283, 284, 285, 286, 72, 128, 129, 130, 131, 326, 327, 328, 329, 330, 331, 332, 333, 334, 335, 272, 336, 120, 121, 122, 123, 124, 125, 126, 127, 132, 133, 134, 135, 337, 338, 339, 340, 341, 342, 343, 344, 345, 316, 317, 232, 233, 234, 235, 278, 279, 280, 281, 282, 271, 273, 157, 158, 159, 160, 370, 371, 372, 373, 73, 74, 75, 76, 459, 460, 461, 462] (by decide +kernel) (by decide +kernel)
set_option maxRecDepth 20000 in
theorem gL_law_X2_foresee : GoodIn wsL_law (wsV RL 119 RX2 yX2_foresee wsX2_foresee) := goodIn_app (goodIn_of _ (by decide +kernel)) ggL_law_X2_foresee
set_option maxRecDepth 20000 in
theorem ggL_law_L_advise : GoodIn wsL_law wsL_advise := goodIn_ca (goodIn_r _ [416, 91, 417, 418, 419, 2, 420, 14, 96, 97, 98, 99, 100, 101, 18, 421, 17, 422, 423, 424, 425, 271, 272, 273, 108, 109, 110, 111, 25, 27, 455, 456, 457, 458, 463, 464, 465, 466, 467, 468, 469, 470, 471, 472, 473, 474, 475, 476] (by decide +kernel) (by decide +kernel)) (goodIn_sub (fun _ h => List.mem_append_right _ h) (by decide +kernel))
set_option maxRecDepth 20000 in
theorem gL_law_L_advise : GoodIn wsL_law (va_wsS RL 120 yL_advise wsL_advise) := goodIn_app (goodIn_of _ (by decide +kernel)) ggL_law_L_advise
set_option maxRecDepth 20000 in
theorem ggL_law_X2_advise : GoodIn wsL_law wsX2_advise := goodIn_r _ [429, 71, 282, 271, 272, 273, 116, 117, 118, 5, 119, 72, 77, 78, 79, 80, 81, 82, 83, 132, 133, 134, 135, 128, 129, 130, 131, 42, 459, 460, 461, 462] (by decide +kernel) (by decide +kernel)
set_option maxRecDepth 20000 in
theorem gL_law_X2_advise : GoodIn wsL_law (wsV RL 122 RX2 yX2_advise wsX2_advise) := goodIn_app (goodIn_of _ (by decide +kernel)) ggL_law_X2_advise
set_option maxRecDepth 20000 in
theorem ggL_law_X1_mean : GoodIn wsL_law wsX1_mean := goodIn_r _ [433, 18, 14, 105, 17, 106, 107, 23, 24, 108, 109, 110, 111, 25, 27, 455, 456, 457, 458, 463, 464, 465, 466, 467, 468, 469, 470, 471, 472, 473, 474, 475, 476] (by decide +kernel) (by decide +kernel)
set_option maxRecDepth 20000 in
theorem gL_law_X1_mean : GoodIn wsL_law (wsV RL 123 RX1 yX1_mean wsX1_mean) := goodIn_app (goodIn_of _ (by decide +kernel)) ggL_law_X1_mean
set_option maxRecDepth 20000 in
theorem ggL_law_X2_mean : GoodIn wsL_law wsX2_mean := goodIn_r _ [437, 71, 72, 128, 129, 130, 5, 131, 42, 124, 125, 126, 127, 132, 133, 134, 135, 283, 284, 285, 286, 459, 460, 461, 462] (by decide +kernel) (by decide +kernel)
set_option maxRecDepth 20000 in
theorem gL_law_X2_mean : GoodIn wsL_law (wsV RL 127 RX2 yX2_mean wsX2_mean) := goodIn_app (goodIn_of _ (by decide +kernel)) ggL_law_X2_mean
set_option maxRecDepth 20000 in
theorem ggL_law_X1_digest : GoodIn wsL_law wsX1_digest := goodIn_r _ [441, 442, 443, 18, 14, 254, 255, 256, 2, 257, 19, 146, 147, 148, 149, 150, 151, 152, 258, 259, 260, 261, 216, 17, 217, 218, 30, 31, 26, 27, 28, 29, 34, 35, 36, 219, 105, 106, 107, 23, 24, 108, 109, 110, 111, 25, 220, 221, 222, 223, 32, 33, 262, 263, 264, 265, 143, 144, 145, 266, 267, 268, 269, 270, 271, 272, 273, 444, 445, 446, 447, 448, 455, 456, 457, 458, 463, 464, 465, 466, 467, 468, 469, 470, 471, 472, 473, 474, 475, 476] (by decide +kernel) (by decide +kernel)
set_option maxRecDepth 20000 in
theorem gL_law_X1_digest : GoodIn wsL_law (wsV RL 128 RX1 yX1_digest wsX1_digest) := goodIn_app (goodIn_of _ (by decide +kernel)) ggL_law_X1_digest
set_option maxRecDepth 20000 in
theorem ggL_law_X2_digest : GoodIn wsL_law wsX2_digest := goodIn_r _ [452, 71, 453, 454, 72, 278, 279, 280, 5, 281, 43, 282, 271, 272, 273, 283, 284, 285, 286, 128, 129, 130, 131, 42, 157, 158, 159, 160, 228, 229, 230, 231, 124, 125, 126, 127, 132, 133, 134, 135, 232, 233, 234, 235, 459, 460, 461, 462] (by decide +kernel) (by decide +kernel)
set_option maxRecDepth 20000 in
theorem gL_law_X2_digest : GoodIn wsL_law (wsV RL 132 RX2 yX2_digest wsX2_digest) := goodIn_app (goodIn_of _ (by decide +kernel)) ggL_law_X2_digest
end
section
/-! THE FORMS: worlds, contracts, calls, in which every method of this claim is said (my own) -/
/-- a clock's cell: its numbers K, by the places 0 shown, 1 rest, 2 chain, 3 oil, 4 bellows, 5 goes, 6 calls, 7 missed, 8 latest, 9 a, 10 b, 11 swing, 12 from, 13 till -/
abbrev cu_ck (K : Nat → Int32) : List Value := [.int (K 9), .int (K 10), .int (K 11), .int (K 2), .int (K 3), .int (K 4), .int (K 5), .int (K 0), .int (K 1), .int (K 12), .int (K 13), .int (K 6), .int (K 7), .int (K 8)]
abbrev cu_wc (h : Nat) (K : Nat → Int32) : va_W := [(h, .inr (0, cu_ck K))]
def cu_row (a : Nat → Nat) (b : Nat) (K : Nat → Nat → Int32) : va_W := (List.range 10).map (fun i => (a (b + i), .inr (0, cu_ck (K i))))
/-- the shop: its object, its two rows, twenty clocks -/
def cu_cw (C : Nat → ClassId) (a : Nat → Nat) (n m : Int32) (K P : Nat → Nat → Int32) : va_W :=
  (a 0, .inr (1, [.ref (a 1), .ref (a 2), .int n, .int m])) :: (a 1, .inl (C 1, 10, .inr (.inr (.inr (.inr (fun i => some (a (3 + i)))))))) :: (a 2, .inl (C 1, 10, .inr (.inr (.inr (.inr (fun i => some (a (13 + i)))))))) :: (cu_row a 3 K ++ cu_row a 13 P)
def cu_sg (K : Nat → Nat → Int32) : Nat → Int32 := fun j => K (j / 14) (j % 14)
/-- the model: its object, its row of numbers, its minute -/
abbrev cu_mw (C : Nat → ClassId) (o r q : Nat) (th n m : Int32) (K : Nat → Nat → Int32) : va_W :=
  [(o, .inr (2, [.int th, .int n, .ref r, .ref q])), (r, .inl (C 0, 140, .inl (cu_sg K))), (q, .inl (C 0, 1, .inl (fun _ => m)))]
abbrev cu_tys (C : Nat → ClassId) : List (ClassId × FieldType) := [(C 0, .int), (C 1, .object "CuckooShop$Clock"), (C 2, .long), (C 3, .array .int)]
/-- links of nest mates, what may be cast and what not, texts: what a callee's list of words doesn't bear -/
def cu_nestM : List (Nat × MethodName) := [(18, yX0_init), (37, yX0_putHands), (54, yX0_fitTrain), (58, yX0_advance), (66, yX0_drawUp), (69, yX0_fillOil), (72, yX0_patchBellows), (75, yX0_nudge), (82, yX0_silence), (91, yX0_reading), (107, yX0_copyFrom), (111, yX0_runMinute), (117, yX0_minutesToStand), (131, yX0_truestGears), (142, yX0_mixInto)]
def cu_nestF : List (Nat × String × String) := [(114, "latestCalls", "I"), (134, "goes", "Z"), (157, "shown", "I")]
def cu_casts : List (String × String) := [("java/lang/IllegalArgumentException", "java/lang/IllegalArgumentException"), ("java/lang/IllegalStateException", "java/lang/IllegalStateException"), ("java/lang/IndexOutOfBoundsException", "java/lang/IndexOutOfBoundsException"), ("[I", "java/lang/Cloneable")]
def cu_nocasts : List (String × String) := [("java/lang/IllegalStateException", "java/lang/IllegalArgumentException"), ("java/lang/IllegalArgumentException", "java/lang/IndexOutOfBoundsException"), ("java/lang/IndexOutOfBoundsException", "java/lang/IllegalArgumentException")]
def cu_txts : List (Nat × String) := [(32, "there are 10 clocks"), (49, "a gear has 20 to 40 teeth"), (52, "a pendulum is -20 to 20"), (78, "what is mended is 0 to 2"), (80, "till is 0 if from is -1"), (88, "what is told of a clock is 0 to 10"), (95, "what is counted is 0 to 7"), (123, "what is foreseen is 0 to 3"), (146, "there is no such clock"), (148, "a time of the dial is 0 to 719"), (150, "minutes are 1 to 720")]
def cu_decls : List MethodName := [⟨"java/lang/RuntimeException", "<init>", "(Ljava/lang/String;)V"⟩, ⟨"java/lang/Exception", "<init>", "(Ljava/lang/String;)V"⟩, ⟨"java/lang/Throwable", "<init>", "(Ljava/lang/String;)V"⟩]
/-- what the tables say, for every method alike -/
def cu_G (D : va_G) (C : Nat → ClassId) (U : State) : Prop :=
  va_K D vwCl (cu_tys C) U ∧ (∀ q ∈ cu_nestM, va_Nw (.methodLinkNest RX1 q.1 q.2 RX1) U) ∧ (∀ q ∈ cu_nestF, va_Nw (.fieldLinkNest RX1 q.1 RX0 q.2.1 q.2.2 RX1) U) ∧ (∀ q ∈ cu_casts, va_Nw (.castable q.1 q.2) U) ∧ (∀ q ∈ cu_nocasts, va_Nc q.1 q.2 U) ∧ (∀ q ∈ cu_txts, ∃ a : Nat, vk_R RX1 q.1 q.2 a U) ∧ (∀ q ∈ cu_decls, va_Nw (.declares q) U)
theorem cu_Nc_moved {E T : String} {u U : State} (hvm : u.vm.Alike U.vm) (h : va_Nc E T u) : va_Nc E T U := by
  first
    | exact va_Nc.moved hvm h
    | (obtain ⟨c, t, h1, h2, h3⟩ := h
       exact ⟨c, t, by rw [hvm.findClass]; exact h1, by rw [hvm.findClass]; exact h2, by rw [← hvm.assignable]; exact h3⟩)
theorem cu_G.warm {D : va_G} {C : Nat → ClassId} {s U : State} (hW : s.WarmedH U.vm) (h : cu_G D C s) : cu_G D C U := by
  obtain ⟨h1, h2, h3, h4, h5, h6, h7⟩ := h
  refine ⟨h1.moved hW.alike, fun q hq => va_Nw.warmM hW (h2 q hq), fun q hq => va_Nw.warmF hW (h3 q hq), fun q hq => va_Nw.warmC hW (h4 q hq), fun q hq => cu_Nc_moved hW.alike (h5 q hq), fun q hq => ?_, fun q hq => va_Nw.warmD hW (h7 q hq)⟩
  obtain ⟨a, ha⟩ := h6 q hq
  exact ⟨a, ha.warm hW⟩
theorem cu_G.same {D : va_G} {C : Nat → ClassId} {s U : State} (hv : U.vm = s.vm) (h : cu_G D C s) : cu_G D C U := by
  obtain ⟨h1, h2, h3, h4, h5, h6, h7⟩ := h
  have ha : s.vm.Alike U.vm := by rw [hv]; exact Vm.Alike.refl _
  refine ⟨h1.moved ha, fun q hq => va_Nw.same rfl hv.symm (h2 q hq), fun q hq => va_Nw.same rfl hv.symm (h3 q hq), fun q hq => va_Nw.same rfl hv.symm (h4 q hq), fun q hq => cu_Nc_moved ha (h5 q hq), fun q hq => ?_, fun q hq => va_Nw.same rfl hv.symm (h7 q hq)⟩
  obtain ⟨a, hb⟩ := h6 q hq
  exact ⟨a, vk_R.same hv hb⟩
/-- a method's start -/
def cu_B (D : va_G) (C : Nat → ClassId) (w : va_W) (sz : Nat) (U : State) : Prop := U.heap.size = sz ∧ va_P D vwCl w U.heap ∧ va_D (fun _ => True) w ∧ cu_G D C U
theorem cu_blind {D : va_G} {C : Nat → ClassId} {w : va_W} {sz : Nat} {av : List Value} : FrameBlind (va_Pc av (cu_B D C w sz)) := by
  intro a U g mk q
  obtain ⟨q0, q1, q2, q3, q4⟩ := q
  exact ⟨q0, q1, q2, q3, cu_G.same (s := U) (U := U.calling g mk a) rfl q4⟩
/-! worlds in worlds -/
theorem cu_Diff {A : Nat → Prop} {w : va_W} : va_D A w ↔ (w.map Prod.fst).Nodup ∧ ∀ q ∈ w, A q.1 := by
  constructor
  · intro h
    refine ⟨?_, fun q hq => ?_⟩
    · refine List.pairwise_iff_getElem.mpr ?_
      intro i j hi hj hij he
      rw [List.length_map] at hi hj
      rw [List.getElem_map, List.getElem_map] at he
      have := h.1 i j w[i] w[j] (List.getElem?_eq_getElem hi) (List.getElem?_eq_getElem hj) he
      omega
    · obtain ⟨k, hk⟩ := List.getElem?_of_mem hq
      exact h.2 k q hk
  · intro ⟨h1, h2⟩
    refine ⟨fun i j p q hi hj he => ?_, fun k q hk => h2 q (List.mem_of_getElem? hk)⟩
    have h3 := List.pairwise_iff_getElem.mp h1
    obtain ⟨hil, ei⟩ := List.getElem?_eq_some_iff.mp hi
    obtain ⟨hjl, ej⟩ := List.getElem?_eq_some_iff.mp hj
    have hil' : i < (w.map Prod.fst).length := by rw [List.length_map]; exact hil
    have hjl' : j < (w.map Prod.fst).length := by rw [List.length_map]; exact hjl
    rcases Nat.lt_trichotomy i j with q9 | q9 | q9
    · exact absurd (by rw [List.getElem_map, List.getElem_map, ei, ej]; exact he) (h3 i j hil' hjl' q9)
    · exact q9
    · exact absurd (by rw [List.getElem_map, List.getElem_map, ei, ej]; exact he.symm) (h3 j i hjl' hil' q9)
/-- w lies in W0; with w' in its place that is W1 -/
def cu_sp (W0 w W1 w' : va_W) : Prop :=
  (∀ q ∈ w, q ∈ W0) ∧ ((W0.map Prod.fst).Nodup → (w.map Prod.fst).Nodup) ∧ W1.map Prod.fst = W0.map Prod.fst ∧ ((W0.map Prod.fst).Nodup → ∀ q ∈ W1, q ∈ w' ∨ (q ∈ W0 ∧ q.1 ∉ w.map Prod.fst))
theorem cu_sp.fst {W0 w W1 w' : va_W} (h : cu_sp W0 w W1 w') : W1.map Prod.fst = W0.map Prod.fst := h.2.2.1
theorem cu_D_fst {A : Nat → Prop} {W0 W1 : va_W} (h : W1.map Prod.fst = W0.map Prod.fst) (hD : va_D A W0) : va_D A W1 := by
  rw [cu_Diff] at hD ⊢
  refine ⟨by rw [h]; exact hD.1, fun q hq => ?_⟩
  have : q.1 ∈ W0.map Prod.fst := by rw [← h]; exact List.mem_map_of_mem hq
  obtain ⟨z, hz, e⟩ := List.mem_map.mp this
  rw [← e]
  exact hD.2 z hz
theorem cu_sp.P {D : va_G} {cl : List vw_C} {W0 w W1 w' : va_W} {H : Heap} (h : cu_sp W0 w W1 w') (hP : va_P D cl W0 H) : va_P D cl w H := fun k q hk => by
  obtain ⟨i, hi⟩ := List.getElem?_of_mem (h.1 q (List.mem_of_getElem? hk))
  exact hP i q hi
theorem cu_sp.D {A : Nat → Prop} {W0 w W1 w' : va_W} (h : cu_sp W0 w W1 w') (hD : va_D A W0) : va_D A w := by
  rw [cu_Diff] at hD ⊢
  exact ⟨h.2.1 hD.1, fun q hq => hD.2 q (h.1 q hq)⟩
theorem cu_sp.F {A : Nat → Prop} {W0 w W1 w' : va_W} {H0 H : Heap} {locs : List Loc} (h : cu_sp W0 w W1 w') (hD : va_D A W0) (hS : va_S A H0 H locs) (hA : ∀ q, H0.size ≤ q → A q) : ∀ q, va_A w H.size q → A q := by
  intro q hq
  rcases hq with ⟨k, e, hk⟩ | hq
  · exact (h.D hD).2 k (q, e) hk
  · exact hA q (Nat.le_trans hS.1 hq)
theorem cu_sp.join {D : va_G} {cl : List vw_C} {A : Nat → Prop} {W0 w W1 w' : va_W} {H H1 : Heap} (h : cu_sp W0 w W1 w') (hP : va_P D cl W0 H) (hD : va_D A W0) (hk : ∀ q : Nat, q < H.size → ¬ va_A w H.size q → H1[q]? = H[q]?) (hP1 : va_P D cl w' H1) : va_P D cl W1 H1 := by
  intro k q hq
  have hn := (cu_Diff.mp hD).1
  rcases h.2.2.2 hn q (List.mem_of_getElem? hq) with h1 | ⟨h1, h2⟩
  · obtain ⟨i, hi⟩ := List.getElem?_of_mem h1
    exact hP1 i q hi
  · obtain ⟨i, hi⟩ := List.getElem?_of_mem h1
    have hl := (hP i q hi).lt
    refine (hP i q hi).kept (hk q.1 hl (fun z => ?_))
    rcases z with ⟨j, e, hj⟩ | z
    · exact h2 (List.mem_map.mpr ⟨_, List.mem_of_getElem? hj, rfl⟩)
    · omega
theorem cu_sp.all {W0 W1 : va_W} (h : W1.map Prod.fst = W0.map Prod.fst) : cu_sp W0 W0 W1 W1 := ⟨fun _ h => h, fun h => h, h, fun _ _ h => Or.inl h⟩
theorem cu_sp.nil {W0 : va_W} : cu_sp W0 [] W0 [] := ⟨fun _ h => absurd h List.not_mem_nil, fun _ => List.nodup_nil, rfl, fun _ _ h => Or.inr ⟨h, List.not_mem_nil⟩⟩
theorem cu_nd2 {W0 : va_W} (hn : (W0.map Prod.fst).Nodup) {i j : Nat} {p q : Nat × va_E} (hi : W0[i]? = some p) (hj : W0[j]? = some q) (e : p.1 = q.1) : i = j :=
  (cu_Diff.mpr ⟨hn, fun _ _ => trivial⟩ : va_D (fun _ => True) W0).1 i j p q hi hj e
theorem cu_sp.one {W0 : va_W} {k a : Nat} {e0 : va_E} (e1 : va_E) (h : W0[k]? = some (a, e0)) : cu_sp W0 [(a, e0)] (W0.set k (a, e1)) [(a, e1)] := by
  have hl := (List.getElem?_eq_some_iff.mp h).1
  refine ⟨fun q hq => ?_, fun _ => by simp, ?_, fun hn q hq => ?_⟩
  · rw [List.mem_singleton.mp hq]; exact List.mem_of_getElem? h
  · apply List.ext_getElem?
    intro i
    rw [List.getElem?_map, List.getElem?_map]
    by_cases hi : i = k
    · subst hi; rw [List.getElem?_set_self hl, h]; rfl
    · rw [List.getElem?_set_ne (Ne.symm hi)]
  · obtain ⟨i, hi⟩ := List.getElem?_of_mem hq
    by_cases hik : i = k
    · subst hik
      rw [List.getElem?_set_self hl] at hi
      exact Or.inl (by rw [← Option.some.inj hi]; exact List.mem_singleton_self _)
    · rw [List.getElem?_set_ne (Ne.symm hik)] at hi
      refine Or.inr ⟨List.mem_of_getElem? hi, fun hz => ?_⟩
      have hz' : q.1 = a := by simpa using hz
      exact hik (cu_nd2 hn hi h hz')
theorem cu_sp.rd {W0 : va_W} {k a : Nat} {e0 : va_E} (h : W0[k]? = some (a, e0)) : cu_sp W0 [(a, e0)] W0 [(a, e0)] := by
  have h1 := cu_sp.one e0 h
  have e : W0.set k (a, e0) = W0 := by
    apply List.ext_getElem?
    intro i
    by_cases hi : i = k
    · subst hi; rw [List.getElem?_set_self (List.getElem?_eq_some_iff.mp h).1, h]
    · rw [List.getElem?_set_ne (Ne.symm hi)]
  rw [e] at h1
  exact h1
theorem cu_sp.two {W0 : va_W} {k j a b : Nat} {e0 f0 : va_E} (e1 : va_E) (h : W0[k]? = some (a, e0)) (hj : W0[j]? = some (b, f0)) (hkj : k ≠ j) : cu_sp W0 [(a, e0), (b, f0)] (W0.set k (a, e1)) [(a, e1), (b, f0)] := by
  have h1 := cu_sp.one e1 h
  refine ⟨fun q hq => ?_, fun hn => ?_, h1.2.2.1, fun hn q hq => ?_⟩
  · rcases List.mem_cons.mp hq with e | hq
    · rw [e]; exact List.mem_of_getElem? h
    · rw [List.mem_singleton.mp hq]; exact List.mem_of_getElem? hj
  · have hab : a ≠ b := fun e => hkj (cu_nd2 hn h hj e)
    simp [hab]
  · rcases h1.2.2.2 hn q hq with hz | ⟨hz, hz2⟩
    · exact Or.inl (by rw [List.mem_singleton.mp hz]; exact List.mem_cons_self)
    · by_cases hb : q.1 = b
      · obtain ⟨i, hi⟩ := List.getElem?_of_mem hz
        have e9 := cu_nd2 hn hi hj hb
        subst e9
        rw [hj] at hi
        exact Or.inl (by rw [← Option.some.inj hi]; exact List.mem_cons_of_mem _ (List.mem_singleton_self _))
      · refine Or.inr ⟨hz, fun hm => ?_⟩
        have hm' : q.1 = a ∨ q.1 = b := by simpa using hm
        rcases hm' with e | e
        · exact hz2 (by simp [e])
        · exact hb e
theorem cu_sp.mid {X w w' Y : va_W} (h : w'.map Prod.fst = w.map Prod.fst) : cu_sp (X ++ (w ++ Y)) w (X ++ (w' ++ Y)) w' := by
  refine ⟨fun q hq => by simp [hq], fun hn => ?_, by simp [h], fun hn q hq => ?_⟩
  · rw [List.map_append, List.map_append] at hn
    exact (List.nodup_append.mp (List.nodup_append.mp hn).2.1).1
  · rw [List.map_append, List.map_append] at hn
    obtain ⟨-, hn2, hn3⟩ := List.nodup_append.mp hn
    obtain ⟨-, -, hn4⟩ := List.nodup_append.mp hn2
    rcases List.mem_append.mp hq with h1 | h1
    · refine Or.inr ⟨List.mem_append_left _ h1, fun hz => ?_⟩
      exact hn3 q.1 (List.mem_map_of_mem h1) q.1 (List.mem_append_left _ hz) rfl
    · rcases List.mem_append.mp h1 with h2 | h2
      · exact Or.inl h2
      · refine Or.inr ⟨by simp [h2], fun hz => ?_⟩
        exact hn4 q.1 hz q.1 (List.mem_map_of_mem h2) rfl
theorem cu_sp.pre {w w' Y : va_W} (h : w'.map Prod.fst = w.map Prod.fst) : cu_sp (w ++ Y) w (w' ++ Y) w' := cu_sp.mid (X := []) h
theorem cu_sp.suf {X w w' : va_W} (h : w'.map Prod.fst = w.map Prod.fst) : cu_sp (X ++ w) w (X ++ w') w' := by
  have h1 := cu_sp.mid (X := X) (Y := []) h
  simpa using h1
/-! contracts: from a world w to w', with the answer val -/
def cu_I (l : Launch) (D : va_G) (C : Nat → ClassId) (y : MethodName) (ws : List Cond) (rm : Room) (av : List Value) (w w' : va_W) (val : Int32) (mc ms : Nat) : Prop :=
  ∀ sz : Nat, Met l y ws rm (va_Pc av (cu_B D C w sz)) (va_Qi (fun (r : Int32) (_ : Unit) => r = val) (fun _ t => va_P D vwCl w' t.heap) (va_A w sz)) mc ms (va_A w sz)
def cu_V (l : Launch) (D : va_G) (C : Nat → ClassId) (y : MethodName) (ws : List Cond) (rm : Room) (av : List Value) (w w' : va_W) (mc ms : Nat) : Prop :=
  ∀ sz : Nat, Met l y ws rm (va_Pc av (cu_B D C w sz)) (va_Qv (fun (_ : Unit) => True) (fun _ t => va_P D vwCl w' t.heap) (va_A w sz)) mc ms (va_A w sz)
def cu_L (l : Launch) (D : va_G) (C : Nat → ClassId) (y : MethodName) (ws : List Cond) (rm : Room) (av : List Value) (w w' : va_W) (val : Int64) (mc ms : Nat) : Prop :=
  ∀ sz : Nat, Met l y ws rm (va_Pc av (cu_B D C w sz)) (va_Ql (fun (r : Int64) (_ : Unit) => r = val) (fun _ t => va_P D vwCl w' t.heap) (va_A w sz)) mc ms (va_A w sz)
section CUO
variable {l : Launch} {D : va_G} {C : Nat → ClassId} {y : MethodName} {ws ws' : List Cond} {rm : Room} {av : List Value} {w w' : va_W} {mc ms maxL : Nat} {cc : ByteArray} {own : String}
set_option maxHeartbeats 1000000 in
theorem cu_openI {val : Int32} {ty : FieldType} (hy : plainName y.cls = true) (ho : y.cls = own) (hw : ws = Cond.code y cc maxL (some ty) :: ws') (hz : (lg_sl av).length ≤ maxL)
    (body : ∀ (p : Program) (e : Env) (s : State) (m : MethodId) (args : Array Value) (below : List Frame) (meth : Method) (c : Code) (A : Nat → Prop) (Z : State → Prop) (H0 : Heap) (ls : Array Slot), s.heap = H0 → p.tables.exec = Jvm.exec → c.code = cc → c.maxLocals = maxL → (∀ w ∈ ws, w.before args s = true) → s.vm.findClass own = some m.cls → meth.name = y.name → cu_G D C s → va_P D vwCl w H0 → va_D A w → va_S A H0 H0 [] → (∀ q : Nat, H0.size ≤ q → A q) → lv_has ls maxL (lv_args 0 av) →
      (∀ (v : Int32) (H : Heap) (locs : List Loc) (pc : Nat) (ls : Array Slot), narrow ty (.int v) = .int v → v = val → va_P D vwCl w' H → va_S A H0 H locs → decode cc pc = .ok (.ireturn, 1) → W p l e rm s m args below meth c H locs mc ms Z (F0 m pc ls [.int v])) →
      W p l e rm s m args below meth c H0 [] 0 0 Z (F0 m 0 ls [])) : cu_I l D C y ws rm av w w' val mc ms := by
  intro sz
  refine Met.ofW (cc := cc) (maxL := maxL) (ret := some ty) hy hw ?_
  intro p e s m args below meth c s₁ B hml hv
  obtain ⟨rfl, hsz, hP, hD0, hG⟩ := hv
  subst hsz
  have hl := lv_entry av (n := maxL) hz
  rw [lg_entry_eq]
  refine body p e s m _ below meth c (va_A w s.heap.size) _ _ _ rfl B.exec B.bytes hml (atoms_spec (ws := ws) B.pre) (by rw [← ho]; exact findClass_of_methodNamed B.named) (name_of_methodNamed B.named B.method).1 hG hP hD0.self va_S.rf (fun q h => Or.inr h) hl ?_
  intro v H locs pc ls hn hv hP hS hd
  exact W.zret (v := v) B.exec B.bytes B.returns hn (fun t ht hW => ⟨⟨v, (), rfl, hv, by show va_P D vwCl w' t.heap; rw [ht]; exact hP⟩, hS.F ht⟩) hS.2.2 hd
theorem cu_ofWF {Pc : Array Value → State → Prop} {Qc : Array Value → State → Outcome → State → Prop} {free : Addr → Prop} {ret : Option FieldType}
    (hy : plainFor y = true) (hw : ws = Cond.code y cc maxL ret :: ws')
    (body : ∀ p e s m args below meth c s₁, BodyLoose p l y (headSpec ws rm) cc maxL ret e s m args below meth c s₁ → c.maxLocals = maxL → Pc args s →
      W p l e (headSpec ws rm).room s m args below meth c s.heap [] 0 0 (MQ below Qc args s mc ms free) (entryFrame m args maxL)) : Met l y ws rm Pc Qc mc ms free := by
  refine MetFree.of_bodySF (code := cc) (maxLocals := maxL) (ret := ret) hy ?_ ?_
  · intro args s m h hn
    obtain ⟨meth, c, h1, h2, h3, h4, h5, h6, -, -⟩ := Cond.code_spec hn (atoms_spec (ws := ws) h _ (by rw [hw]; exact List.mem_cons_self))
    exact ⟨meth, c, h1, h2, h3, h4, h5, h6⟩
  · intro p e s m args below meth c s₁ B hml hP _
    have hh0 : s₁.heap = s.heap := by rw [B.state]; rfl
    obtain ⟨t, a1, o, b1, b2, b3⟩ := body p e s m args below meth c s₁ B hml hP s₁ hh0 (Stand.of_body B)
    exact ⟨t, o, a1, b1, b2, ⟨b3.1, b3.2⟩⟩
set_option maxHeartbeats 1000000 in
theorem cu_openIF {val : Int32} {ty : FieldType} (hy : plainFor y = true) (ho : y.cls = own) (hw : ws = Cond.code y cc maxL (some ty) :: ws') (hz : (lg_sl av).length ≤ maxL)
    (body : ∀ (p : Program) (e : Env) (s : State) (m : MethodId) (args : Array Value) (below : List Frame) (meth : Method) (c : Code) (A : Nat → Prop) (Z : State → Prop) (H0 : Heap) (ls : Array Slot), s.heap = H0 → p.tables.exec = Jvm.exec → c.code = cc → c.maxLocals = maxL → (∀ w ∈ ws, w.before args s = true) → s.vm.findClass own = some m.cls → meth.name = y.name → cu_G D C s → va_P D vwCl w H0 → va_D A w → va_S A H0 H0 [] → (∀ q : Nat, H0.size ≤ q → A q) → lv_has ls maxL (lv_args 0 av) →
      (∀ (v : Int32) (H : Heap) (locs : List Loc) (pc : Nat) (ls : Array Slot), narrow ty (.int v) = .int v → v = val → va_P D vwCl w' H → va_S A H0 H locs → decode cc pc = .ok (.ireturn, 1) → W p l e rm s m args below meth c H locs mc ms Z (F0 m pc ls [.int v])) →
      W p l e rm s m args below meth c H0 [] 0 0 Z (F0 m 0 ls [])) : cu_I l D C y ws rm av w w' val mc ms := by
  intro sz
  refine cu_ofWF (cc := cc) (maxL := maxL) (ret := some ty) hy hw ?_
  intro p e s m args below meth c s₁ B hml hv
  obtain ⟨rfl, hsz, hP, hD0, hG⟩ := hv
  subst hsz
  have hl := lv_entry av (n := maxL) hz
  rw [lg_entry_eq]
  refine body p e s m _ below meth c (va_A w s.heap.size) _ _ _ rfl B.exec B.bytes hml (atoms_spec (ws := ws) B.pre) (by rw [← ho]; exact findClass_of_methodNamed B.named) (name_of_methodNamed B.named B.method).1 hG hP hD0.self va_S.rf (fun q h => Or.inr h) hl ?_
  intro v H locs pc ls hn hv hP hS hd
  exact W.zret (v := v) B.exec B.bytes B.returns hn (fun t ht hW => ⟨⟨v, (), rfl, hv, by show va_P D vwCl w' t.heap; rw [ht]; exact hP⟩, hS.F ht⟩) hS.2.2 hd
set_option maxHeartbeats 1000000 in
theorem cu_openV (hy : plainName y.cls = true) (ho : y.cls = own) (hw : ws = Cond.code y cc maxL none :: ws') (hz : (lg_sl av).length ≤ maxL)
    (body : ∀ (p : Program) (e : Env) (s : State) (m : MethodId) (args : Array Value) (below : List Frame) (meth : Method) (c : Code) (A : Nat → Prop) (Z : State → Prop) (H0 : Heap) (ls : Array Slot), s.heap = H0 → p.tables.exec = Jvm.exec → c.code = cc → c.maxLocals = maxL → (∀ w ∈ ws, w.before args s = true) → s.vm.findClass own = some m.cls → meth.name = y.name → cu_G D C s → va_P D vwCl w H0 → va_D A w → va_S A H0 H0 [] → (∀ q : Nat, H0.size ≤ q → A q) → lv_has ls maxL (lv_args 0 av) →
      (∀ (H : Heap) (locs : List Loc) (pc : Nat) (ls : Array Slot), va_P D vwCl w' H → va_S A H0 H locs → decode cc pc = .ok (.return_, 1) → W p l e rm s m args below meth c H locs mc ms Z (F0 m pc ls [])) →
      W p l e rm s m args below meth c H0 [] 0 0 Z (F0 m 0 ls [])) : cu_V l D C y ws rm av w w' mc ms := by
  intro sz
  refine Met.ofW (cc := cc) (maxL := maxL) (ret := none) hy hw ?_
  intro p e s m args below meth c s₁ B hml hv
  obtain ⟨rfl, hsz, hP, hD0, hG⟩ := hv
  subst hsz
  have hl := lv_entry av (n := maxL) hz
  rw [lg_entry_eq]
  refine body p e s m _ below meth c (va_A w s.heap.size) _ _ _ rfl B.exec B.bytes hml (atoms_spec (ws := ws) B.pre) (by rw [← ho]; exact findClass_of_methodNamed B.named) (name_of_methodNamed B.named B.method).1 hG hP hD0.self va_S.rf (fun q h => Or.inr h) hl ?_
  intro H locs pc ls hP hS hd
  exact W.vret B.exec B.bytes B.returns (fun t ht hW => ⟨⟨(), rfl, trivial, by show va_P D vwCl w' t.heap; rw [ht]; exact hP⟩, hS.F ht⟩) hS.2.2 hd
set_option maxHeartbeats 1000000 in
theorem cu_openL {val : Int64} (hy : plainName y.cls = true) (ho : y.cls = own) (hw : ws = Cond.code y cc maxL (some .long) :: ws') (hz : (lg_sl av).length ≤ maxL)
    (body : ∀ (p : Program) (e : Env) (s : State) (m : MethodId) (args : Array Value) (below : List Frame) (meth : Method) (c : Code) (A : Nat → Prop) (Z : State → Prop) (H0 : Heap) (ls : Array Slot), s.heap = H0 → p.tables.exec = Jvm.exec → c.code = cc → c.maxLocals = maxL → (∀ w ∈ ws, w.before args s = true) → s.vm.findClass own = some m.cls → meth.name = y.name → cu_G D C s → va_P D vwCl w H0 → va_D A w → va_S A H0 H0 [] → (∀ q : Nat, H0.size ≤ q → A q) → lv_has ls maxL (lv_args 0 av) →
      (∀ (v : Int64) (H : Heap) (locs : List Loc) (pc : Nat) (ls : Array Slot), v = val → va_P D vwCl w' H → va_S A H0 H locs → decode cc pc = .ok (.lreturn, 1) → W p l e rm s m args below meth c H locs mc ms Z (F0 m pc ls [.long v])) →
      W p l e rm s m args below meth c H0 [] 0 0 Z (F0 m 0 ls [])) : cu_L l D C y ws rm av w w' val mc ms := by
  intro sz
  refine Met.ofW (cc := cc) (maxL := maxL) (ret := some .long) hy hw ?_
  intro p e s m args below meth c s₁ B hml hv
  obtain ⟨rfl, hsz, hP, hD0, hG⟩ := hv
  subst hsz
  have hl := lv_entry av (n := maxL) hz
  rw [lg_entry_eq]
  refine body p e s m _ below meth c (va_A w s.heap.size) _ _ _ rfl B.exec B.bytes hml (atoms_spec (ws := ws) B.pre) (by rw [← ho]; exact findClass_of_methodNamed B.named) (name_of_methodNamed B.named B.method).1 hG hP hD0.self va_S.rf (fun q h => Or.inr h) hl ?_
  intro v H locs pc ls hv hP hS hd
  exact W.lret (v := v) B.exec B.bytes B.returns (fun t ht hW => ⟨⟨v, (), rfl, hv, by show va_P D vwCl w' t.heap; rw [ht]; exact hP⟩, hS.F ht⟩) hS.2.2 hd
end CUO
/-! calls -/
section CUC
variable {p : Program} {l : Launch} {e : Env} {R : Room} {s : State} {m : MethodId} {args : Array Value} {below : List Frame} {meth : Method} {c : Code} {H : Heap} {locs : List Loc} {cells slots : Nat} {Q : State → Prop}
variable {pc : Nat} {ls : Array Slot} {rest st0 : List Value} {a : Array Value} {A : Nat → Prop} {H0 : Heap} {mc ms : Nat} {D : va_G} {C : Nat → ClassId} {W0 w W1 w' : va_W} {b : Nat} {As : List Value}
theorem cu_preV {ci : Nat} {fs : List Value} {q : vw_C} (sp : cu_sp W0 w W1 w') (hG : cu_G D C s) (hP : va_P D vwCl W0 H) (hD : va_D A W0) (he : w[0]? = some (b, .inr (ci, fs))) (hc : vwCl[ci]? = some q) : PreV s H q.1 b (va_Pc (.ref b :: As) (cu_B D C w H.size)) As :=
  ⟨cu_blind, va_recv hG.1 (sp.P hP) hc he, fun U hU hW => ⟨rfl, by rw [hU], by rw [hU]; exact sp.P hP, (sp.D hD).weaken (fun _ _ _ _ => trivial), hG.warm hW⟩⟩
theorem cu_preS (sp : cu_sp W0 w W1 w') (hG : cu_G D C s) (hP : va_P D vwCl W0 H) (hD : va_D A W0) : PreS s H (va_Pc As (cu_B D C w H.size)) As :=
  ⟨cu_blind, fun U hU hW => ⟨rfl, by rw [hU], by rw [hU]; exact sp.P hP, (sp.D hD).weaken (fun _ _ _ _ => trivial), hG.warm hW⟩⟩
theorem cu_callI {val : Int32} (hr : va_Run p l e R s m args below meth c H locs cells slots mc ms (F0 m pc ls st0) rest (va_Qi (fun (r : Int32) (_ : Unit) => r = val) (fun _ t => va_P D vwCl w' t.heap) (va_A w H.size) a) (va_A w H.size)) (sp : cu_sp W0 w W1 w') (hP : va_P D vwCl W0 H) (hD : va_D A W0) (hS : va_S A H0 H locs) (hA : ∀ q : Nat, H0.size ≤ q → A q)
    (kk : ∀ (H1 : Heap) (locs1 : List Loc), va_P D vwCl W1 H1 → va_D A W1 → va_S A H0 H1 locs1 → W p l e R s m args below meth c H1 locs1 (cells + mc) (slots + ms) Q (F0 m (pc + 3) ls (.int val :: rest))) : W p l e R s m args below meth c H locs cells slots Q (F0 m pc ls st0) := by
  have hF := sp.F hD hS hA
  refine va_calli hr hS (fun q _ h => hF q h) hF (fun r u t H1 locs1 ht _ hpost hB hz hk hS1 => ?_)
  subst hpost
  rw [ht] at hB
  exact kk H1 locs1 (sp.join hP hD hk hB) (cu_D_fst sp.fst hD) hS1
theorem cu_callL {val : Int64} (hr : va_Run p l e R s m args below meth c H locs cells slots mc ms (F0 m pc ls st0) rest (va_Ql (fun (r : Int64) (_ : Unit) => r = val) (fun _ t => va_P D vwCl w' t.heap) (va_A w H.size) a) (va_A w H.size)) (sp : cu_sp W0 w W1 w') (hP : va_P D vwCl W0 H) (hD : va_D A W0) (hS : va_S A H0 H locs) (hA : ∀ q : Nat, H0.size ≤ q → A q)
    (kk : ∀ (H1 : Heap) (locs1 : List Loc), va_P D vwCl W1 H1 → va_D A W1 → va_S A H0 H1 locs1 → W p l e R s m args below meth c H1 locs1 (cells + mc) (slots + ms) Q (F0 m (pc + 3) ls (.long val :: rest))) : W p l e R s m args below meth c H locs cells slots Q (F0 m pc ls st0) := by
  have hF := sp.F hD hS hA
  refine va_calll hr hS (fun q _ h => hF q h) hF (fun r u t H1 locs1 ht _ hpost hB hz hk hS1 => ?_)
  subst hpost
  rw [ht] at hB
  exact kk H1 locs1 (sp.join hP hD hk hB) (cu_D_fst sp.fst hD) hS1
theorem cu_callV (hr : va_Run p l e R s m args below meth c H locs cells slots mc ms (F0 m pc ls st0) rest (va_Qv (fun (_ : Unit) => True) (fun _ t => va_P D vwCl w' t.heap) (va_A w H.size) a) (va_A w H.size)) (sp : cu_sp W0 w W1 w') (hP : va_P D vwCl W0 H) (hD : va_D A W0) (hS : va_S A H0 H locs) (hA : ∀ q : Nat, H0.size ≤ q → A q)
    (kk : ∀ (H1 : Heap) (locs1 : List Loc), va_P D vwCl W1 H1 → va_D A W1 → va_S A H0 H1 locs1 → W p l e R s m args below meth c H1 locs1 (cells + mc) (slots + ms) Q (F0 m (pc + 3) ls rest)) : W p l e R s m args below meth c H locs cells slots Q (F0 m pc ls st0) := by
  have hF := sp.F hD hS hA
  refine va_callv hr hS (fun q _ h => hF q h) hF (fun u t H1 locs1 ht _ hpost hB hz hk hS1 => ?_)
  rw [ht] at hB
  exact kk H1 locs1 (sp.join hP hD hk hB) (cu_D_fst sp.fst hD) hS1
end CUC
end
section
/-! WHAT A CLOCK DOES, in numbers: K holds a clock's numbers by the places 0 shown, 1 rest, 2 chain, 3 oil, 4 bellows, 5 goes, 6 calls, 7 missed, 8 latest, 9 a, 10 b, 11 swing, 12 from, 13 till -/
def k_fm (x y : Int32) : Int32 := if 0 ≤ (x ^^^ y) then (x - x / y * y) else if (x - x / y * y) = 0 then (x - x / y * y) else (x - x / y * y) + y
def k_advW (K : Nat → Int32) (a b : Int32) : Int32 := if b = 0 then 0 else if 20 ≤ K 3 then 900 * a / b + K 11 else 900 * a / b + K 11 - (900 * a / b + K 11) / 10
def k_adv (K : Nat → Int32) : Int32 := k_advW K (K 9) (K 10)
def k_due (t : Int32) : Int32 := if t = 0 then 12 else if t - t / 60 * 60 = 0 then t / 60 else if t - t / 30 * 30 = 0 then 1 else 0
def k_shutAt (K : Nat → Int32) (t : Int32) : Int32 := if K 12 = -1 then 0 else if K 13 ≤ K 12 then (if K 12 ≤ t then 1 else if K 13 ≤ t then 0 else 1) else (if t < K 12 then 0 else if K 13 ≤ t then 0 else 1)
def k_cuck (K : Nat → Int32) (due d : Int32) : Nat → Int32 := upd (upd (upd (upd K 4 (K 4 - d)) 6 (K 6 + d)) 8 (K 8 + d)) 7 (K 7 + (due - d))
def k_cuckoo (K : Nat → Int32) (due : Int32) : Nat → Int32 := k_cuck K due (if K 4 < due then K 4 else due)
def k_on (K : Nat → Int32) : Nat → Int32 := upd K 0 (K 0 + 1 - (K 0 + 1) / 720 * 720)
def k_tick (K : Nat → Int32) : Nat → Int32 := if k_shutAt (k_on K) (k_on K 0) = 0 then k_cuckoo (k_on K) (k_due (k_on K 0)) else k_on K
def k_ticks : Nat → (Nat → Int32) → Nat → Int32
  | 0, K => K
  | j + 1, K => k_ticks j (k_tick K)
def k_turn (K : Nat → Int32) : Nat → Int32 := k_ticks ((K 1 + k_adv K) / 900).toInt.toNat (upd K 1 (K 1 + k_adv K - (K 1 + k_adv K) / 900 * 900))
def k_wearO (n : Int32) (K : Nat → Int32) : Nat → Int32 := if n - n / 10 * 10 = 0 then (if K 3 ≤ 0 then upd K 2 (K 2 - 1) else upd (upd K 2 (K 2 - 1)) 3 (K 3 - 1)) else upd K 2 (K 2 - 1)
def k_wear (n : Int32) (K : Nat → Int32) : Nat → Int32 := if 0 < K 2 - 1 then k_wearO n K else upd (k_wearO n K) 5 0
/-- a clock's minute, with the minute's number -/
def k_min (n : Int32) (K : Nat → Int32) : Nat → Int32 := if K 5 = 0 then upd K 8 0 else k_wear n (k_turn (upd K 8 0))
def k_nudge (K : Nat → Int32) : Int32 := if K 5 = 0 then (if K 2 = 0 then 0 else 1) else 0
def k_stand (K : Nat → Int32) : Int32 := if K 5 = 0 then 0 else K 2
def k_read (K : Nat → Int32) (w : Int32) : Int32 :=
  if w = 0 then K 0 else if w = 1 then K 1 else if w = 2 then K 2 else if w = 3 then K 3 else if w = 4 then K 4 else if w = 5 then (if K 5 = 0 then 0 else 1) else if w = 6 then k_adv K else if w = 7 then K 6 else if w = 8 then K 7 else if w = 9 then K 8 else (if k_shutAt K (K 0) = 0 then 0 else 1)
def k_mixR (K : Nat → Int32) : Nat → Nat → Int64 → Int64
  | 0, _, d => d
  | j + 1, w, d => k_mixR K j (w + 1) (d * 31 + (k_read K (nI w)).toInt64)
def k_mix (K : Nat → Int32) (d : Int64) : Int64 := k_mixR K 11 0 (((((d * 31 + (K 9).toInt64) * 31 + (K 10).toInt64) * 31 + (K 11).toInt64) * 31 + (K 12).toInt64) * 31 + (K 13).toInt64)
def k_abs (x : Int32) : Int32 := if 0 ≤ x then x else 0 - x
/-- the gears' search: j pairs on, from a, b; the nearest so far and its number -/
def k_best1 (K : Nat → Int32) (a b : Int32) (u : Int32 × Int32) : Int32 × Int32 := if u.2 ≤ k_abs (k_advW K a b - 900) then u else (100 * a + b, k_abs (k_advW K a b - 900))
def k_bestB (K : Nat → Int32) (a : Int32) : Nat → Nat → Int32 × Int32 → Int32 × Int32
  | 0, _, u => u
  | j + 1, b, u => k_bestB K a j (b + 1) (k_best1 K a (nI b) u)
def k_bestA (K : Nat → Int32) : Nat → Nat → Int32 × Int32 → Int32 × Int32
  | 0, _, u => u
  | j + 1, a, u => k_bestA K j (a + 1) (k_bestB K (nI a) 21 20 u)
def k_true (K : Nat → Int32) : Int32 := (k_bestA K 21 20 (0, 1000000)).1
def k_new (K : Nat → Int32) : Nat → Int32 := upd (upd (upd (upd (upd (upd (upd (upd (upd (upd (upd (upd (upd (upd K 9 30) 10 30) 11 0) 2 600) 3 100) 4 60) 5 1) 0 0) 1 0) 12 (-1)) 13 0) 6 0) 7 0) 8 0
theorem cu_ne {x k : Int32} (h : ¬ x = k) (z : Int) (hz : k.toInt = z) : ¬ x.toInt = z := fun e => h (Int32.toInt_inj.mp (e.trans hz.symm))
theorem cu_dn0 {x : Int32} (h : x.toInt.toNat = 0) : x ≤ 0 := by
  rw [Int32.le_iff_toInt_le]
  show x.toInt ≤ 0
  omega
theorem cu_dn1 {x : Int32} {j : Nat} (h : x.toInt.toNat = j + 1) : ¬ x ≤ 0 := by
  rw [Int32.le_iff_toInt_le]
  show ¬ x.toInt ≤ 0
  omega
theorem cu_dn {x : Int32} {j : Nat} (h : x.toInt.toNat = j + 1) : (x + (-1)).toInt.toNat = j := by
  have h1 := Int32.le_toInt x
  have h2 := Int32.toInt_lt x
  rw [Int32.toInt_add]
  have e : (-1 : Int32).toInt = -1 := by decide
  rw [e, Int.bmod_def]
  omega
theorem cu_nb {x : Int32} (h : x = 0 ∨ x = 1) : narrow .boolean (.int x) = .int x := by rcases h with rfl | rfl <;> rfl
theorem cu_fb {x : Int32} (h : x = 0 ∨ x = 1) : fits .boolean (.int x) = true := by rcases h with rfl | rfl <;> rfl
end
section
set_option maxHeartbeats 4000000 in
set_option maxRecDepth 100000 in
theorem m_X0_putHands (l : Launch) (D : va_G) (C : Nat → ClassId) (h0 : Nat) (K : Nat → Int32) (v1 : Int32) : cu_V l D C yX0_putHands wsX0_putHands { frames := 0, cells := 0, slots := 0, locals := 0 } [.ref h0, .int v1] (cu_wc h0 K) (cu_wc h0 (upd (upd K 0 v1) 1 0)) 0 0 := by
  refine cu_openV (cc := cX0_putHands) (maxL := 2) (own := RX0) (by decide) rfl rfl (Nat.le_of_ble_eq_true rfl) ?_
  intro p e s m args below meth c A Z H0 ls e0 hx hb hml hts hown hnm hG hP hD hS hA hl fin
  have hK := hG.1
  have hl : lv_has ls 2 [(0, .ref h0), (1, .int v1)] := hl
  have hiX0 : ∀ w ∈ wsX00, w ∈ wsX0_putHands := by decide +kernel
  refine lv_aload_n hx hb dX0_putHands_0 rfl (lv_at hl 0 rfl) ?_
  refine lv_iload_n hx hb dX0_putHands_1 rfl (lv_at hl 1 rfl) ?_
  refine va_put (D := D) (ci := 0) (v := .int v1) (ty := .int) (C := RX0) (T := TX0) (N := 14) hx hb hts hiX0 tyX0 tyX0_ok nmX0 hown hK hP hD hS 0 rfl rfl 7 (by decide) (hts (.fieldLink RX0 34 "CuckooShop$Clock" "shown" "I") (by decide +kernel)) (fun _ h9 => h9) rfl (by decide +kernel) rfl rfl (Nat.le_of_ble_eq_true rfl) dX0_putHands_2 (fun H locs hP hD hS => ?_)
  have hP : va_P D vwCl (cu_wc h0 (upd K 0 v1)) H := hP
  have hD : va_D A (cu_wc h0 (upd K 0 v1)) := hD
  refine lv_aload_n hx hb dX0_putHands_5 rfl (lv_at hl 0 rfl) ?_
  refine lv_iconst (v := 0) hx hb dX0_putHands_6 (by decide) ?_
  refine va_put (D := D) (ci := 0) (v := .int 0) (ty := .int) (C := RX0) (T := TX0) (N := 14) hx hb hts hiX0 tyX0 tyX0_ok nmX0 hown hK hP hD hS 0 rfl rfl 8 (by decide) (hts (.fieldLink RX0 37 "CuckooShop$Clock" "rest" "I") (by decide +kernel)) (fun _ h9 => h9) rfl (by decide +kernel) rfl rfl (Nat.le_of_ble_eq_true rfl) dX0_putHands_7 (fun H locs hP hD hS => ?_)
  have hP : va_P D vwCl (cu_wc h0 (upd (upd K 0 v1) 1 0)) H := hP
  have hD : va_D A (cu_wc h0 (upd (upd K 0 v1) 1 0)) := hD
  exact fin _ _ _ _ hP hS dX0_putHands_10

set_option maxHeartbeats 4000000 in
set_option maxRecDepth 100000 in
theorem m_X0_fitTrain (l : Launch) (D : va_G) (C : Nat → ClassId) (h0 : Nat) (K : Nat → Int32) (v1 : Int32) (v2 : Int32) (v3 : Int32) : cu_V l D C yX0_fitTrain wsX0_fitTrain { frames := 0, cells := 0, slots := 0, locals := 0 } [.ref h0, .int v1, .int v2, .int v3] (cu_wc h0 K) (cu_wc h0 (upd (upd (upd K 9 v1) 10 v2) 11 v3)) 0 0 := by
  refine cu_openV (cc := cX0_fitTrain) (maxL := 4) (own := RX0) (by decide) rfl rfl (Nat.le_of_ble_eq_true rfl) ?_
  intro p e s m args below meth c A Z H0 ls e0 hx hb hml hts hown hnm hG hP hD hS hA hl fin
  have hK := hG.1
  have hl : lv_has ls 4 [(0, .ref h0), (1, .int v1), (2, .int v2), (3, .int v3)] := hl
  have hiX0 : ∀ w ∈ wsX00, w ∈ wsX0_fitTrain := by decide +kernel
  refine lv_aload_n hx hb dX0_fitTrain_0 rfl (lv_at hl 0 rfl) ?_
  refine lv_iload_n hx hb dX0_fitTrain_1 rfl (lv_at hl 1 rfl) ?_
  refine va_put (D := D) (ci := 0) (v := .int v1) (ty := .int) (C := RX0) (T := TX0) (N := 14) hx hb hts hiX0 tyX0 tyX0_ok nmX0 hown hK hP hD hS 0 rfl rfl 0 (by decide) (hts (.fieldLink RX0 9 "CuckooShop$Clock" "gearA" "I") (by decide +kernel)) (fun _ h9 => h9) rfl (by decide +kernel) rfl rfl (Nat.le_of_ble_eq_true rfl) dX0_fitTrain_2 (fun H locs hP hD hS => ?_)
  have hP : va_P D vwCl (cu_wc h0 (upd K 9 v1)) H := hP
  have hD : va_D A (cu_wc h0 (upd K 9 v1)) := hD
  refine lv_aload_n hx hb dX0_fitTrain_5 rfl (lv_at hl 0 rfl) ?_
  refine lv_iload_n hx hb dX0_fitTrain_6 rfl (lv_at hl 2 rfl) ?_
  refine va_put (D := D) (ci := 0) (v := .int v2) (ty := .int) (C := RX0) (T := TX0) (N := 14) hx hb hts hiX0 tyX0 tyX0_ok nmX0 hown hK hP hD hS 0 rfl rfl 1 (by decide) (hts (.fieldLink RX0 15 "CuckooShop$Clock" "gearB" "I") (by decide +kernel)) (fun _ h9 => h9) rfl (by decide +kernel) rfl rfl (Nat.le_of_ble_eq_true rfl) dX0_fitTrain_7 (fun H locs hP hD hS => ?_)
  have hP : va_P D vwCl (cu_wc h0 (upd (upd K 9 v1) 10 v2)) H := hP
  have hD : va_D A (cu_wc h0 (upd (upd K 9 v1) 10 v2)) := hD
  refine lv_aload_n hx hb dX0_fitTrain_10 rfl (lv_at hl 0 rfl) ?_
  refine lv_iload_n hx hb dX0_fitTrain_11 rfl (lv_at hl 3 rfl) ?_
  refine va_put (D := D) (ci := 0) (v := .int v3) (ty := .int) (C := RX0) (T := TX0) (N := 14) hx hb hts hiX0 tyX0 tyX0_ok nmX0 hown hK hP hD hS 0 rfl rfl 2 (by decide) (hts (.fieldLink RX0 18 "CuckooShop$Clock" "swing" "I") (by decide +kernel)) (fun _ h9 => h9) rfl (by decide +kernel) rfl rfl (Nat.le_of_ble_eq_true rfl) dX0_fitTrain_12 (fun H locs hP hD hS => ?_)
  have hP : va_P D vwCl (cu_wc h0 (upd (upd (upd K 9 v1) 10 v2) 11 v3)) H := hP
  have hD : va_D A (cu_wc h0 (upd (upd (upd K 9 v1) 10 v2) 11 v3)) := hD
  exact fin _ _ _ _ hP hS dX0_fitTrain_15

set_option maxHeartbeats 4000000 in
set_option maxRecDepth 100000 in
theorem m_X0_drawUp (l : Launch) (D : va_G) (C : Nat → ClassId) (h0 : Nat) (K : Nat → Int32) : cu_I l D C yX0_drawUp wsX0_drawUp { frames := 0, cells := 0, slots := 0, locals := 0 } [.ref h0] (cu_wc h0 K) (cu_wc h0 (upd (upd K 2 600) 5 1)) (600 - K 2) 0 0 := by
  refine cu_openI (cc := cX0_drawUp) (maxL := 2) (ty := .int) (own := RX0) (by decide) rfl rfl (Nat.le_of_ble_eq_true rfl) ?_
  intro p e s m args below meth c A Z H0 ls e0 hx hb hml hts hown hnm hG hP hD hS hA hl fin
  have hK := hG.1
  have hl : lv_has ls 2 [(0, .ref h0)] := hl
  have hiX0 : ∀ w ∈ wsX00, w ∈ wsX0_drawUp := by decide +kernel
  refine lv_sipush (v := 600) hx hb dX0_drawUp_0 (by decide) ?_
  refine lv_aload_n hx hb dX0_drawUp_3 rfl (lv_at hl 0 rfl) ?_
  refine va_get (D := D) (ci := 0) (v := .int (K 2)) (C := RX0) (T := TX0) (N := 14) hx hb hts hiX0 hown hK hP 0 rfl rfl 3 (by decide) (hts (.fieldLink RX0 21 "CuckooShop$Clock" "chain" "I") (by decide +kernel)) (fun _ h9 => h9) rfl dX0_drawUp_4 ?_
  refine lv_isub hx hb dX0_drawUp_7 ?_
  refine lv_istore_n (lv' := [(1, .int (600 - (K 2))), (0, .ref h0)]) hx hb dX0_drawUp_8 rfl hl (by decide) rfl (fun ls hl => ?_)
  refine lv_aload_n hx hb dX0_drawUp_9 rfl (lv_at hl 1 rfl) ?_
  refine lv_sipush (v := 600) hx hb dX0_drawUp_10 (by decide) ?_
  refine va_put (D := D) (ci := 0) (v := .int 600) (ty := .int) (C := RX0) (T := TX0) (N := 14) hx hb hts hiX0 tyX0 tyX0_ok nmX0 hown hK hP hD hS 0 rfl rfl 3 (by decide) (hts (.fieldLink RX0 21 "CuckooShop$Clock" "chain" "I") (by decide +kernel)) (fun _ h9 => h9) rfl (by decide +kernel) rfl rfl (Nat.le_of_ble_eq_true rfl) dX0_drawUp_13 (fun H locs hP hD hS => ?_)
  have hP : va_P D vwCl (cu_wc h0 (upd K 2 600)) H := hP
  have hD : va_D A (cu_wc h0 (upd K 2 600)) := hD
  refine lv_aload_n hx hb dX0_drawUp_16 rfl (lv_at hl 1 rfl) ?_
  refine lv_iconst (v := 1) hx hb dX0_drawUp_17 (by decide) ?_
  refine va_put (D := D) (ci := 0) (v := .int 1) (ty := .boolean) (C := RX0) (T := TX0) (N := 14) hx hb hts hiX0 tyX0 tyX0_ok nmX0 hown hK hP hD hS 0 rfl rfl 6 (by decide) (hts (.fieldLink RX0 30 "CuckooShop$Clock" "goes" "Z") (by decide +kernel)) (fun _ h9 => h9) rfl (by decide +kernel) rfl rfl (Nat.le_of_ble_eq_true rfl) dX0_drawUp_18 (fun H locs hP hD hS => ?_)
  have hP : va_P D vwCl (cu_wc h0 (upd (upd K 2 600) 5 1)) H := hP
  have hD : va_D A (cu_wc h0 (upd (upd K 2 600) 5 1)) := hD
  refine lv_iload_n hx hb dX0_drawUp_21 rfl (lv_at hl 0 rfl) ?_
  exact fin _ _ _ _ _ rfl (by rfl) hP hS dX0_drawUp_22

set_option maxHeartbeats 4000000 in
set_option maxRecDepth 100000 in
theorem m_X0_fillOil (l : Launch) (D : va_G) (C : Nat → ClassId) (h0 : Nat) (K : Nat → Int32) : cu_I l D C yX0_fillOil wsX0_fillOil { frames := 0, cells := 0, slots := 0, locals := 0 } [.ref h0] (cu_wc h0 K) (cu_wc h0 (upd K 3 100)) (100 - K 3) 0 0 := by
  refine cu_openI (cc := cX0_fillOil) (maxL := 2) (ty := .int) (own := RX0) (by decide) rfl rfl (Nat.le_of_ble_eq_true rfl) ?_
  intro p e s m args below meth c A Z H0 ls e0 hx hb hml hts hown hnm hG hP hD hS hA hl fin
  have hK := hG.1
  have hl : lv_has ls 2 [(0, .ref h0)] := hl
  have hiX0 : ∀ w ∈ wsX00, w ∈ wsX0_fillOil := by decide +kernel
  refine lv_bipush (v := 100) hx hb dX0_fillOil_0 (by decide) ?_
  refine lv_aload_n hx hb dX0_fillOil_2 rfl (lv_at hl 0 rfl) ?_
  refine va_get (D := D) (ci := 0) (v := .int (K 3)) (C := RX0) (T := TX0) (N := 14) hx hb hts hiX0 hown hK hP 0 rfl rfl 4 (by decide) (hts (.fieldLink RX0 24 "CuckooShop$Clock" "oil" "I") (by decide +kernel)) (fun _ h9 => h9) rfl dX0_fillOil_3 ?_
  refine lv_isub hx hb dX0_fillOil_6 ?_
  refine lv_istore_n (lv' := [(1, .int (100 - (K 3))), (0, .ref h0)]) hx hb dX0_fillOil_7 rfl hl (by decide) rfl (fun ls hl => ?_)
  refine lv_aload_n hx hb dX0_fillOil_8 rfl (lv_at hl 1 rfl) ?_
  refine lv_bipush (v := 100) hx hb dX0_fillOil_9 (by decide) ?_
  refine va_put (D := D) (ci := 0) (v := .int 100) (ty := .int) (C := RX0) (T := TX0) (N := 14) hx hb hts hiX0 tyX0 tyX0_ok nmX0 hown hK hP hD hS 0 rfl rfl 4 (by decide) (hts (.fieldLink RX0 24 "CuckooShop$Clock" "oil" "I") (by decide +kernel)) (fun _ h9 => h9) rfl (by decide +kernel) rfl rfl (Nat.le_of_ble_eq_true rfl) dX0_fillOil_11 (fun H locs hP hD hS => ?_)
  have hP : va_P D vwCl (cu_wc h0 (upd K 3 100)) H := hP
  have hD : va_D A (cu_wc h0 (upd K 3 100)) := hD
  refine lv_iload_n hx hb dX0_fillOil_14 rfl (lv_at hl 0 rfl) ?_
  exact fin _ _ _ _ _ rfl (by rfl) hP hS dX0_fillOil_15

set_option maxHeartbeats 4000000 in
set_option maxRecDepth 100000 in
theorem m_X0_patchBellows (l : Launch) (D : va_G) (C : Nat → ClassId) (h0 : Nat) (K : Nat → Int32) : cu_I l D C yX0_patchBellows wsX0_patchBellows { frames := 0, cells := 0, slots := 0, locals := 0 } [.ref h0] (cu_wc h0 K) (cu_wc h0 (upd K 4 60)) (60 - K 4) 0 0 := by
  refine cu_openI (cc := cX0_patchBellows) (maxL := 2) (ty := .int) (own := RX0) (by decide) rfl rfl (Nat.le_of_ble_eq_true rfl) ?_
  intro p e s m args below meth c A Z H0 ls e0 hx hb hml hts hown hnm hG hP hD hS hA hl fin
  have hK := hG.1
  have hl : lv_has ls 2 [(0, .ref h0)] := hl
  have hiX0 : ∀ w ∈ wsX00, w ∈ wsX0_patchBellows := by decide +kernel
  refine lv_bipush (v := 60) hx hb dX0_patchBellows_0 (by decide) ?_
  refine lv_aload_n hx hb dX0_patchBellows_2 rfl (lv_at hl 0 rfl) ?_
  refine va_get (D := D) (ci := 0) (v := .int (K 4)) (C := RX0) (T := TX0) (N := 14) hx hb hts hiX0 hown hK hP 0 rfl rfl 5 (by decide) (hts (.fieldLink RX0 27 "CuckooShop$Clock" "bellows" "I") (by decide +kernel)) (fun _ h9 => h9) rfl dX0_patchBellows_3 ?_
  refine lv_isub hx hb dX0_patchBellows_6 ?_
  refine lv_istore_n (lv' := [(1, .int (60 - (K 4))), (0, .ref h0)]) hx hb dX0_patchBellows_7 rfl hl (by decide) rfl (fun ls hl => ?_)
  refine lv_aload_n hx hb dX0_patchBellows_8 rfl (lv_at hl 1 rfl) ?_
  refine lv_bipush (v := 60) hx hb dX0_patchBellows_9 (by decide) ?_
  refine va_put (D := D) (ci := 0) (v := .int 60) (ty := .int) (C := RX0) (T := TX0) (N := 14) hx hb hts hiX0 tyX0 tyX0_ok nmX0 hown hK hP hD hS 0 rfl rfl 5 (by decide) (hts (.fieldLink RX0 27 "CuckooShop$Clock" "bellows" "I") (by decide +kernel)) (fun _ h9 => h9) rfl (by decide +kernel) rfl rfl (Nat.le_of_ble_eq_true rfl) dX0_patchBellows_11 (fun H locs hP hD hS => ?_)
  have hP : va_P D vwCl (cu_wc h0 (upd K 4 60)) H := hP
  have hD : va_D A (cu_wc h0 (upd K 4 60)) := hD
  refine lv_iload_n hx hb dX0_patchBellows_14 rfl (lv_at hl 0 rfl) ?_
  exact fin _ _ _ _ _ rfl (by rfl) hP hS dX0_patchBellows_15

set_option maxHeartbeats 4000000 in
set_option maxRecDepth 100000 in
theorem m_X0_nudge (l : Launch) (D : va_G) (C : Nat → ClassId) (h0 : Nat) (K : Nat → Int32) : cu_I l D C yX0_nudge wsX0_nudge { frames := 0, cells := 0, slots := 0, locals := 0 } [.ref h0] (cu_wc h0 K) (cu_wc h0 (upd K 5 (k_nudge K))) (k_nudge K) 0 0 := by
  refine cu_openI (cc := cX0_nudge) (maxL := 1) (ty := .int) (own := RX0) (by decide) rfl rfl (Nat.le_of_ble_eq_true rfl) ?_
  intro p e s m args below meth c A Z H0 ls e0 hx hb hml hts hown hnm hG hP hD hS hA hl fin
  have hK := hG.1
  have hl : lv_has ls 1 [(0, .ref h0)] := hl
  have hiX0 : ∀ w ∈ wsX00, w ∈ wsX0_nudge := by decide +kernel
  refine lv_aload_n hx hb dX0_nudge_0 rfl (lv_at hl 0 rfl) ?_
  refine lv_aload_n hx hb dX0_nudge_1 rfl (lv_at hl 0 rfl) ?_
  refine va_get (D := D) (ci := 0) (v := .int (K 5)) (C := RX0) (T := TX0) (N := 14) hx hb hts hiX0 hown hK hP 0 rfl rfl 6 (by decide) (hts (.fieldLink RX0 30 "CuckooShop$Clock" "goes" "Z") (by decide +kernel)) (fun _ h9 => h9) rfl dX0_nudge_2 ?_
  refine lv_if_ne (tgt := 19) hx hb dX0_nudge_5 (by decide) (fun c_5 => ?_) (fun c_5 => ?_)
  · refine lv_iconst (v := 0) hx hb dX0_nudge_19 (by decide) ?_
    refine va_put (D := D) (ci := 0) (v := .int 0) (ty := .boolean) (C := RX0) (T := TX0) (N := 14) hx hb hts hiX0 tyX0 tyX0_ok nmX0 hown hK hP hD hS 0 rfl rfl 6 (by decide) (hts (.fieldLink RX0 30 "CuckooShop$Clock" "goes" "Z") (by decide +kernel)) (fun _ h9 => h9) rfl (by decide +kernel) rfl rfl (Nat.le_of_ble_eq_true rfl) dX0_nudge_20 (fun H locs hP hD hS => ?_)
    have hP : va_P D vwCl (cu_wc h0 (upd K 5 0)) H := hP
    have hD : va_D A (cu_wc h0 (upd K 5 0)) := hD
    refine lv_aload_n hx hb dX0_nudge_23 rfl (lv_at hl 0 rfl) ?_
    refine va_get (D := D) (ci := 0) (v := .int 0) (C := RX0) (T := TX0) (N := 14) hx hb hts hiX0 hown hK hP 0 rfl rfl 6 (by decide) (hts (.fieldLink RX0 30 "CuckooShop$Clock" "goes" "Z") (by decide +kernel)) (fun _ h9 => h9) rfl dX0_nudge_24 ?_
    refine lv_if_eq (tgt := 34) hx hb dX0_nudge_27 (by decide) (fun c_27 => ?_) (fun c_27 => absurd c_27 (by decide))
    refine lv_iconst (v := 0) hx hb dX0_nudge_34 (by decide) ?_
    exact fin _ _ _ _ _ rfl (by simp only [k_nudge, if_neg c_5, reduceIte]) (by simpa only [k_nudge, if_neg c_5, reduceIte] using hP) hS dX0_nudge_35
  · refine lv_aload_n hx hb dX0_nudge_8 rfl (lv_at hl 0 rfl) ?_
    refine va_get (D := D) (ci := 0) (v := .int (K 2)) (C := RX0) (T := TX0) (N := 14) hx hb hts hiX0 hown hK hP 0 rfl rfl 3 (by decide) (hts (.fieldLink RX0 21 "CuckooShop$Clock" "chain" "I") (by decide +kernel)) (fun _ h9 => h9) rfl dX0_nudge_9 ?_
    refine lv_if_eq (tgt := 19) hx hb dX0_nudge_12 (by decide) (fun c_12 => ?_) (fun c_12 => ?_)
    · refine lv_iconst (v := 0) hx hb dX0_nudge_19 (by decide) ?_
      refine va_put (D := D) (ci := 0) (v := .int 0) (ty := .boolean) (C := RX0) (T := TX0) (N := 14) hx hb hts hiX0 tyX0 tyX0_ok nmX0 hown hK hP hD hS 0 rfl rfl 6 (by decide) (hts (.fieldLink RX0 30 "CuckooShop$Clock" "goes" "Z") (by decide +kernel)) (fun _ h9 => h9) rfl (by decide +kernel) rfl rfl (Nat.le_of_ble_eq_true rfl) dX0_nudge_20 (fun H locs hP hD hS => ?_)
      have hP : va_P D vwCl (cu_wc h0 (upd K 5 0)) H := hP
      have hD : va_D A (cu_wc h0 (upd K 5 0)) := hD
      refine lv_aload_n hx hb dX0_nudge_23 rfl (lv_at hl 0 rfl) ?_
      refine va_get (D := D) (ci := 0) (v := .int 0) (C := RX0) (T := TX0) (N := 14) hx hb hts hiX0 hown hK hP 0 rfl rfl 6 (by decide) (hts (.fieldLink RX0 30 "CuckooShop$Clock" "goes" "Z") (by decide +kernel)) (fun _ h9 => h9) rfl dX0_nudge_24 ?_
      refine lv_if_eq (tgt := 34) hx hb dX0_nudge_27 (by decide) (fun c_27 => ?_) (fun c_27 => absurd c_27 (by decide))
      refine lv_iconst (v := 0) hx hb dX0_nudge_34 (by decide) ?_
      exact fin _ _ _ _ _ rfl (by simp only [k_nudge, if_pos c_5, if_pos c_12, reduceIte]) (by simpa only [k_nudge, if_pos c_5, if_pos c_12, reduceIte] using hP) hS dX0_nudge_35
    · refine lv_iconst (v := 1) hx hb dX0_nudge_15 (by decide) ?_
      refine lv_goto (tgt := 20) hx hb dX0_nudge_16 (by decide) ?_
      refine va_put (D := D) (ci := 0) (v := .int 1) (ty := .boolean) (C := RX0) (T := TX0) (N := 14) hx hb hts hiX0 tyX0 tyX0_ok nmX0 hown hK hP hD hS 0 rfl rfl 6 (by decide) (hts (.fieldLink RX0 30 "CuckooShop$Clock" "goes" "Z") (by decide +kernel)) (fun _ h9 => h9) rfl (by decide +kernel) rfl rfl (Nat.le_of_ble_eq_true rfl) dX0_nudge_20 (fun H locs hP hD hS => ?_)
      have hP : va_P D vwCl (cu_wc h0 (upd K 5 1)) H := hP
      have hD : va_D A (cu_wc h0 (upd K 5 1)) := hD
      refine lv_aload_n hx hb dX0_nudge_23 rfl (lv_at hl 0 rfl) ?_
      refine va_get (D := D) (ci := 0) (v := .int 1) (C := RX0) (T := TX0) (N := 14) hx hb hts hiX0 hown hK hP 0 rfl rfl 6 (by decide) (hts (.fieldLink RX0 30 "CuckooShop$Clock" "goes" "Z") (by decide +kernel)) (fun _ h9 => h9) rfl dX0_nudge_24 ?_
      refine lv_if_eq (tgt := 34) hx hb dX0_nudge_27 (by decide) (fun c_27 => absurd c_27 (by decide)) (fun c_27 => ?_)
      refine lv_iconst (v := 1) hx hb dX0_nudge_30 (by decide) ?_
      refine lv_goto (tgt := 35) hx hb dX0_nudge_31 (by decide) ?_
      exact fin _ _ _ _ _ rfl (by simp only [k_nudge, if_pos c_5, if_neg c_12, reduceIte]) (by simpa only [k_nudge, if_pos c_5, if_neg c_12, reduceIte] using hP) hS dX0_nudge_35

set_option maxHeartbeats 4000000 in
set_option maxRecDepth 100000 in
theorem m_X0_silence (l : Launch) (D : va_G) (C : Nat → ClassId) (h0 : Nat) (K : Nat → Int32) (v1 : Int32) (v2 : Int32) : cu_I l D C yX0_silence wsX0_silence { frames := 0, cells := 0, slots := 0, locals := 0 } [.ref h0, .int v1, .int v2] (cu_wc h0 K) (cu_wc h0 (upd (upd K 12 v1) 13 v2)) (K 12) 0 0 := by
  refine cu_openI (cc := cX0_silence) (maxL := 4) (ty := .int) (own := RX0) (by decide) rfl rfl (Nat.le_of_ble_eq_true rfl) ?_
  intro p e s m args below meth c A Z H0 ls e0 hx hb hml hts hown hnm hG hP hD hS hA hl fin
  have hK := hG.1
  have hl : lv_has ls 4 [(0, .ref h0), (1, .int v1), (2, .int v2)] := hl
  have hiX0 : ∀ w ∈ wsX00, w ∈ wsX0_silence := by decide +kernel
  refine lv_aload_n hx hb dX0_silence_0 rfl (lv_at hl 0 rfl) ?_
  refine va_get (D := D) (ci := 0) (v := .int (K 12)) (C := RX0) (T := TX0) (N := 14) hx hb hts hiX0 hown hK hP 0 rfl rfl 9 (by decide) (hts (.fieldLink RX0 40 "CuckooShop$Clock" "shutFrom" "I") (by decide +kernel)) (fun _ h9 => h9) rfl dX0_silence_1 ?_
  refine lv_istore_n (lv' := [(3, .int (K 12)), (0, .ref h0), (1, .int v1), (2, .int v2)]) hx hb dX0_silence_4 rfl hl (by decide) rfl (fun ls hl => ?_)
  refine lv_aload_n hx hb dX0_silence_5 rfl (lv_at hl 1 rfl) ?_
  refine lv_iload_n hx hb dX0_silence_6 rfl (lv_at hl 2 rfl) ?_
  refine va_put (D := D) (ci := 0) (v := .int v1) (ty := .int) (C := RX0) (T := TX0) (N := 14) hx hb hts hiX0 tyX0 tyX0_ok nmX0 hown hK hP hD hS 0 rfl rfl 9 (by decide) (hts (.fieldLink RX0 40 "CuckooShop$Clock" "shutFrom" "I") (by decide +kernel)) (fun _ h9 => h9) rfl (by decide +kernel) rfl rfl (Nat.le_of_ble_eq_true rfl) dX0_silence_7 (fun H locs hP hD hS => ?_)
  have hP : va_P D vwCl (cu_wc h0 (upd K 12 v1)) H := hP
  have hD : va_D A (cu_wc h0 (upd K 12 v1)) := hD
  refine lv_aload_n hx hb dX0_silence_10 rfl (lv_at hl 1 rfl) ?_
  refine lv_iload_n hx hb dX0_silence_11 rfl (lv_at hl 3 rfl) ?_
  refine va_put (D := D) (ci := 0) (v := .int v2) (ty := .int) (C := RX0) (T := TX0) (N := 14) hx hb hts hiX0 tyX0 tyX0_ok nmX0 hown hK hP hD hS 0 rfl rfl 10 (by decide) (hts (.fieldLink RX0 43 "CuckooShop$Clock" "shutTill" "I") (by decide +kernel)) (fun _ h9 => h9) rfl (by decide +kernel) rfl rfl (Nat.le_of_ble_eq_true rfl) dX0_silence_12 (fun H locs hP hD hS => ?_)
  have hP : va_P D vwCl (cu_wc h0 (upd (upd K 12 v1) 13 v2)) H := hP
  have hD : va_D A (cu_wc h0 (upd (upd K 12 v1) 13 v2)) := hD
  refine lv_iload_n hx hb dX0_silence_15 rfl (lv_at hl 0 rfl) ?_
  exact fin _ _ _ _ _ rfl (by rfl) hP hS dX0_silence_16

set_option maxHeartbeats 4000000 in
set_option maxRecDepth 100000 in
theorem m_X0_advanceWith (l : Launch) (D : va_G) (C : Nat → ClassId) (h0 : Nat) (K : Nat → Int32) (v1 : Int32) (v2 : Int32) : cu_I l D C yX0_advanceWith wsX0_advanceWith { frames := 0, cells := 0, slots := 0, locals := 0 } [.ref h0, .int v1, .int v2] (cu_wc h0 K) (cu_wc h0 K) (k_advW K v1 v2) 0 0 := by
  refine cu_openI (cc := cX0_advanceWith) (maxL := 4) (ty := .int) (own := RX0) (by decide) rfl rfl (Nat.le_of_ble_eq_true rfl) ?_
  intro p e s m args below meth c A Z H0 ls e0 hx hb hml hts hown hnm hG hP hD hS hA hl fin
  have hK := hG.1
  have hl : lv_has ls 4 [(0, .ref h0), (1, .int v1), (2, .int v2)] := hl
  have hiX0 : ∀ w ∈ wsX00, w ∈ wsX0_advanceWith := by decide +kernel
  refine lv_iload_n hx hb dX0_advanceWith_0 rfl (lv_at hl 2 rfl) ?_
  refine lv_if_ne (tgt := 6) hx hb dX0_advanceWith_1 (by decide) (fun c_1 => ?_) (fun c_1 => ?_)
  · refine lv_sipush (v := 900) hx hb dX0_advanceWith_6 (by decide) ?_
    refine lv_iload_n hx hb dX0_advanceWith_9 rfl (lv_at hl 1 rfl) ?_
    refine lv_imul hx hb dX0_advanceWith_10 ?_
    refine lv_iload_n hx hb dX0_advanceWith_11 rfl (lv_at hl 2 rfl) ?_
    refine lv_idiv hx hb dX0_advanceWith_12 c_1 ?_
    refine lv_aload_n hx hb dX0_advanceWith_13 rfl (lv_at hl 0 rfl) ?_
    refine va_get (D := D) (ci := 0) (v := .int (K 11)) (C := RX0) (T := TX0) (N := 14) hx hb hts hiX0 hown hK hP 0 rfl rfl 2 (by decide) (hts (.fieldLink RX0 18 "CuckooShop$Clock" "swing" "I") (by decide +kernel)) (fun _ h9 => h9) rfl dX0_advanceWith_14 ?_
    refine lv_iadd hx hb dX0_advanceWith_17 ?_
    refine lv_istore_n (lv' := [(3, .int (((900 * v1) / v2) + (K 11))), (0, .ref h0), (1, .int v1), (2, .int v2)]) hx hb dX0_advanceWith_18 rfl hl (by decide) rfl (fun ls hl => ?_)
    refine lv_aload_n hx hb dX0_advanceWith_19 rfl (lv_at hl 1 rfl) ?_
    refine va_get (D := D) (ci := 0) (v := .int (K 3)) (C := RX0) (T := TX0) (N := 14) hx hb hts hiX0 hown hK hP 0 rfl rfl 4 (by decide) (hts (.fieldLink RX0 24 "CuckooShop$Clock" "oil" "I") (by decide +kernel)) (fun _ h9 => h9) rfl dX0_advanceWith_20 ?_
    refine lv_bipush (v := 20) hx hb dX0_advanceWith_23 (by decide) ?_
    refine lv_icmp_ge (tgt := 37) hx hb dX0_advanceWith_25 (by decide) (fun c_25 => ?_) (fun c_25 => ?_)
    · refine lv_iload_n hx hb dX0_advanceWith_37 rfl (lv_at hl 0 rfl) ?_
      exact fin _ _ _ _ _ rfl (by simp only [k_advW, if_neg c_1, if_pos c_25, reduceIte]) hP hS dX0_advanceWith_38
    · refine lv_iload_n hx hb dX0_advanceWith_28 rfl (lv_at hl 0 rfl) ?_
      refine lv_iload_n hx hb dX0_advanceWith_29 rfl (lv_at hl 0 rfl) ?_
      refine lv_bipush (v := 10) hx hb dX0_advanceWith_30 (by decide) ?_
      refine lv_idiv hx hb dX0_advanceWith_32 (by decide) ?_
      refine lv_isub hx hb dX0_advanceWith_33 ?_
      refine lv_goto (tgt := 38) hx hb dX0_advanceWith_34 (by decide) ?_
      exact fin _ _ _ _ _ rfl (by simp only [k_advW, if_neg c_1, if_neg c_25, reduceIte]) hP hS dX0_advanceWith_38
  · refine lv_iconst (v := 0) hx hb dX0_advanceWith_4 (by decide) ?_
    exact fin _ _ _ _ _ rfl (by simp only [k_advW, if_pos c_1, reduceIte]) hP hS dX0_advanceWith_5

set_option maxHeartbeats 4000000 in
set_option maxRecDepth 100000 in
theorem m_X0_advance (l : Launch) (D : va_G) (C : Nat → ClassId) (h0 : Nat) (K : Nat → Int32) : cu_I l D C yX0_advance wsX0_advance { frames := 1, cells := 0, slots := 0, locals := 23 } [.ref h0] (cu_wc h0 K) (cu_wc h0 K) (k_adv K) 0 0 := by
  refine cu_openI (cc := cX0_advance) (maxL := 1) (ty := .int) (own := RX0) (by decide) rfl rfl (Nat.le_of_ble_eq_true rfl) ?_
  intro p e s m args below meth c A Z H0 ls e0 hx hb hml hts hown hnm hG hP hD hS hA hl fin
  have hK := hG.1
  have hl : lv_has ls 1 [(0, .ref h0)] := hl
  have hiX0 : ∀ w ∈ wsX00, w ∈ wsX0_advance := by decide +kernel
  refine lv_aload_n hx hb dX0_advance_0 rfl (lv_at hl 0 rfl) ?_
  refine lv_aload_n hx hb dX0_advance_1 rfl (lv_at hl 0 rfl) ?_
  refine va_get (D := D) (ci := 0) (v := .int (K 9)) (C := RX0) (T := TX0) (N := 14) hx hb hts hiX0 hown hK hP 0 rfl rfl 0 (by decide) (hts (.fieldLink RX0 9 "CuckooShop$Clock" "gearA" "I") (by decide +kernel)) (fun _ h9 => h9) rfl dX0_advance_2 ?_
  refine lv_aload_n hx hb dX0_advance_5 rfl (lv_at hl 0 rfl) ?_
  refine va_get (D := D) (ci := 0) (v := .int (K 10)) (C := RX0) (T := TX0) (N := 14) hx hb hts hiX0 hown hK hP 0 rfl rfl 1 (by decide) (hts (.fieldLink RX0 15 "CuckooShop$Clock" "gearB" "I") (by decide +kernel)) (fun _ h9 => h9) rfl dX0_advance_6 ?_
  have sp := cu_sp.all (W0 := (cu_wc h0 K)) (W1 := (cu_wc h0 K)) rfl
  refine cu_callI (va_runV (As := [.int (K 9), .int (K 10)]) (rest := []) ⟨hx, hb, hml, hown, hts⟩ ((m_X0_advanceWith l D C h0 K (K 9) (K 10)) H0.size) (cwV 2 hts gX0_advance_X0_advanceWith rfl rfl rfl (by decide +kernel) ⟨Nat.le_of_ble_eq_true rfl, Nat.le_of_ble_eq_true rfl⟩) (cu_preV (ci := 0) sp hG hP hD rfl rfl) rfl rfl hl.1 rfl (lv_room (Nat.le_of_ble_eq_true rfl)) dX0_advance_9 ⟨Nat.le_of_ble_eq_true rfl, Nat.le_of_ble_eq_true rfl⟩) sp hP hD hS hA (fun H locs hP hD hS => ?_)
  have hP : va_P D vwCl (cu_wc h0 K) H := hP
  have hD : va_D A (cu_wc h0 K) := hD
  exact fin _ _ _ _ _ rfl (by rfl) hP hS dX0_advance_12

set_option maxHeartbeats 4000000 in
set_option maxRecDepth 100000 in
theorem m_X0_isShutAt (l : Launch) (D : va_G) (C : Nat → ClassId) (h0 : Nat) (K : Nat → Int32) (v1 : Int32) : cu_I l D C yX0_isShutAt wsX0_isShutAt { frames := 0, cells := 0, slots := 0, locals := 0 } [.ref h0, .int v1] (cu_wc h0 K) (cu_wc h0 K) (k_shutAt K v1) 0 0 := by
  refine cu_openI (cc := cX0_isShutAt) (maxL := 2) (ty := .boolean) (own := RX0) (by decide) rfl rfl (Nat.le_of_ble_eq_true rfl) ?_
  intro p e s m args below meth c A Z H0 ls e0 hx hb hml hts hown hnm hG hP hD hS hA hl fin
  have hK := hG.1
  have hl : lv_has ls 2 [(0, .ref h0), (1, .int v1)] := hl
  have hiX0 : ∀ w ∈ wsX00, w ∈ wsX0_isShutAt := by decide +kernel
  refine lv_aload_n hx hb dX0_isShutAt_0 rfl (lv_at hl 0 rfl) ?_
  refine va_get (D := D) (ci := 0) (v := .int (K 12)) (C := RX0) (T := TX0) (N := 14) hx hb hts hiX0 hown hK hP 0 rfl rfl 9 (by decide) (hts (.fieldLink RX0 40 "CuckooShop$Clock" "shutFrom" "I") (by decide +kernel)) (fun _ h9 => h9) rfl dX0_isShutAt_1 ?_
  refine lv_iconst (v := -1) hx hb dX0_isShutAt_4 (by decide) ?_
  refine lv_icmp_ne (tgt := 10) hx hb dX0_isShutAt_5 (by decide) (fun c_5 => ?_) (fun c_5 => ?_)
  · refine lv_aload_n hx hb dX0_isShutAt_10 rfl (lv_at hl 0 rfl) ?_
    refine va_get (D := D) (ci := 0) (v := .int (K 12)) (C := RX0) (T := TX0) (N := 14) hx hb hts hiX0 hown hK hP 0 rfl rfl 9 (by decide) (hts (.fieldLink RX0 40 "CuckooShop$Clock" "shutFrom" "I") (by decide +kernel)) (fun _ h9 => h9) rfl dX0_isShutAt_11 ?_
    refine lv_aload_n hx hb dX0_isShutAt_14 rfl (lv_at hl 0 rfl) ?_
    refine va_get (D := D) (ci := 0) (v := .int (K 13)) (C := RX0) (T := TX0) (N := 14) hx hb hts hiX0 hown hK hP 0 rfl rfl 10 (by decide) (hts (.fieldLink RX0 43 "CuckooShop$Clock" "shutTill" "I") (by decide +kernel)) (fun _ h9 => h9) rfl dX0_isShutAt_15 ?_
    refine lv_icmp_ge (tgt := 43) hx hb dX0_isShutAt_18 (by decide) (fun c_18 => ?_) (fun c_18 => ?_)
    · refine lv_iload_n hx hb dX0_isShutAt_43 rfl (lv_at hl 1 rfl) ?_
      refine lv_aload_n hx hb dX0_isShutAt_44 rfl (lv_at hl 0 rfl) ?_
      refine va_get (D := D) (ci := 0) (v := .int (K 12)) (C := RX0) (T := TX0) (N := 14) hx hb hts hiX0 hown hK hP 0 rfl rfl 9 (by decide) (hts (.fieldLink RX0 40 "CuckooShop$Clock" "shutFrom" "I") (by decide +kernel)) (fun _ h9 => h9) rfl dX0_isShutAt_45 ?_
      refine lv_icmp_ge (tgt := 59) hx hb dX0_isShutAt_48 (by decide) (fun c_48 => ?_) (fun c_48 => ?_)
      · refine lv_iconst (v := 1) hx hb dX0_isShutAt_59 (by decide) ?_
        refine lv_goto (tgt := 64) hx hb dX0_isShutAt_60 (by decide) ?_
        exact fin _ _ _ _ _ (by decide) (by simp only [k_shutAt, if_neg c_5, if_pos c_18, if_pos c_48, reduceIte]) hP hS dX0_isShutAt_64
      · refine lv_iload_n hx hb dX0_isShutAt_51 rfl (lv_at hl 1 rfl) ?_
        refine lv_aload_n hx hb dX0_isShutAt_52 rfl (lv_at hl 0 rfl) ?_
        refine va_get (D := D) (ci := 0) (v := .int (K 13)) (C := RX0) (T := TX0) (N := 14) hx hb hts hiX0 hown hK hP 0 rfl rfl 10 (by decide) (hts (.fieldLink RX0 43 "CuckooShop$Clock" "shutTill" "I") (by decide +kernel)) (fun _ h9 => h9) rfl dX0_isShutAt_53 ?_
        refine lv_icmp_ge (tgt := 63) hx hb dX0_isShutAt_56 (by decide) (fun c_56 => ?_) (fun c_56 => ?_)
        · refine lv_iconst (v := 0) hx hb dX0_isShutAt_63 (by decide) ?_
          exact fin _ _ _ _ _ (by decide) (by simp only [k_shutAt, if_neg c_5, if_pos c_18, if_neg c_48, if_pos c_56, reduceIte]) hP hS dX0_isShutAt_64
        · refine lv_iconst (v := 1) hx hb dX0_isShutAt_59 (by decide) ?_
          refine lv_goto (tgt := 64) hx hb dX0_isShutAt_60 (by decide) ?_
          exact fin _ _ _ _ _ (by decide) (by simp only [k_shutAt, if_neg c_5, if_pos c_18, if_neg c_48, if_neg c_56, reduceIte]) hP hS dX0_isShutAt_64
    · refine lv_iload_n hx hb dX0_isShutAt_21 rfl (lv_at hl 1 rfl) ?_
      refine lv_aload_n hx hb dX0_isShutAt_22 rfl (lv_at hl 0 rfl) ?_
      refine va_get (D := D) (ci := 0) (v := .int (K 12)) (C := RX0) (T := TX0) (N := 14) hx hb hts hiX0 hown hK hP 0 rfl rfl 9 (by decide) (hts (.fieldLink RX0 40 "CuckooShop$Clock" "shutFrom" "I") (by decide +kernel)) (fun _ h9 => h9) rfl dX0_isShutAt_23 ?_
      refine lv_icmp_lt (tgt := 41) hx hb dX0_isShutAt_26 (by decide) (fun c_26 => ?_) (fun c_26 => ?_)
      · refine lv_iconst (v := 0) hx hb dX0_isShutAt_41 (by decide) ?_
        exact fin _ _ _ _ _ (by decide) (by simp only [k_shutAt, if_neg c_5, if_neg c_18, if_pos c_26, reduceIte]) hP hS dX0_isShutAt_42
      · refine lv_iload_n hx hb dX0_isShutAt_29 rfl (lv_at hl 1 rfl) ?_
        refine lv_aload_n hx hb dX0_isShutAt_30 rfl (lv_at hl 0 rfl) ?_
        refine va_get (D := D) (ci := 0) (v := .int (K 13)) (C := RX0) (T := TX0) (N := 14) hx hb hts hiX0 hown hK hP 0 rfl rfl 10 (by decide) (hts (.fieldLink RX0 43 "CuckooShop$Clock" "shutTill" "I") (by decide +kernel)) (fun _ h9 => h9) rfl dX0_isShutAt_31 ?_
        refine lv_icmp_ge (tgt := 41) hx hb dX0_isShutAt_34 (by decide) (fun c_34 => ?_) (fun c_34 => ?_)
        · refine lv_iconst (v := 0) hx hb dX0_isShutAt_41 (by decide) ?_
          exact fin _ _ _ _ _ (by decide) (by simp only [k_shutAt, if_neg c_5, if_neg c_18, if_neg c_26, if_pos c_34, reduceIte]) hP hS dX0_isShutAt_42
        · refine lv_iconst (v := 1) hx hb dX0_isShutAt_37 (by decide) ?_
          refine lv_goto (tgt := 42) hx hb dX0_isShutAt_38 (by decide) ?_
          exact fin _ _ _ _ _ (by decide) (by simp only [k_shutAt, if_neg c_5, if_neg c_18, if_neg c_26, if_neg c_34, reduceIte]) hP hS dX0_isShutAt_42
  · refine lv_iconst (v := 0) hx hb dX0_isShutAt_8 (by decide) ?_
    exact fin _ _ _ _ _ (by decide) (by simp only [k_shutAt, if_pos c_5, reduceIte]) hP hS dX0_isShutAt_9

set_option maxHeartbeats 4000000 in
set_option maxRecDepth 100000 in
theorem m_X0_minutesToStand (l : Launch) (D : va_G) (C : Nat → ClassId) (h0 : Nat) (K : Nat → Int32) : cu_I l D C yX0_minutesToStand wsX0_minutesToStand { frames := 0, cells := 0, slots := 0, locals := 0 } [.ref h0] (cu_wc h0 K) (cu_wc h0 K) (k_stand K) 0 0 := by
  refine cu_openI (cc := cX0_minutesToStand) (maxL := 1) (ty := .int) (own := RX0) (by decide) rfl rfl (Nat.le_of_ble_eq_true rfl) ?_
  intro p e s m args below meth c A Z H0 ls e0 hx hb hml hts hown hnm hG hP hD hS hA hl fin
  have hK := hG.1
  have hl : lv_has ls 1 [(0, .ref h0)] := hl
  have hiX0 : ∀ w ∈ wsX00, w ∈ wsX0_minutesToStand := by decide +kernel
  refine lv_aload_n hx hb dX0_minutesToStand_0 rfl (lv_at hl 0 rfl) ?_
  refine va_get (D := D) (ci := 0) (v := .int (K 5)) (C := RX0) (T := TX0) (N := 14) hx hb hts hiX0 hown hK hP 0 rfl rfl 6 (by decide) (hts (.fieldLink RX0 30 "CuckooShop$Clock" "goes" "Z") (by decide +kernel)) (fun _ h9 => h9) rfl dX0_minutesToStand_1 ?_
  refine lv_if_eq (tgt := 14) hx hb dX0_minutesToStand_4 (by decide) (fun c_4 => ?_) (fun c_4 => ?_)
  · refine lv_iconst (v := 0) hx hb dX0_minutesToStand_14 (by decide) ?_
    exact fin _ _ _ _ _ rfl (by simp only [k_stand, if_pos c_4, reduceIte]) hP hS dX0_minutesToStand_15
  · refine lv_aload_n hx hb dX0_minutesToStand_7 rfl (lv_at hl 0 rfl) ?_
    refine va_get (D := D) (ci := 0) (v := .int (K 2)) (C := RX0) (T := TX0) (N := 14) hx hb hts hiX0 hown hK hP 0 rfl rfl 3 (by decide) (hts (.fieldLink RX0 21 "CuckooShop$Clock" "chain" "I") (by decide +kernel)) (fun _ h9 => h9) rfl dX0_minutesToStand_8 ?_
    refine lv_goto (tgt := 15) hx hb dX0_minutesToStand_11 (by decide) ?_
    exact fin _ _ _ _ _ rfl (by simp only [k_stand, if_neg c_4, reduceIte]) hP hS dX0_minutesToStand_15

set_option maxHeartbeats 4000000 in
set_option maxRecDepth 100000 in
theorem m_X0_cuckoo (l : Launch) (D : va_G) (C : Nat → ClassId) (h0 : Nat) (K : Nat → Int32) (v1 : Int32) : cu_V l D C yX0_cuckoo wsX0_cuckoo { frames := 1, cells := 0, slots := 0, locals := 13 } [.ref h0, .int v1] (cu_wc h0 K) (cu_wc h0 (k_cuckoo K v1)) 0 0 := by
  refine cu_openV (cc := cX0_cuckoo) (maxL := 3) (own := RX0) (by decide) rfl rfl (Nat.le_of_ble_eq_true rfl) ?_
  intro p e s m args below meth c A Z H0 ls e0 hx hb hml hts hown hnm hG hP hD hS hA hl fin
  have hK := hG.1
  have hl : lv_has ls 3 [(0, .ref h0), (1, .int v1)] := hl
  have hiX0 : ∀ w ∈ wsX00, w ∈ wsX0_cuckoo := by decide +kernel
  refine lv_iload_n hx hb dX0_cuckoo_0 rfl (lv_at hl 1 rfl) ?_
  refine lv_aload_n hx hb dX0_cuckoo_1 rfl (lv_at hl 0 rfl) ?_
  refine va_get (D := D) (ci := 0) (v := .int (K 4)) (C := RX0) (T := TX0) (N := 14) hx hb hts hiX0 hown hK hP 0 rfl rfl 5 (by decide) (hts (.fieldLink RX0 27 "CuckooShop$Clock" "bellows" "I") (by decide +kernel)) (fun _ h9 => h9) rfl dX0_cuckoo_2 ?_
  refine va_mmin hx hb (hml.trans hl.1.symm) hown (hts (.methodLink RX0 87 Lib.Math.min.name) (by decide +kernel)) (hts (.static Lib.Math.min.name) (by decide +kernel)) (hts (.initialized "java/lang/Math") (by decide +kernel)) (hts (.code Lib.Math.min.name Lib.Math.min.code 2 (some .int)) (by decide +kernel)) (Nat.le_of_ble_eq_true rfl) (Nat.le_of_ble_eq_true rfl) (Nat.zero_le _) (Nat.zero_le _) dX0_cuckoo_5 ?_
  refine lv_topi (fun dn edn => ?_)
  refine lv_istore_n (lv' := [(2, .int dn), (0, .ref h0), (1, .int v1)]) hx hb dX0_cuckoo_8 rfl hl (by decide) rfl (fun ls hl => ?_)
  refine lv_aload_n hx hb dX0_cuckoo_9 rfl (lv_at hl 1 rfl) ?_
  refine lv_dup hx hb dX0_cuckoo_10 rfl ?_
  refine va_get (D := D) (ci := 0) (v := .int (K 4)) (C := RX0) (T := TX0) (N := 14) hx hb hts hiX0 hown hK hP 0 rfl rfl 5 (by decide) (hts (.fieldLink RX0 27 "CuckooShop$Clock" "bellows" "I") (by decide +kernel)) (fun _ h9 => h9) rfl dX0_cuckoo_11 ?_
  refine lv_iload_n hx hb dX0_cuckoo_14 rfl (lv_at hl 0 rfl) ?_
  refine lv_isub hx hb dX0_cuckoo_15 ?_
  refine va_put (D := D) (ci := 0) (v := .int ((K 4) - dn)) (ty := .int) (C := RX0) (T := TX0) (N := 14) hx hb hts hiX0 tyX0 tyX0_ok nmX0 hown hK hP hD hS 0 rfl rfl 5 (by decide) (hts (.fieldLink RX0 27 "CuckooShop$Clock" "bellows" "I") (by decide +kernel)) (fun _ h9 => h9) rfl (by decide +kernel) rfl rfl (Nat.le_of_ble_eq_true rfl) dX0_cuckoo_16 (fun H locs hP hD hS => ?_)
  have hP : va_P D vwCl (cu_wc h0 (upd K 4 ((K 4) - dn))) H := hP
  have hD : va_D A (cu_wc h0 (upd K 4 ((K 4) - dn))) := hD
  refine lv_aload_n hx hb dX0_cuckoo_19 rfl (lv_at hl 1 rfl) ?_
  refine lv_dup hx hb dX0_cuckoo_20 rfl ?_
  refine va_get (D := D) (ci := 0) (v := .int (K 6)) (C := RX0) (T := TX0) (N := 14) hx hb hts hiX0 hown hK hP 0 rfl rfl 11 (by decide) (hts (.fieldLink RX0 46 "CuckooShop$Clock" "calls" "I") (by decide +kernel)) (fun _ h9 => h9) rfl dX0_cuckoo_21 ?_
  refine lv_iload_n hx hb dX0_cuckoo_24 rfl (lv_at hl 0 rfl) ?_
  refine lv_iadd hx hb dX0_cuckoo_25 ?_
  refine va_put (D := D) (ci := 0) (v := .int ((K 6) + dn)) (ty := .int) (C := RX0) (T := TX0) (N := 14) hx hb hts hiX0 tyX0 tyX0_ok nmX0 hown hK hP hD hS 0 rfl rfl 11 (by decide) (hts (.fieldLink RX0 46 "CuckooShop$Clock" "calls" "I") (by decide +kernel)) (fun _ h9 => h9) rfl (by decide +kernel) rfl rfl (Nat.le_of_ble_eq_true rfl) dX0_cuckoo_26 (fun H locs hP hD hS => ?_)
  have hP : va_P D vwCl (cu_wc h0 (upd (upd K 4 ((K 4) - dn)) 6 ((K 6) + dn))) H := hP
  have hD : va_D A (cu_wc h0 (upd (upd K 4 ((K 4) - dn)) 6 ((K 6) + dn))) := hD
  refine lv_aload_n hx hb dX0_cuckoo_29 rfl (lv_at hl 1 rfl) ?_
  refine lv_dup hx hb dX0_cuckoo_30 rfl ?_
  refine va_get (D := D) (ci := 0) (v := .int (K 8)) (C := RX0) (T := TX0) (N := 14) hx hb hts hiX0 hown hK hP 0 rfl rfl 13 (by decide) (hts (.fieldLink RX0 52 "CuckooShop$Clock" "latestCalls" "I") (by decide +kernel)) (fun _ h9 => h9) rfl dX0_cuckoo_31 ?_
  refine lv_iload_n hx hb dX0_cuckoo_34 rfl (lv_at hl 0 rfl) ?_
  refine lv_iadd hx hb dX0_cuckoo_35 ?_
  refine va_put (D := D) (ci := 0) (v := .int ((K 8) + dn)) (ty := .int) (C := RX0) (T := TX0) (N := 14) hx hb hts hiX0 tyX0 tyX0_ok nmX0 hown hK hP hD hS 0 rfl rfl 13 (by decide) (hts (.fieldLink RX0 52 "CuckooShop$Clock" "latestCalls" "I") (by decide +kernel)) (fun _ h9 => h9) rfl (by decide +kernel) rfl rfl (Nat.le_of_ble_eq_true rfl) dX0_cuckoo_36 (fun H locs hP hD hS => ?_)
  have hP : va_P D vwCl (cu_wc h0 (upd (upd (upd K 4 ((K 4) - dn)) 6 ((K 6) + dn)) 8 ((K 8) + dn))) H := hP
  have hD : va_D A (cu_wc h0 (upd (upd (upd K 4 ((K 4) - dn)) 6 ((K 6) + dn)) 8 ((K 8) + dn))) := hD
  refine lv_aload_n hx hb dX0_cuckoo_39 rfl (lv_at hl 1 rfl) ?_
  refine lv_dup hx hb dX0_cuckoo_40 rfl ?_
  refine va_get (D := D) (ci := 0) (v := .int (K 7)) (C := RX0) (T := TX0) (N := 14) hx hb hts hiX0 hown hK hP 0 rfl rfl 12 (by decide) (hts (.fieldLink RX0 49 "CuckooShop$Clock" "missed" "I") (by decide +kernel)) (fun _ h9 => h9) rfl dX0_cuckoo_41 ?_
  refine lv_iload_n hx hb dX0_cuckoo_44 rfl (lv_at hl 2 rfl) ?_
  refine lv_iload_n hx hb dX0_cuckoo_45 rfl (lv_at hl 0 rfl) ?_
  refine lv_isub hx hb dX0_cuckoo_46 ?_
  refine lv_iadd hx hb dX0_cuckoo_47 ?_
  refine va_put (D := D) (ci := 0) (v := .int ((K 7) + (v1 - dn))) (ty := .int) (C := RX0) (T := TX0) (N := 14) hx hb hts hiX0 tyX0 tyX0_ok nmX0 hown hK hP hD hS 0 rfl rfl 12 (by decide) (hts (.fieldLink RX0 49 "CuckooShop$Clock" "missed" "I") (by decide +kernel)) (fun _ h9 => h9) rfl (by decide +kernel) rfl rfl (Nat.le_of_ble_eq_true rfl) dX0_cuckoo_48 (fun H locs hP hD hS => ?_)
  have hP : va_P D vwCl (cu_wc h0 (upd (upd (upd (upd K 4 ((K 4) - dn)) 6 ((K 6) + dn)) 8 ((K 8) + dn)) 7 ((K 7) + (v1 - dn)))) H := hP
  have hD : va_D A (cu_wc h0 (upd (upd (upd (upd K 4 ((K 4) - dn)) 6 ((K 6) + dn)) 8 ((K 8) + dn)) 7 ((K 7) + (v1 - dn)))) := hD
  subst edn
  exact fin _ _ _ _ hP hS dX0_cuckoo_51

set_option maxHeartbeats 4000000 in
set_option maxRecDepth 100000 in
theorem m_X0_wear (l : Launch) (D : va_G) (C : Nat → ClassId) (h0 : Nat) (K : Nat → Int32) (v1 : Int32) : cu_V l D C yX0_wear wsX0_wear { frames := 0, cells := 0, slots := 0, locals := 0 } [.ref h0, .int v1] (cu_wc h0 K) (cu_wc h0 (k_wear v1 K)) 0 0 := by
  refine cu_openV (cc := cX0_wear) (maxL := 2) (own := RX0) (by decide) rfl rfl (Nat.le_of_ble_eq_true rfl) ?_
  intro p e s m args below meth c A Z H0 ls e0 hx hb hml hts hown hnm hG hP hD hS hA hl fin
  have hK := hG.1
  have hl : lv_has ls 2 [(0, .ref h0), (1, .int v1)] := hl
  have hiX0 : ∀ w ∈ wsX00, w ∈ wsX0_wear := by decide +kernel
  refine lv_aload_n hx hb dX0_wear_0 rfl (lv_at hl 0 rfl) ?_
  refine lv_dup hx hb dX0_wear_1 rfl ?_
  refine va_get (D := D) (ci := 0) (v := .int (K 2)) (C := RX0) (T := TX0) (N := 14) hx hb hts hiX0 hown hK hP 0 rfl rfl 3 (by decide) (hts (.fieldLink RX0 21 "CuckooShop$Clock" "chain" "I") (by decide +kernel)) (fun _ h9 => h9) rfl dX0_wear_2 ?_
  refine lv_iconst (v := 1) hx hb dX0_wear_5 (by decide) ?_
  refine lv_isub hx hb dX0_wear_6 ?_
  refine va_put (D := D) (ci := 0) (v := .int ((K 2) - 1)) (ty := .int) (C := RX0) (T := TX0) (N := 14) hx hb hts hiX0 tyX0 tyX0_ok nmX0 hown hK hP hD hS 0 rfl rfl 3 (by decide) (hts (.fieldLink RX0 21 "CuckooShop$Clock" "chain" "I") (by decide +kernel)) (fun _ h9 => h9) rfl (by decide +kernel) rfl rfl (Nat.le_of_ble_eq_true rfl) dX0_wear_7 (fun H locs hP hD hS => ?_)
  have hP : va_P D vwCl (cu_wc h0 (upd K 2 ((K 2) - 1))) H := hP
  have hD : va_D A (cu_wc h0 (upd K 2 ((K 2) - 1))) := hD
  refine lv_iload_n hx hb dX0_wear_10 rfl (lv_at hl 1 rfl) ?_
  refine lv_bipush (v := 10) hx hb dX0_wear_11 (by decide) ?_
  refine lv_irem hx hb dX0_wear_13 (by decide) ?_
  refine lv_if_ne (tgt := 34) hx hb dX0_wear_14 (by decide) (fun c_14 => ?_) (fun c_14 => ?_)
  · refine lv_aload_n hx hb dX0_wear_34 rfl (lv_at hl 0 rfl) ?_
    refine va_get (D := D) (ci := 0) (v := .int ((K 2) - 1)) (C := RX0) (T := TX0) (N := 14) hx hb hts hiX0 hown hK hP 0 rfl rfl 3 (by decide) (hts (.fieldLink RX0 21 "CuckooShop$Clock" "chain" "I") (by decide +kernel)) (fun _ h9 => h9) rfl dX0_wear_35 ?_
    refine lv_if_gt (tgt := 46) hx hb dX0_wear_38 (by decide) (fun c_38 => ?_) (fun c_38 => ?_)
    · exact fin _ _ _ _ (by simpa only [k_wear, k_wearO, if_neg c_14, if_pos c_38, reduceIte] using hP) hS dX0_wear_46
    · refine lv_aload_n hx hb dX0_wear_41 rfl (lv_at hl 0 rfl) ?_
      refine lv_iconst (v := 0) hx hb dX0_wear_42 (by decide) ?_
      refine va_put (D := D) (ci := 0) (v := .int 0) (ty := .boolean) (C := RX0) (T := TX0) (N := 14) hx hb hts hiX0 tyX0 tyX0_ok nmX0 hown hK hP hD hS 0 rfl rfl 6 (by decide) (hts (.fieldLink RX0 30 "CuckooShop$Clock" "goes" "Z") (by decide +kernel)) (fun _ h9 => h9) rfl (by decide +kernel) rfl rfl (Nat.le_of_ble_eq_true rfl) dX0_wear_43 (fun H locs hP hD hS => ?_)
      have hP : va_P D vwCl (cu_wc h0 (upd (upd K 2 ((K 2) - 1)) 5 0)) H := hP
      have hD : va_D A (cu_wc h0 (upd (upd K 2 ((K 2) - 1)) 5 0)) := hD
      exact fin _ _ _ _ (by simpa only [k_wear, k_wearO, if_neg c_14, if_neg c_38, reduceIte] using hP) hS dX0_wear_46
  · refine lv_aload_n hx hb dX0_wear_17 rfl (lv_at hl 0 rfl) ?_
    refine va_get (D := D) (ci := 0) (v := .int (K 3)) (C := RX0) (T := TX0) (N := 14) hx hb hts hiX0 hown hK hP 0 rfl rfl 4 (by decide) (hts (.fieldLink RX0 24 "CuckooShop$Clock" "oil" "I") (by decide +kernel)) (fun _ h9 => h9) rfl dX0_wear_18 ?_
    refine lv_if_le (tgt := 34) hx hb dX0_wear_21 (by decide) (fun c_21 => ?_) (fun c_21 => ?_)
    · refine lv_aload_n hx hb dX0_wear_34 rfl (lv_at hl 0 rfl) ?_
      refine va_get (D := D) (ci := 0) (v := .int ((K 2) - 1)) (C := RX0) (T := TX0) (N := 14) hx hb hts hiX0 hown hK hP 0 rfl rfl 3 (by decide) (hts (.fieldLink RX0 21 "CuckooShop$Clock" "chain" "I") (by decide +kernel)) (fun _ h9 => h9) rfl dX0_wear_35 ?_
      refine lv_if_gt (tgt := 46) hx hb dX0_wear_38 (by decide) (fun c_38 => ?_) (fun c_38 => ?_)
      · exact fin _ _ _ _ (by simpa only [k_wear, k_wearO, if_pos c_14, if_pos c_21, if_pos c_38, reduceIte] using hP) hS dX0_wear_46
      · refine lv_aload_n hx hb dX0_wear_41 rfl (lv_at hl 0 rfl) ?_
        refine lv_iconst (v := 0) hx hb dX0_wear_42 (by decide) ?_
        refine va_put (D := D) (ci := 0) (v := .int 0) (ty := .boolean) (C := RX0) (T := TX0) (N := 14) hx hb hts hiX0 tyX0 tyX0_ok nmX0 hown hK hP hD hS 0 rfl rfl 6 (by decide) (hts (.fieldLink RX0 30 "CuckooShop$Clock" "goes" "Z") (by decide +kernel)) (fun _ h9 => h9) rfl (by decide +kernel) rfl rfl (Nat.le_of_ble_eq_true rfl) dX0_wear_43 (fun H locs hP hD hS => ?_)
        have hP : va_P D vwCl (cu_wc h0 (upd (upd K 2 ((K 2) - 1)) 5 0)) H := hP
        have hD : va_D A (cu_wc h0 (upd (upd K 2 ((K 2) - 1)) 5 0)) := hD
        exact fin _ _ _ _ (by simpa only [k_wear, k_wearO, if_pos c_14, if_pos c_21, if_neg c_38, reduceIte] using hP) hS dX0_wear_46
    · refine lv_aload_n hx hb dX0_wear_24 rfl (lv_at hl 0 rfl) ?_
      refine lv_dup hx hb dX0_wear_25 rfl ?_
      refine va_get (D := D) (ci := 0) (v := .int (K 3)) (C := RX0) (T := TX0) (N := 14) hx hb hts hiX0 hown hK hP 0 rfl rfl 4 (by decide) (hts (.fieldLink RX0 24 "CuckooShop$Clock" "oil" "I") (by decide +kernel)) (fun _ h9 => h9) rfl dX0_wear_26 ?_
      refine lv_iconst (v := 1) hx hb dX0_wear_29 (by decide) ?_
      refine lv_isub hx hb dX0_wear_30 ?_
      refine va_put (D := D) (ci := 0) (v := .int ((K 3) - 1)) (ty := .int) (C := RX0) (T := TX0) (N := 14) hx hb hts hiX0 tyX0 tyX0_ok nmX0 hown hK hP hD hS 0 rfl rfl 4 (by decide) (hts (.fieldLink RX0 24 "CuckooShop$Clock" "oil" "I") (by decide +kernel)) (fun _ h9 => h9) rfl (by decide +kernel) rfl rfl (Nat.le_of_ble_eq_true rfl) dX0_wear_31 (fun H locs hP hD hS => ?_)
      have hP : va_P D vwCl (cu_wc h0 (upd (upd K 2 ((K 2) - 1)) 3 ((K 3) - 1))) H := hP
      have hD : va_D A (cu_wc h0 (upd (upd K 2 ((K 2) - 1)) 3 ((K 3) - 1))) := hD
      refine lv_aload_n hx hb dX0_wear_34 rfl (lv_at hl 0 rfl) ?_
      refine va_get (D := D) (ci := 0) (v := .int ((K 2) - 1)) (C := RX0) (T := TX0) (N := 14) hx hb hts hiX0 hown hK hP 0 rfl rfl 3 (by decide) (hts (.fieldLink RX0 21 "CuckooShop$Clock" "chain" "I") (by decide +kernel)) (fun _ h9 => h9) rfl dX0_wear_35 ?_
      refine lv_if_gt (tgt := 46) hx hb dX0_wear_38 (by decide) (fun c_38 => ?_) (fun c_38 => ?_)
      · exact fin _ _ _ _ (by simpa only [k_wear, k_wearO, if_pos c_14, if_neg c_21, if_pos c_38, reduceIte] using hP) hS dX0_wear_46
      · refine lv_aload_n hx hb dX0_wear_41 rfl (lv_at hl 0 rfl) ?_
        refine lv_iconst (v := 0) hx hb dX0_wear_42 (by decide) ?_
        refine va_put (D := D) (ci := 0) (v := .int 0) (ty := .boolean) (C := RX0) (T := TX0) (N := 14) hx hb hts hiX0 tyX0 tyX0_ok nmX0 hown hK hP hD hS 0 rfl rfl 6 (by decide) (hts (.fieldLink RX0 30 "CuckooShop$Clock" "goes" "Z") (by decide +kernel)) (fun _ h9 => h9) rfl (by decide +kernel) rfl rfl (Nat.le_of_ble_eq_true rfl) dX0_wear_43 (fun H locs hP hD hS => ?_)
        have hP : va_P D vwCl (cu_wc h0 (upd (upd (upd K 2 ((K 2) - 1)) 3 ((K 3) - 1)) 5 0)) H := hP
        have hD : va_D A (cu_wc h0 (upd (upd (upd K 2 ((K 2) - 1)) 3 ((K 3) - 1)) 5 0)) := hD
        exact fin _ _ _ _ (by simpa only [k_wear, k_wearO, if_pos c_14, if_neg c_21, if_neg c_38, reduceIte] using hP) hS dX0_wear_46

set_option maxHeartbeats 4000000 in
set_option maxRecDepth 100000 in
theorem m_X0_callsDueAt (l : Launch) (D : va_G) (C : Nat → ClassId) (v1 : Int32) : cu_I l D C yX0_callsDueAt wsX0_callsDueAt { frames := 0, cells := 0, slots := 0, locals := 0 } [.int v1] ([] : va_W) ([] : va_W) (k_due v1) 0 0 := by
  refine cu_openI (cc := cX0_callsDueAt) (maxL := 1) (ty := .int) (own := RX0) (by decide) rfl rfl (Nat.le_of_ble_eq_true rfl) ?_
  intro p e s m args below meth c A Z H0 ls e0 hx hb hml hts hown hnm hG hP hD hS hA hl fin
  have hK := hG.1
  have hl : lv_has ls 1 [(0, .int v1)] := hl
  refine lv_iload_n hx hb dX0_callsDueAt_0 rfl (lv_at hl 0 rfl) ?_
  refine lv_if_ne (tgt := 7) hx hb dX0_callsDueAt_1 (by decide) (fun c_1 => ?_) (fun c_1 => ?_)
  · refine lv_iload_n hx hb dX0_callsDueAt_7 rfl (lv_at hl 0 rfl) ?_
    refine lv_bipush (v := 60) hx hb dX0_callsDueAt_8 (by decide) ?_
    refine lv_irem hx hb dX0_callsDueAt_10 (by decide) ?_
    refine lv_if_ne (tgt := 19) hx hb dX0_callsDueAt_11 (by decide) (fun c_11 => ?_) (fun c_11 => ?_)
    · refine lv_iload_n hx hb dX0_callsDueAt_19 rfl (lv_at hl 0 rfl) ?_
      refine lv_bipush (v := 30) hx hb dX0_callsDueAt_20 (by decide) ?_
      refine lv_irem hx hb dX0_callsDueAt_22 (by decide) ?_
      refine lv_if_ne (tgt := 30) hx hb dX0_callsDueAt_23 (by decide) (fun c_23 => ?_) (fun c_23 => ?_)
      · refine lv_iconst (v := 0) hx hb dX0_callsDueAt_30 (by decide) ?_
        exact fin _ _ _ _ _ rfl (by simp only [k_due, if_neg c_1, if_neg c_11, if_neg c_23, reduceIte]) hP hS dX0_callsDueAt_31
      · refine lv_iconst (v := 1) hx hb dX0_callsDueAt_26 (by decide) ?_
        refine lv_goto (tgt := 31) hx hb dX0_callsDueAt_27 (by decide) ?_
        exact fin _ _ _ _ _ rfl (by simp only [k_due, if_neg c_1, if_neg c_11, if_pos c_23, reduceIte]) hP hS dX0_callsDueAt_31
    · refine lv_iload_n hx hb dX0_callsDueAt_14 rfl (lv_at hl 0 rfl) ?_
      refine lv_bipush (v := 60) hx hb dX0_callsDueAt_15 (by decide) ?_
      refine lv_idiv hx hb dX0_callsDueAt_17 (by decide) ?_
      exact fin _ _ _ _ _ rfl (by simp only [k_due, if_neg c_1, if_pos c_11, reduceIte]) hP hS dX0_callsDueAt_18
  · refine lv_bipush (v := 12) hx hb dX0_callsDueAt_4 (by decide) ?_
    exact fin _ _ _ _ _ rfl (by simp only [k_due, if_pos c_1, reduceIte]) hP hS dX0_callsDueAt_6

set_option maxHeartbeats 4000000 in
set_option maxRecDepth 100000 in
theorem m_X0_reading (l : Launch) (D : va_G) (C : Nat → ClassId) (h0 : Nat) (K : Nat → Int32) (v1 : Int32) : cu_I l D C yX0_reading wsX0_reading { frames := 2, cells := 0, slots := 0, locals := 43 } [.ref h0, .int v1] (cu_wc h0 K) (cu_wc h0 K) (k_read K v1) 0 0 := by
  refine cu_openI (cc := cX0_reading) (maxL := 2) (ty := .int) (own := RX0) (by decide) rfl rfl (Nat.le_of_ble_eq_true rfl) ?_
  intro p e s m args below meth c A Z H0 ls e0 hx hb hml hts hown hnm hG hP hD hS hA hl fin
  have hK := hG.1
  have hl : lv_has ls 2 [(0, .ref h0), (1, .int v1)] := hl
  have hiX0 : ∀ w ∈ wsX00, w ∈ wsX0_reading := by decide +kernel
  refine lv_iload_n hx hb dX0_reading_0 rfl (lv_at hl 1 rfl) ?_
  by_cases s_0 : v1 = 0
  · subst s_0
    refine lv_tableIn (off := 55) (tgt := 56) hx hb dX0_reading_1 (by decide) (by decide) (by decide) (by decide) ?_
    refine lv_aload_n hx hb dX0_reading_56 rfl (lv_at hl 0 rfl) ?_
    refine va_get (D := D) (ci := 0) (v := .int (K 0)) (C := RX0) (T := TX0) (N := 14) hx hb hts hiX0 hown hK hP 0 rfl rfl 7 (by decide) (hts (.fieldLink RX0 34 "CuckooShop$Clock" "shown" "I") (by decide +kernel)) (fun _ h9 => h9) rfl dX0_reading_57 ?_
    exact fin _ _ _ _ _ rfl (by simp only [k_read, reduceIte]) hP hS dX0_reading_60
  by_cases s_1 : v1 = 1
  · subst s_1
    refine lv_tableIn (off := 60) (tgt := 61) hx hb dX0_reading_1 (by decide) (by decide) (by decide) (by decide) ?_
    refine lv_aload_n hx hb dX0_reading_61 rfl (lv_at hl 0 rfl) ?_
    refine va_get (D := D) (ci := 0) (v := .int (K 1)) (C := RX0) (T := TX0) (N := 14) hx hb hts hiX0 hown hK hP 0 rfl rfl 8 (by decide) (hts (.fieldLink RX0 37 "CuckooShop$Clock" "rest" "I") (by decide +kernel)) (fun _ h9 => h9) rfl dX0_reading_62 ?_
    exact fin _ _ _ _ _ rfl (by simp only [k_read, if_neg s_0, reduceIte]) hP hS dX0_reading_65
  by_cases s_2 : v1 = 2
  · subst s_2
    refine lv_tableIn (off := 65) (tgt := 66) hx hb dX0_reading_1 (by decide) (by decide) (by decide) (by decide) ?_
    refine lv_aload_n hx hb dX0_reading_66 rfl (lv_at hl 0 rfl) ?_
    refine va_get (D := D) (ci := 0) (v := .int (K 2)) (C := RX0) (T := TX0) (N := 14) hx hb hts hiX0 hown hK hP 0 rfl rfl 3 (by decide) (hts (.fieldLink RX0 21 "CuckooShop$Clock" "chain" "I") (by decide +kernel)) (fun _ h9 => h9) rfl dX0_reading_67 ?_
    exact fin _ _ _ _ _ rfl (by simp only [k_read, if_neg s_0, if_neg s_1, reduceIte]) hP hS dX0_reading_70
  by_cases s_3 : v1 = 3
  · subst s_3
    refine lv_tableIn (off := 70) (tgt := 71) hx hb dX0_reading_1 (by decide) (by decide) (by decide) (by decide) ?_
    refine lv_aload_n hx hb dX0_reading_71 rfl (lv_at hl 0 rfl) ?_
    refine va_get (D := D) (ci := 0) (v := .int (K 3)) (C := RX0) (T := TX0) (N := 14) hx hb hts hiX0 hown hK hP 0 rfl rfl 4 (by decide) (hts (.fieldLink RX0 24 "CuckooShop$Clock" "oil" "I") (by decide +kernel)) (fun _ h9 => h9) rfl dX0_reading_72 ?_
    exact fin _ _ _ _ _ rfl (by simp only [k_read, if_neg s_0, if_neg s_1, if_neg s_2, reduceIte]) hP hS dX0_reading_75
  by_cases s_4 : v1 = 4
  · subst s_4
    refine lv_tableIn (off := 75) (tgt := 76) hx hb dX0_reading_1 (by decide) (by decide) (by decide) (by decide) ?_
    refine lv_aload_n hx hb dX0_reading_76 rfl (lv_at hl 0 rfl) ?_
    refine va_get (D := D) (ci := 0) (v := .int (K 4)) (C := RX0) (T := TX0) (N := 14) hx hb hts hiX0 hown hK hP 0 rfl rfl 5 (by decide) (hts (.fieldLink RX0 27 "CuckooShop$Clock" "bellows" "I") (by decide +kernel)) (fun _ h9 => h9) rfl dX0_reading_77 ?_
    exact fin _ _ _ _ _ rfl (by simp only [k_read, if_neg s_0, if_neg s_1, if_neg s_2, if_neg s_3, reduceIte]) hP hS dX0_reading_80
  by_cases s_5 : v1 = 5
  · subst s_5
    refine lv_tableIn (off := 80) (tgt := 81) hx hb dX0_reading_1 (by decide) (by decide) (by decide) (by decide) ?_
    refine lv_aload_n hx hb dX0_reading_81 rfl (lv_at hl 0 rfl) ?_
    refine va_get (D := D) (ci := 0) (v := .int (K 5)) (C := RX0) (T := TX0) (N := 14) hx hb hts hiX0 hown hK hP 0 rfl rfl 6 (by decide) (hts (.fieldLink RX0 30 "CuckooShop$Clock" "goes" "Z") (by decide +kernel)) (fun _ h9 => h9) rfl dX0_reading_82 ?_
    refine lv_if_eq (tgt := 92) hx hb dX0_reading_85 (by decide) (fun c_85 => ?_) (fun c_85 => ?_)
    · refine lv_iconst (v := 0) hx hb dX0_reading_92 (by decide) ?_
      exact fin _ _ _ _ _ rfl (by simp only [k_read, if_neg s_0, if_neg s_1, if_neg s_2, if_neg s_3, if_neg s_4, if_pos c_85, reduceIte]) hP hS dX0_reading_93
    · refine lv_iconst (v := 1) hx hb dX0_reading_88 (by decide) ?_
      refine lv_goto (tgt := 93) hx hb dX0_reading_89 (by decide) ?_
      exact fin _ _ _ _ _ rfl (by simp only [k_read, if_neg s_0, if_neg s_1, if_neg s_2, if_neg s_3, if_neg s_4, if_neg c_85, reduceIte]) hP hS dX0_reading_93
  by_cases s_6 : v1 = 6
  · subst s_6
    refine lv_tableIn (off := 93) (tgt := 94) hx hb dX0_reading_1 (by decide) (by decide) (by decide) (by decide) ?_
    refine lv_aload_n hx hb dX0_reading_94 rfl (lv_at hl 0 rfl) ?_
    have sp := cu_sp.all (W0 := (cu_wc h0 K)) (W1 := (cu_wc h0 K)) rfl
    refine cu_callI (va_runV (As := []) (rest := []) ⟨hx, hb, hml, hown, hts⟩ ((m_X0_advance l D C h0 K) H0.size) (cwV 0 hts gX0_reading_X0_advance rfl rfl rfl (by decide +kernel) ⟨Nat.le_of_ble_eq_true rfl, Nat.le_of_ble_eq_true rfl⟩) (cu_preV (ci := 0) sp hG hP hD rfl rfl) rfl rfl hl.1 rfl (lv_room (Nat.le_of_ble_eq_true rfl)) dX0_reading_95 ⟨Nat.le_of_ble_eq_true rfl, Nat.le_of_ble_eq_true rfl⟩) sp hP hD hS hA (fun H locs hP hD hS => ?_)
    have hP : va_P D vwCl (cu_wc h0 K) H := hP
    have hD : va_D A (cu_wc h0 K) := hD
    exact fin _ _ _ _ _ rfl (by simp only [k_read, if_neg s_0, if_neg s_1, if_neg s_2, if_neg s_3, if_neg s_4, if_neg s_5, reduceIte]) hP hS dX0_reading_98
  by_cases s_7 : v1 = 7
  · subst s_7
    refine lv_tableIn (off := 98) (tgt := 99) hx hb dX0_reading_1 (by decide) (by decide) (by decide) (by decide) ?_
    refine lv_aload_n hx hb dX0_reading_99 rfl (lv_at hl 0 rfl) ?_
    refine va_get (D := D) (ci := 0) (v := .int (K 6)) (C := RX0) (T := TX0) (N := 14) hx hb hts hiX0 hown hK hP 0 rfl rfl 11 (by decide) (hts (.fieldLink RX0 46 "CuckooShop$Clock" "calls" "I") (by decide +kernel)) (fun _ h9 => h9) rfl dX0_reading_100 ?_
    exact fin _ _ _ _ _ rfl (by simp only [k_read, if_neg s_0, if_neg s_1, if_neg s_2, if_neg s_3, if_neg s_4, if_neg s_5, if_neg s_6, reduceIte]) hP hS dX0_reading_103
  by_cases s_8 : v1 = 8
  · subst s_8
    refine lv_tableIn (off := 103) (tgt := 104) hx hb dX0_reading_1 (by decide) (by decide) (by decide) (by decide) ?_
    refine lv_aload_n hx hb dX0_reading_104 rfl (lv_at hl 0 rfl) ?_
    refine va_get (D := D) (ci := 0) (v := .int (K 7)) (C := RX0) (T := TX0) (N := 14) hx hb hts hiX0 hown hK hP 0 rfl rfl 12 (by decide) (hts (.fieldLink RX0 49 "CuckooShop$Clock" "missed" "I") (by decide +kernel)) (fun _ h9 => h9) rfl dX0_reading_105 ?_
    exact fin _ _ _ _ _ rfl (by simp only [k_read, if_neg s_0, if_neg s_1, if_neg s_2, if_neg s_3, if_neg s_4, if_neg s_5, if_neg s_6, if_neg s_7, reduceIte]) hP hS dX0_reading_108
  by_cases s_9 : v1 = 9
  · subst s_9
    refine lv_tableIn (off := 108) (tgt := 109) hx hb dX0_reading_1 (by decide) (by decide) (by decide) (by decide) ?_
    refine lv_aload_n hx hb dX0_reading_109 rfl (lv_at hl 0 rfl) ?_
    refine va_get (D := D) (ci := 0) (v := .int (K 8)) (C := RX0) (T := TX0) (N := 14) hx hb hts hiX0 hown hK hP 0 rfl rfl 13 (by decide) (hts (.fieldLink RX0 52 "CuckooShop$Clock" "latestCalls" "I") (by decide +kernel)) (fun _ h9 => h9) rfl dX0_reading_110 ?_
    exact fin _ _ _ _ _ rfl (by simp only [k_read, if_neg s_0, if_neg s_1, if_neg s_2, if_neg s_3, if_neg s_4, if_neg s_5, if_neg s_6, if_neg s_7, if_neg s_8, reduceIte]) hP hS dX0_reading_113
  refine lv_tableOut (tgt := 114) hx hb dX0_reading_1 (by have q_0 := cu_ne s_0 0 (by decide); have q_1 := cu_ne s_1 1 (by decide); have q_2 := cu_ne s_2 2 (by decide); have q_3 := cu_ne s_3 3 (by decide); have q_4 := cu_ne s_4 4 (by decide); have q_5 := cu_ne s_5 5 (by decide); have q_6 := cu_ne s_6 6 (by decide); have q_7 := cu_ne s_7 7 (by decide); have q_8 := cu_ne s_8 8 (by decide); have q_9 := cu_ne s_9 9 (by decide); omega) (by decide) ?_
  refine lv_aload_n hx hb dX0_reading_114 rfl (lv_at hl 0 rfl) ?_
  refine lv_aload_n hx hb dX0_reading_115 rfl (lv_at hl 0 rfl) ?_
  refine va_get (D := D) (ci := 0) (v := .int (K 0)) (C := RX0) (T := TX0) (N := 14) hx hb hts hiX0 hown hK hP 0 rfl rfl 7 (by decide) (hts (.fieldLink RX0 34 "CuckooShop$Clock" "shown" "I") (by decide +kernel)) (fun _ h9 => h9) rfl dX0_reading_116 ?_
  have sp := cu_sp.all (W0 := (cu_wc h0 K)) (W1 := (cu_wc h0 K)) rfl
  refine cu_callI (va_runV (As := [.int (K 0)]) (rest := []) ⟨hx, hb, hml, hown, hts⟩ ((m_X0_isShutAt l D C h0 K (K 0)) H0.size) (cwV 1 hts gX0_reading_X0_isShutAt rfl rfl rfl (by decide +kernel) ⟨Nat.le_of_ble_eq_true rfl, Nat.le_of_ble_eq_true rfl⟩) (cu_preV (ci := 0) sp hG hP hD rfl rfl) rfl rfl hl.1 rfl (lv_room (Nat.le_of_ble_eq_true rfl)) dX0_reading_119 ⟨Nat.le_of_ble_eq_true rfl, Nat.le_of_ble_eq_true rfl⟩) sp hP hD hS hA (fun H locs hP hD hS => ?_)
  have hP : va_P D vwCl (cu_wc h0 K) H := hP
  have hD : va_D A (cu_wc h0 K) := hD
  refine lv_if_eq (tgt := 129) hx hb dX0_reading_122 (by decide) (fun c_122 => ?_) (fun c_122 => ?_)
  · refine lv_iconst (v := 0) hx hb dX0_reading_129 (by decide) ?_
    exact fin _ _ _ _ _ rfl (by simp only [k_read, if_neg s_0, if_neg s_1, if_neg s_2, if_neg s_3, if_neg s_4, if_neg s_5, if_neg s_6, if_neg s_7, if_neg s_8, if_neg s_9, if_pos c_122, reduceIte]) hP hS dX0_reading_130
  · refine lv_iconst (v := 1) hx hb dX0_reading_125 (by decide) ?_
    refine lv_goto (tgt := 130) hx hb dX0_reading_126 (by decide) ?_
    exact fin _ _ _ _ _ rfl (by simp only [k_read, if_neg s_0, if_neg s_1, if_neg s_2, if_neg s_3, if_neg s_4, if_neg s_5, if_neg s_6, if_neg s_7, if_neg s_8, if_neg s_9, if_neg c_122, reduceIte]) hP hS dX0_reading_130
end
section
set_option maxHeartbeats 4000000 in
set_option maxRecDepth 100000 in
theorem m_X0_turn (l : Launch) (D : va_G) (C : Nat → ClassId) (h0 : Nat) (K : Nat → Int32) : cu_V l D C yX0_turn wsX0_turn { frames := 2, cells := 0, slots := 0, locals := 43 } [.ref h0] (cu_wc h0 K) (cu_wc h0 (k_turn K)) 0 0 := by
  refine cu_openV (cc := cX0_turn) (maxL := 3) (own := RX0) (by decide) rfl rfl (Nat.le_of_ble_eq_true rfl) ?_
  intro p e s m args below meth c A Z H0 ls e0 hx hb hml hts hown hnm hG hP hD hS hA hl fin
  have hK := hG.1
  have hl : lv_has ls 3 [(0, .ref h0)] := hl
  have hiX0 : ∀ w ∈ wsX00, w ∈ wsX0_turn := by decide +kernel
  refine lv_aload_n hx hb dX0_turn_0 rfl (lv_at hl 0 rfl) ?_
  refine va_get (D := D) (ci := 0) (v := .int (K 1)) (C := RX0) (T := TX0) (N := 14) hx hb hts hiX0 hown hK hP 0 rfl rfl 8 (by decide) (hts (.fieldLink RX0 37 "CuckooShop$Clock" "rest" "I") (by decide +kernel)) (fun _ h9 => h9) rfl dX0_turn_1 ?_
  refine lv_aload_n hx hb dX0_turn_4 rfl (lv_at hl 0 rfl) ?_
  have sp := cu_sp.all (W0 := (cu_wc h0 K)) (W1 := (cu_wc h0 K)) rfl
  refine cu_callI (va_runV (As := []) (rest := [.int (K 1)]) ⟨hx, hb, hml, hown, hts⟩ ((m_X0_advance l D C h0 K) H0.size) (cwV 0 hts gX0_turn_X0_advance rfl rfl rfl (by decide +kernel) ⟨Nat.le_of_ble_eq_true rfl, Nat.le_of_ble_eq_true rfl⟩) (cu_preV (ci := 0) sp hG hP hD rfl rfl) rfl rfl hl.1 rfl (lv_room (Nat.le_of_ble_eq_true rfl)) dX0_turn_5 ⟨Nat.le_of_ble_eq_true rfl, Nat.le_of_ble_eq_true rfl⟩) sp hP hD hS hA (fun H locs hP hD hS => ?_)
  have hP : va_P D vwCl (cu_wc h0 K) H := hP
  have hD : va_D A (cu_wc h0 K) := hD
  refine lv_iadd hx hb dX0_turn_8 ?_
  refine lv_istore_n (lv' := [(1, .int ((K 1) + (k_adv K))), (0, .ref h0)]) hx hb dX0_turn_9 rfl hl (by decide) rfl (fun ls hl => ?_)
  refine lv_aload_n hx hb dX0_turn_10 rfl (lv_at hl 1 rfl) ?_
  refine lv_iload_n hx hb dX0_turn_11 rfl (lv_at hl 0 rfl) ?_
  refine lv_sipush (v := 900) hx hb dX0_turn_12 (by decide) ?_
  refine lv_irem hx hb dX0_turn_15 (by decide) ?_
  refine va_put (D := D) (ci := 0) (v := .int (((K 1) + (k_adv K)) - ((K 1) + (k_adv K)) / 900 * 900)) (ty := .int) (C := RX0) (T := TX0) (N := 14) hx hb hts hiX0 tyX0 tyX0_ok nmX0 hown hK hP hD hS 0 rfl rfl 8 (by decide) (hts (.fieldLink RX0 37 "CuckooShop$Clock" "rest" "I") (by decide +kernel)) (fun _ h9 => h9) rfl (by decide +kernel) rfl rfl (Nat.le_of_ble_eq_true rfl) dX0_turn_16 (fun H locs hP hD hS => ?_)
  have hP : va_P D vwCl (cu_wc h0 (upd K 1 (((K 1) + (k_adv K)) - ((K 1) + (k_adv K)) / 900 * 900))) H := hP
  have hD : va_D A (cu_wc h0 (upd K 1 (((K 1) + (k_adv K)) - ((K 1) + (k_adv K)) / 900 * 900))) := hD
  refine lv_iload_n hx hb dX0_turn_19 rfl (lv_at hl 0 rfl) ?_
  refine lv_sipush (v := 900) hx hb dX0_turn_20 (by decide) ?_
  refine lv_idiv hx hb dX0_turn_23 (by decide) ?_
  refine lv_istore_n (lv' := [(2, .int (((K 1) + (k_adv K)) / 900)), (1, .int ((K 1) + (k_adv K))), (0, .ref h0)]) hx hb dX0_turn_24 rfl hl (by decide) rfl (fun ls hl => ?_)
  have loop : ∀ (j : Nat), ∀ (Kc : Nat → Int32) (lf : Int32), lf.toInt.toNat = j → k_ticks j Kc = k_turn K → ∀ (H : Heap) (locs : List Loc) (ls : Array Slot), va_P D vwCl (cu_wc h0 Kc) H → va_D A (cu_wc h0 Kc) → va_S A H0 H locs → lv_has ls 3 [(0, .ref h0), (1, .int ((K 1) + (k_adv K))), (2, .int lf)] → W p l e { frames := 2, cells := 0, slots := 0, locals := 43 } s m args below meth c H locs 0 0 Z (F0 m 25 ls []) := by
    intro j
    induction j with
    | zero =>
      intro Kc lf hj hf H locs ls hP hD hS hl
      refine lv_iload_n hx hb dX0_turn_25 rfl (lv_at hl 2 rfl) ?_
      refine lv_if_le (tgt := 71) hx hb dX0_turn_26 (by decide) (fun c_26 => ?_) (fun c_26 => absurd (cu_dn0 hj) c_26)
      exact fin _ _ _ _ (by rw [← hf]; exact hP) hS dX0_turn_71
    | succ j ih =>
      intro Kc lf hj hf H locs ls hP hD hS hl
      refine lv_iload_n hx hb dX0_turn_25 rfl (lv_at hl 2 rfl) ?_
      refine lv_if_le (tgt := 71) hx hb dX0_turn_26 (by decide) (fun c_26 => absurd c_26 (cu_dn1 hj)) (fun c_26 => ?_)
      refine lv_aload_n hx hb dX0_turn_29 rfl (lv_at hl 0 rfl) ?_
      refine lv_aload_n hx hb dX0_turn_30 rfl (lv_at hl 0 rfl) ?_
      refine va_get (D := D) (ci := 0) (v := .int (Kc 0)) (C := RX0) (T := TX0) (N := 14) hx hb hts hiX0 hown hK hP 0 rfl rfl 7 (by decide) (hts (.fieldLink RX0 34 "CuckooShop$Clock" "shown" "I") (by decide +kernel)) (fun _ h9 => h9) rfl dX0_turn_31 ?_
      refine lv_iconst (v := 1) hx hb dX0_turn_34 (by decide) ?_
      refine lv_iadd hx hb dX0_turn_35 ?_
      refine lv_sipush (v := 720) hx hb dX0_turn_36 (by decide) ?_
      refine lv_irem hx hb dX0_turn_39 (by decide) ?_
      refine va_put (D := D) (ci := 0) (v := .int (((Kc 0) + 1) - ((Kc 0) + 1) / 720 * 720)) (ty := .int) (C := RX0) (T := TX0) (N := 14) hx hb hts hiX0 tyX0 tyX0_ok nmX0 hown hK hP hD hS 0 rfl rfl 7 (by decide) (hts (.fieldLink RX0 34 "CuckooShop$Clock" "shown" "I") (by decide +kernel)) (fun _ h9 => h9) rfl (by decide +kernel) rfl rfl (Nat.le_of_ble_eq_true rfl) dX0_turn_40 (fun H locs hP hD hS => ?_)
      have hP : va_P D vwCl (cu_wc h0 (upd Kc 0 (((Kc 0) + 1) - ((Kc 0) + 1) / 720 * 720))) H := hP
      have hD : va_D A (cu_wc h0 (upd Kc 0 (((Kc 0) + 1) - ((Kc 0) + 1) / 720 * 720))) := hD
      refine lv_aload_n hx hb dX0_turn_43 rfl (lv_at hl 0 rfl) ?_
      refine lv_aload_n hx hb dX0_turn_44 rfl (lv_at hl 0 rfl) ?_
      refine va_get (D := D) (ci := 0) (v := .int (((Kc 0) + 1) - ((Kc 0) + 1) / 720 * 720)) (C := RX0) (T := TX0) (N := 14) hx hb hts hiX0 hown hK hP 0 rfl rfl 7 (by decide) (hts (.fieldLink RX0 34 "CuckooShop$Clock" "shown" "I") (by decide +kernel)) (fun _ h9 => h9) rfl dX0_turn_45 ?_
      have sp := cu_sp.all (W0 := (cu_wc h0 (upd Kc 0 (((Kc 0) + 1) - ((Kc 0) + 1) / 720 * 720)))) (W1 := (cu_wc h0 (upd Kc 0 (((Kc 0) + 1) - ((Kc 0) + 1) / 720 * 720)))) rfl
      refine cu_callI (va_runV (As := [.int (((Kc 0) + 1) - ((Kc 0) + 1) / 720 * 720)]) (rest := []) ⟨hx, hb, hml, hown, hts⟩ ((m_X0_isShutAt l D C h0 (upd Kc 0 (((Kc 0) + 1) - ((Kc 0) + 1) / 720 * 720)) (((Kc 0) + 1) - ((Kc 0) + 1) / 720 * 720)) H.size) (cwV 1 hts gX0_turn_X0_isShutAt rfl rfl rfl (by decide +kernel) ⟨Nat.le_of_ble_eq_true rfl, Nat.le_of_ble_eq_true rfl⟩) (cu_preV (ci := 0) sp hG hP hD rfl rfl) rfl rfl hl.1 rfl (lv_room (Nat.le_of_ble_eq_true rfl)) dX0_turn_48 ⟨Nat.le_of_ble_eq_true rfl, Nat.le_of_ble_eq_true rfl⟩) sp hP hD hS hA (fun H locs hP hD hS => ?_)
      have hP : va_P D vwCl (cu_wc h0 (upd Kc 0 (((Kc 0) + 1) - ((Kc 0) + 1) / 720 * 720))) H := hP
      have hD : va_D A (cu_wc h0 (upd Kc 0 (((Kc 0) + 1) - ((Kc 0) + 1) / 720 * 720))) := hD
      refine lv_if_ne (tgt := 65) hx hb dX0_turn_51 (by decide) (fun c_51 => ?_) (fun c_51 => ?_)
      · refine lv_iinc (v := (lf + (-1))) (lv' := [(2, .int (lf + (-1))), (0, .ref h0), (1, .int ((K 1) + (k_adv K)))]) hx hb dX0_turn_65 hl (k := 2) rfl rfl (by decide) rfl (fun ls hl => ?_)
        refine lv_goto (tgt := 25) hx hb dX0_turn_68 (by decide) ?_
        exact ih _ _ (cu_dn hj) (by rw [← hf]; simp only [k_ticks]; congr 1; simp only [k_tick]; exact (if_neg c_51).symm) _ _ _ hP hD hS (lv_sub hl [1, 2, 0] rfl)
      · refine lv_aload_n hx hb dX0_turn_54 rfl (lv_at hl 0 rfl) ?_
        refine lv_aload_n hx hb dX0_turn_55 rfl (lv_at hl 0 rfl) ?_
        refine va_get (D := D) (ci := 0) (v := .int (((Kc 0) + 1) - ((Kc 0) + 1) / 720 * 720)) (C := RX0) (T := TX0) (N := 14) hx hb hts hiX0 hown hK hP 0 rfl rfl 7 (by decide) (hts (.fieldLink RX0 34 "CuckooShop$Clock" "shown" "I") (by decide +kernel)) (fun _ h9 => h9) rfl dX0_turn_56 ?_
        have sp := cu_sp.nil (W0 := (cu_wc h0 (upd Kc 0 (((Kc 0) + 1) - ((Kc 0) + 1) / 720 * 720))))
        refine cu_callI (va_runS (As := [.int (((Kc 0) + 1) - ((Kc 0) + 1) / 720 * 720)]) (rest := [.ref h0]) ⟨hx, hb, hml, hown, hts⟩ ((m_X0_callsDueAt l D C (((Kc 0) + 1) - ((Kc 0) + 1) / 720 * 720)) H.size) (va_cwS 1 hts gX0_turn_X0_callsDueAt rfl rfl rfl (by decide +kernel) ⟨Nat.le_of_ble_eq_true rfl, Nat.le_of_ble_eq_true rfl⟩) (cu_preS sp hG hP hD) rfl rfl hl.1 rfl (lv_room (Nat.le_of_ble_eq_true rfl)) dX0_turn_59 ⟨Nat.le_of_ble_eq_true rfl, Nat.le_of_ble_eq_true rfl⟩) sp hP hD hS hA (fun H locs hP hD hS => ?_)
        have sp := cu_sp.all (W0 := (cu_wc h0 (upd Kc 0 (((Kc 0) + 1) - ((Kc 0) + 1) / 720 * 720)))) (W1 := (cu_wc h0 (k_cuckoo (upd Kc 0 (((Kc 0) + 1) - ((Kc 0) + 1) / 720 * 720)) (k_due (((Kc 0) + 1) - ((Kc 0) + 1) / 720 * 720))))) rfl
        refine cu_callV (va_runV (As := [.int (k_due (((Kc 0) + 1) - ((Kc 0) + 1) / 720 * 720))]) (rest := []) ⟨hx, hb, hml, hown, hts⟩ ((m_X0_cuckoo l D C h0 (upd Kc 0 (((Kc 0) + 1) - ((Kc 0) + 1) / 720 * 720)) (k_due (((Kc 0) + 1) - ((Kc 0) + 1) / 720 * 720))) H.size) (cwV 1 hts gX0_turn_X0_cuckoo rfl rfl rfl (by decide +kernel) ⟨Nat.le_of_ble_eq_true rfl, Nat.le_of_ble_eq_true rfl⟩) (cu_preV (ci := 0) sp hG hP hD rfl rfl) rfl rfl hl.1 rfl (lv_room (Nat.le_of_ble_eq_true rfl)) dX0_turn_62 ⟨Nat.le_of_ble_eq_true rfl, Nat.le_of_ble_eq_true rfl⟩) sp hP hD hS hA (fun H locs hP hD hS => ?_)
        have hP : va_P D vwCl (cu_wc h0 (k_cuckoo (upd Kc 0 (((Kc 0) + 1) - ((Kc 0) + 1) / 720 * 720)) (k_due (((Kc 0) + 1) - ((Kc 0) + 1) / 720 * 720)))) H := hP
        have hD : va_D A (cu_wc h0 (k_cuckoo (upd Kc 0 (((Kc 0) + 1) - ((Kc 0) + 1) / 720 * 720)) (k_due (((Kc 0) + 1) - ((Kc 0) + 1) / 720 * 720)))) := hD
        refine lv_iinc (v := (lf + (-1))) (lv' := [(2, .int (lf + (-1))), (0, .ref h0), (1, .int ((K 1) + (k_adv K)))]) hx hb dX0_turn_65 hl (k := 2) rfl rfl (by decide) rfl (fun ls hl => ?_)
        refine lv_goto (tgt := 25) hx hb dX0_turn_68 (by decide) ?_
        exact ih _ _ (cu_dn hj) (by rw [← hf]; simp only [k_ticks]; congr 1; simp only [k_tick]; exact (if_pos c_51).symm) _ _ _ hP hD hS (lv_sub hl [1, 2, 0] rfl)
  exact loop _ _ _ rfl rfl _ _ _ hP hD hS (lv_sub hl [2, 1, 0] rfl)

set_option maxHeartbeats 4000000 in
set_option maxRecDepth 100000 in
theorem m_X0_runMinute (l : Launch) (D : va_G) (C : Nat → ClassId) (h0 : Nat) (K : Nat → Int32) (v1 : Int32) : cu_V l D C yX0_runMinute wsX0_runMinute { frames := 3, cells := 0, slots := 0, locals := 65 } [.ref h0, .int v1] (cu_wc h0 K) (cu_wc h0 (k_min v1 K)) 0 0 := by
  refine cu_openV (cc := cX0_runMinute) (maxL := 2) (own := RX0) (by decide) rfl rfl (Nat.le_of_ble_eq_true rfl) ?_
  intro p e s m args below meth c A Z H0 ls e0 hx hb hml hts hown hnm hG hP hD hS hA hl fin
  have hK := hG.1
  have hl : lv_has ls 2 [(0, .ref h0), (1, .int v1)] := hl
  have hiX0 : ∀ w ∈ wsX00, w ∈ wsX0_runMinute := by decide +kernel
  refine lv_aload_n hx hb dX0_runMinute_0 rfl (lv_at hl 0 rfl) ?_
  refine lv_iconst (v := 0) hx hb dX0_runMinute_1 (by decide) ?_
  refine va_put (D := D) (ci := 0) (v := .int 0) (ty := .int) (C := RX0) (T := TX0) (N := 14) hx hb hts hiX0 tyX0 tyX0_ok nmX0 hown hK hP hD hS 0 rfl rfl 13 (by decide) (hts (.fieldLink RX0 52 "CuckooShop$Clock" "latestCalls" "I") (by decide +kernel)) (fun _ h9 => h9) rfl (by decide +kernel) rfl rfl (Nat.le_of_ble_eq_true rfl) dX0_runMinute_2 (fun H locs hP hD hS => ?_)
  have hP : va_P D vwCl (cu_wc h0 (upd K 8 0)) H := hP
  have hD : va_D A (cu_wc h0 (upd K 8 0)) := hD
  refine lv_aload_n hx hb dX0_runMinute_5 rfl (lv_at hl 0 rfl) ?_
  refine va_get (D := D) (ci := 0) (v := .int (K 5)) (C := RX0) (T := TX0) (N := 14) hx hb hts hiX0 hown hK hP 0 rfl rfl 6 (by decide) (hts (.fieldLink RX0 30 "CuckooShop$Clock" "goes" "Z") (by decide +kernel)) (fun _ h9 => h9) rfl dX0_runMinute_6 ?_
  refine lv_if_eq (tgt := 21) hx hb dX0_runMinute_9 (by decide) (fun c_9 => ?_) (fun c_9 => ?_)
  · exact fin _ _ _ _ (by simpa only [k_min, if_pos c_9, reduceIte] using hP) hS dX0_runMinute_21
  · refine lv_aload_n hx hb dX0_runMinute_12 rfl (lv_at hl 0 rfl) ?_
    have sp := cu_sp.all (W0 := (cu_wc h0 (upd K 8 0))) (W1 := (cu_wc h0 (k_turn (upd K 8 0)))) rfl
    refine cu_callV (va_runV (As := []) (rest := []) ⟨hx, hb, hml, hown, hts⟩ ((m_X0_turn l D C h0 (upd K 8 0)) H.size) (cwV 0 hts gX0_runMinute_X0_turn rfl rfl rfl (by decide +kernel) ⟨Nat.le_of_ble_eq_true rfl, Nat.le_of_ble_eq_true rfl⟩) (cu_preV (ci := 0) sp hG hP hD rfl rfl) rfl rfl hl.1 rfl (lv_room (Nat.le_of_ble_eq_true rfl)) dX0_runMinute_13 ⟨Nat.le_of_ble_eq_true rfl, Nat.le_of_ble_eq_true rfl⟩) sp hP hD hS hA (fun H locs hP hD hS => ?_)
    have hP : va_P D vwCl (cu_wc h0 (k_turn (upd K 8 0))) H := hP
    have hD : va_D A (cu_wc h0 (k_turn (upd K 8 0))) := hD
    refine lv_aload_n hx hb dX0_runMinute_16 rfl (lv_at hl 0 rfl) ?_
    refine lv_iload_n hx hb dX0_runMinute_17 rfl (lv_at hl 1 rfl) ?_
    have sp := cu_sp.all (W0 := (cu_wc h0 (k_turn (upd K 8 0)))) (W1 := (cu_wc h0 (k_wear v1 (k_turn (upd K 8 0))))) rfl
    refine cu_callV (va_runV (As := [.int v1]) (rest := []) ⟨hx, hb, hml, hown, hts⟩ ((m_X0_wear l D C h0 (k_turn (upd K 8 0)) v1) H.size) (cwV 1 hts gX0_runMinute_X0_wear rfl rfl rfl (by decide +kernel) ⟨Nat.le_of_ble_eq_true rfl, Nat.le_of_ble_eq_true rfl⟩) (cu_preV (ci := 0) sp hG hP hD rfl rfl) rfl rfl hl.1 rfl (lv_room (Nat.le_of_ble_eq_true rfl)) dX0_runMinute_18 ⟨Nat.le_of_ble_eq_true rfl, Nat.le_of_ble_eq_true rfl⟩) sp hP hD hS hA (fun H locs hP hD hS => ?_)
    have hP : va_P D vwCl (cu_wc h0 (k_wear v1 (k_turn (upd K 8 0)))) H := hP
    have hD : va_D A (cu_wc h0 (k_wear v1 (k_turn (upd K 8 0)))) := hD
    exact fin _ _ _ _ (by simpa only [k_min, if_neg c_9, reduceIte] using hP) hS dX0_runMinute_21

set_option maxHeartbeats 4000000 in
set_option maxRecDepth 100000 in
theorem m_X0_minit (l : Launch) (D : va_G) (C : Nat → ClassId) (h0 : Nat) (K : Nat → Int32) : cu_V l D C yX0_init wsX0_init { frames := 1, cells := 0, slots := 0, locals := 12 } [.ref h0] (cu_wc h0 K) (cu_wc h0 (k_new K)) 0 0 := by
  refine cu_openV (cc := cX0_init) (maxL := 1) (own := RX0) (by decide) rfl rfl (Nat.le_of_ble_eq_true rfl) ?_
  intro p e s m args below meth c A Z H0 ls e0 hx hb hml hts hown hnm hG hP hD hS hA hl fin
  have hK := hG.1
  have hl : lv_has ls 1 [(0, .ref h0)] := hl
  have hiX0 : ∀ w ∈ wsX00, w ∈ wsX0_init := by decide +kernel
  refine lv_aload_n hx hb dX0_init_0 rfl (lv_at hl 0 rfl) ?_
  refine W.objInit hx hb hown (hts (.methodLink RX0 3 objectInit) (by decide +kernel)) (hts (.instanceMethod objectInit) (by decide +kernel)) (hts (.code objectInit ⟨#[0xb1]⟩ 1 none) (by decide +kernel)) rfl (by rw [hml]; exact hl.1) rfl dX0_init_1 (Nat.le_of_ble_eq_true rfl) (Nat.le_of_ble_eq_true rfl) ?_
  refine W.eq (g2 := F0 m 4 ls []) rfl ?_
  refine lv_aload_n hx hb dX0_init_4 rfl (lv_at hl 0 rfl) ?_
  refine lv_bipush (v := 30) hx hb dX0_init_5 (by decide) ?_
  refine va_put (D := D) (ci := 0) (v := .int 30) (ty := .int) (C := RX0) (T := TX0) (N := 14) hx hb hts hiX0 tyX0 tyX0_ok nmX0 hown hK hP hD hS 0 rfl rfl 0 (by decide) (hts (.fieldLink RX0 9 "CuckooShop$Clock" "gearA" "I") (by decide +kernel)) (fun _ h9 => h9) rfl (by decide +kernel) rfl rfl (Nat.le_of_ble_eq_true rfl) dX0_init_7 (fun H locs hP hD hS => ?_)
  have hP : va_P D vwCl (cu_wc h0 (upd K 9 30)) H := hP
  have hD : va_D A (cu_wc h0 (upd K 9 30)) := hD
  refine lv_aload_n hx hb dX0_init_10 rfl (lv_at hl 0 rfl) ?_
  refine lv_bipush (v := 30) hx hb dX0_init_11 (by decide) ?_
  refine va_put (D := D) (ci := 0) (v := .int 30) (ty := .int) (C := RX0) (T := TX0) (N := 14) hx hb hts hiX0 tyX0 tyX0_ok nmX0 hown hK hP hD hS 0 rfl rfl 1 (by decide) (hts (.fieldLink RX0 15 "CuckooShop$Clock" "gearB" "I") (by decide +kernel)) (fun _ h9 => h9) rfl (by decide +kernel) rfl rfl (Nat.le_of_ble_eq_true rfl) dX0_init_13 (fun H locs hP hD hS => ?_)
  have hP : va_P D vwCl (cu_wc h0 (upd (upd K 9 30) 10 30)) H := hP
  have hD : va_D A (cu_wc h0 (upd (upd K 9 30) 10 30)) := hD
  refine lv_aload_n hx hb dX0_init_16 rfl (lv_at hl 0 rfl) ?_
  refine lv_iconst (v := 0) hx hb dX0_init_17 (by decide) ?_
  refine va_put (D := D) (ci := 0) (v := .int 0) (ty := .int) (C := RX0) (T := TX0) (N := 14) hx hb hts hiX0 tyX0 tyX0_ok nmX0 hown hK hP hD hS 0 rfl rfl 2 (by decide) (hts (.fieldLink RX0 18 "CuckooShop$Clock" "swing" "I") (by decide +kernel)) (fun _ h9 => h9) rfl (by decide +kernel) rfl rfl (Nat.le_of_ble_eq_true rfl) dX0_init_18 (fun H locs hP hD hS => ?_)
  have hP : va_P D vwCl (cu_wc h0 (upd (upd (upd K 9 30) 10 30) 11 0)) H := hP
  have hD : va_D A (cu_wc h0 (upd (upd (upd K 9 30) 10 30) 11 0)) := hD
  refine lv_aload_n hx hb dX0_init_21 rfl (lv_at hl 0 rfl) ?_
  refine lv_sipush (v := 600) hx hb dX0_init_22 (by decide) ?_
  refine va_put (D := D) (ci := 0) (v := .int 600) (ty := .int) (C := RX0) (T := TX0) (N := 14) hx hb hts hiX0 tyX0 tyX0_ok nmX0 hown hK hP hD hS 0 rfl rfl 3 (by decide) (hts (.fieldLink RX0 21 "CuckooShop$Clock" "chain" "I") (by decide +kernel)) (fun _ h9 => h9) rfl (by decide +kernel) rfl rfl (Nat.le_of_ble_eq_true rfl) dX0_init_25 (fun H locs hP hD hS => ?_)
  have hP : va_P D vwCl (cu_wc h0 (upd (upd (upd (upd K 9 30) 10 30) 11 0) 2 600)) H := hP
  have hD : va_D A (cu_wc h0 (upd (upd (upd (upd K 9 30) 10 30) 11 0) 2 600)) := hD
  refine lv_aload_n hx hb dX0_init_28 rfl (lv_at hl 0 rfl) ?_
  refine lv_bipush (v := 100) hx hb dX0_init_29 (by decide) ?_
  refine va_put (D := D) (ci := 0) (v := .int 100) (ty := .int) (C := RX0) (T := TX0) (N := 14) hx hb hts hiX0 tyX0 tyX0_ok nmX0 hown hK hP hD hS 0 rfl rfl 4 (by decide) (hts (.fieldLink RX0 24 "CuckooShop$Clock" "oil" "I") (by decide +kernel)) (fun _ h9 => h9) rfl (by decide +kernel) rfl rfl (Nat.le_of_ble_eq_true rfl) dX0_init_31 (fun H locs hP hD hS => ?_)
  have hP : va_P D vwCl (cu_wc h0 (upd (upd (upd (upd (upd K 9 30) 10 30) 11 0) 2 600) 3 100)) H := hP
  have hD : va_D A (cu_wc h0 (upd (upd (upd (upd (upd K 9 30) 10 30) 11 0) 2 600) 3 100)) := hD
  refine lv_aload_n hx hb dX0_init_34 rfl (lv_at hl 0 rfl) ?_
  refine lv_bipush (v := 60) hx hb dX0_init_35 (by decide) ?_
  refine va_put (D := D) (ci := 0) (v := .int 60) (ty := .int) (C := RX0) (T := TX0) (N := 14) hx hb hts hiX0 tyX0 tyX0_ok nmX0 hown hK hP hD hS 0 rfl rfl 5 (by decide) (hts (.fieldLink RX0 27 "CuckooShop$Clock" "bellows" "I") (by decide +kernel)) (fun _ h9 => h9) rfl (by decide +kernel) rfl rfl (Nat.le_of_ble_eq_true rfl) dX0_init_37 (fun H locs hP hD hS => ?_)
  have hP : va_P D vwCl (cu_wc h0 (upd (upd (upd (upd (upd (upd K 9 30) 10 30) 11 0) 2 600) 3 100) 4 60)) H := hP
  have hD : va_D A (cu_wc h0 (upd (upd (upd (upd (upd (upd K 9 30) 10 30) 11 0) 2 600) 3 100) 4 60)) := hD
  refine lv_aload_n hx hb dX0_init_40 rfl (lv_at hl 0 rfl) ?_
  refine lv_iconst (v := 1) hx hb dX0_init_41 (by decide) ?_
  refine va_put (D := D) (ci := 0) (v := .int 1) (ty := .boolean) (C := RX0) (T := TX0) (N := 14) hx hb hts hiX0 tyX0 tyX0_ok nmX0 hown hK hP hD hS 0 rfl rfl 6 (by decide) (hts (.fieldLink RX0 30 "CuckooShop$Clock" "goes" "Z") (by decide +kernel)) (fun _ h9 => h9) rfl (by decide +kernel) rfl rfl (Nat.le_of_ble_eq_true rfl) dX0_init_42 (fun H locs hP hD hS => ?_)
  have hP : va_P D vwCl (cu_wc h0 (upd (upd (upd (upd (upd (upd (upd K 9 30) 10 30) 11 0) 2 600) 3 100) 4 60) 5 1)) H := hP
  have hD : va_D A (cu_wc h0 (upd (upd (upd (upd (upd (upd (upd K 9 30) 10 30) 11 0) 2 600) 3 100) 4 60) 5 1)) := hD
  refine lv_aload_n hx hb dX0_init_45 rfl (lv_at hl 0 rfl) ?_
  refine lv_iconst (v := 0) hx hb dX0_init_46 (by decide) ?_
  refine va_put (D := D) (ci := 0) (v := .int 0) (ty := .int) (C := RX0) (T := TX0) (N := 14) hx hb hts hiX0 tyX0 tyX0_ok nmX0 hown hK hP hD hS 0 rfl rfl 7 (by decide) (hts (.fieldLink RX0 34 "CuckooShop$Clock" "shown" "I") (by decide +kernel)) (fun _ h9 => h9) rfl (by decide +kernel) rfl rfl (Nat.le_of_ble_eq_true rfl) dX0_init_47 (fun H locs hP hD hS => ?_)
  have hP : va_P D vwCl (cu_wc h0 (upd (upd (upd (upd (upd (upd (upd (upd K 9 30) 10 30) 11 0) 2 600) 3 100) 4 60) 5 1) 0 0)) H := hP
  have hD : va_D A (cu_wc h0 (upd (upd (upd (upd (upd (upd (upd (upd K 9 30) 10 30) 11 0) 2 600) 3 100) 4 60) 5 1) 0 0)) := hD
  refine lv_aload_n hx hb dX0_init_50 rfl (lv_at hl 0 rfl) ?_
  refine lv_iconst (v := 0) hx hb dX0_init_51 (by decide) ?_
  refine va_put (D := D) (ci := 0) (v := .int 0) (ty := .int) (C := RX0) (T := TX0) (N := 14) hx hb hts hiX0 tyX0 tyX0_ok nmX0 hown hK hP hD hS 0 rfl rfl 8 (by decide) (hts (.fieldLink RX0 37 "CuckooShop$Clock" "rest" "I") (by decide +kernel)) (fun _ h9 => h9) rfl (by decide +kernel) rfl rfl (Nat.le_of_ble_eq_true rfl) dX0_init_52 (fun H locs hP hD hS => ?_)
  have hP : va_P D vwCl (cu_wc h0 (upd (upd (upd (upd (upd (upd (upd (upd (upd K 9 30) 10 30) 11 0) 2 600) 3 100) 4 60) 5 1) 0 0) 1 0)) H := hP
  have hD : va_D A (cu_wc h0 (upd (upd (upd (upd (upd (upd (upd (upd (upd K 9 30) 10 30) 11 0) 2 600) 3 100) 4 60) 5 1) 0 0) 1 0)) := hD
  refine lv_aload_n hx hb dX0_init_55 rfl (lv_at hl 0 rfl) ?_
  refine lv_iconst (v := -1) hx hb dX0_init_56 (by decide) ?_
  refine va_put (D := D) (ci := 0) (v := .int (-1)) (ty := .int) (C := RX0) (T := TX0) (N := 14) hx hb hts hiX0 tyX0 tyX0_ok nmX0 hown hK hP hD hS 0 rfl rfl 9 (by decide) (hts (.fieldLink RX0 40 "CuckooShop$Clock" "shutFrom" "I") (by decide +kernel)) (fun _ h9 => h9) rfl (by decide +kernel) rfl rfl (Nat.le_of_ble_eq_true rfl) dX0_init_57 (fun H locs hP hD hS => ?_)
  have hP : va_P D vwCl (cu_wc h0 (upd (upd (upd (upd (upd (upd (upd (upd (upd (upd K 9 30) 10 30) 11 0) 2 600) 3 100) 4 60) 5 1) 0 0) 1 0) 12 (-1))) H := hP
  have hD : va_D A (cu_wc h0 (upd (upd (upd (upd (upd (upd (upd (upd (upd (upd K 9 30) 10 30) 11 0) 2 600) 3 100) 4 60) 5 1) 0 0) 1 0) 12 (-1))) := hD
  refine lv_aload_n hx hb dX0_init_60 rfl (lv_at hl 0 rfl) ?_
  refine lv_iconst (v := 0) hx hb dX0_init_61 (by decide) ?_
  refine va_put (D := D) (ci := 0) (v := .int 0) (ty := .int) (C := RX0) (T := TX0) (N := 14) hx hb hts hiX0 tyX0 tyX0_ok nmX0 hown hK hP hD hS 0 rfl rfl 10 (by decide) (hts (.fieldLink RX0 43 "CuckooShop$Clock" "shutTill" "I") (by decide +kernel)) (fun _ h9 => h9) rfl (by decide +kernel) rfl rfl (Nat.le_of_ble_eq_true rfl) dX0_init_62 (fun H locs hP hD hS => ?_)
  have hP : va_P D vwCl (cu_wc h0 (upd (upd (upd (upd (upd (upd (upd (upd (upd (upd (upd K 9 30) 10 30) 11 0) 2 600) 3 100) 4 60) 5 1) 0 0) 1 0) 12 (-1)) 13 0)) H := hP
  have hD : va_D A (cu_wc h0 (upd (upd (upd (upd (upd (upd (upd (upd (upd (upd (upd K 9 30) 10 30) 11 0) 2 600) 3 100) 4 60) 5 1) 0 0) 1 0) 12 (-1)) 13 0)) := hD
  refine lv_aload_n hx hb dX0_init_65 rfl (lv_at hl 0 rfl) ?_
  refine lv_iconst (v := 0) hx hb dX0_init_66 (by decide) ?_
  refine va_put (D := D) (ci := 0) (v := .int 0) (ty := .int) (C := RX0) (T := TX0) (N := 14) hx hb hts hiX0 tyX0 tyX0_ok nmX0 hown hK hP hD hS 0 rfl rfl 11 (by decide) (hts (.fieldLink RX0 46 "CuckooShop$Clock" "calls" "I") (by decide +kernel)) (fun _ h9 => h9) rfl (by decide +kernel) rfl rfl (Nat.le_of_ble_eq_true rfl) dX0_init_67 (fun H locs hP hD hS => ?_)
  have hP : va_P D vwCl (cu_wc h0 (upd (upd (upd (upd (upd (upd (upd (upd (upd (upd (upd (upd K 9 30) 10 30) 11 0) 2 600) 3 100) 4 60) 5 1) 0 0) 1 0) 12 (-1)) 13 0) 6 0)) H := hP
  have hD : va_D A (cu_wc h0 (upd (upd (upd (upd (upd (upd (upd (upd (upd (upd (upd (upd K 9 30) 10 30) 11 0) 2 600) 3 100) 4 60) 5 1) 0 0) 1 0) 12 (-1)) 13 0) 6 0)) := hD
  refine lv_aload_n hx hb dX0_init_70 rfl (lv_at hl 0 rfl) ?_
  refine lv_iconst (v := 0) hx hb dX0_init_71 (by decide) ?_
  refine va_put (D := D) (ci := 0) (v := .int 0) (ty := .int) (C := RX0) (T := TX0) (N := 14) hx hb hts hiX0 tyX0 tyX0_ok nmX0 hown hK hP hD hS 0 rfl rfl 12 (by decide) (hts (.fieldLink RX0 49 "CuckooShop$Clock" "missed" "I") (by decide +kernel)) (fun _ h9 => h9) rfl (by decide +kernel) rfl rfl (Nat.le_of_ble_eq_true rfl) dX0_init_72 (fun H locs hP hD hS => ?_)
  have hP : va_P D vwCl (cu_wc h0 (upd (upd (upd (upd (upd (upd (upd (upd (upd (upd (upd (upd (upd K 9 30) 10 30) 11 0) 2 600) 3 100) 4 60) 5 1) 0 0) 1 0) 12 (-1)) 13 0) 6 0) 7 0)) H := hP
  have hD : va_D A (cu_wc h0 (upd (upd (upd (upd (upd (upd (upd (upd (upd (upd (upd (upd (upd K 9 30) 10 30) 11 0) 2 600) 3 100) 4 60) 5 1) 0 0) 1 0) 12 (-1)) 13 0) 6 0) 7 0)) := hD
  refine lv_aload_n hx hb dX0_init_75 rfl (lv_at hl 0 rfl) ?_
  refine lv_iconst (v := 0) hx hb dX0_init_76 (by decide) ?_
  refine va_put (D := D) (ci := 0) (v := .int 0) (ty := .int) (C := RX0) (T := TX0) (N := 14) hx hb hts hiX0 tyX0 tyX0_ok nmX0 hown hK hP hD hS 0 rfl rfl 13 (by decide) (hts (.fieldLink RX0 52 "CuckooShop$Clock" "latestCalls" "I") (by decide +kernel)) (fun _ h9 => h9) rfl (by decide +kernel) rfl rfl (Nat.le_of_ble_eq_true rfl) dX0_init_77 (fun H locs hP hD hS => ?_)
  have hP : va_P D vwCl (cu_wc h0 (upd (upd (upd (upd (upd (upd (upd (upd (upd (upd (upd (upd (upd (upd K 9 30) 10 30) 11 0) 2 600) 3 100) 4 60) 5 1) 0 0) 1 0) 12 (-1)) 13 0) 6 0) 7 0) 8 0)) H := hP
  have hD : va_D A (cu_wc h0 (upd (upd (upd (upd (upd (upd (upd (upd (upd (upd (upd (upd (upd (upd K 9 30) 10 30) 11 0) 2 600) 3 100) 4 60) 5 1) 0 0) 1 0) 12 (-1)) 13 0) 6 0) 7 0) 8 0)) := hD
  exact fin _ _ _ _ hP hS dX0_init_80
end
section
set_option maxHeartbeats 4000000 in
set_option maxRecDepth 100000 in
theorem m_X0_mixInto (l : Launch) (D : va_G) (C : Nat → ClassId) (h0 : Nat) (K : Nat → Int32) (v1 : Int64) : cu_L l D C yX0_mixInto wsX0_mixInto { frames := 3, cells := 0, slots := 0, locals := 64 } [.ref h0, .long v1] (cu_wc h0 K) (cu_wc h0 K) (k_mix K v1) 0 0 := by
  refine cu_openL (cc := cX0_mixInto) (maxL := 6) (own := RX0) (by decide) rfl rfl (Nat.le_of_ble_eq_true rfl) ?_
  intro p e s m args below meth c A Z H0 ls e0 hx hb hml hts hown hnm hG hP hD hS hA hl fin
  have hK := hG.1
  have hl : lv_has ls 6 [(0, .ref h0), (1, .long v1)] := hl
  have hiX0 : ∀ w ∈ wsX00, w ∈ wsX0_mixInto := by decide +kernel
  refine lv_lload_n hx hb dX0_mixInto_0 rfl (lv_at hl 1 rfl) ?_
  refine lv_lstore_n (lv' := [(3, .long v1), (0, .ref h0), (1, .long v1)]) hx hb dX0_mixInto_1 rfl hl (by decide) rfl (fun ls hl => ?_)
  refine lv_lload_n hx hb dX0_mixInto_2 rfl (lv_at hl 0 rfl) ?_
  refine lv_ldc2 (v := 31) hx hb hown (hts (.constantLong RX0 90 (31)) (by decide +kernel)) dX0_mixInto_3 ?_
  refine lv_lmul hx hb dX0_mixInto_6 ?_
  refine lv_aload_n hx hb dX0_mixInto_7 rfl (lv_at hl 1 rfl) ?_
  refine va_get (D := D) (ci := 0) (v := .int (K 9)) (C := RX0) (T := TX0) (N := 14) hx hb hts hiX0 hown hK hP 0 rfl rfl 0 (by decide) (hts (.fieldLink RX0 9 "CuckooShop$Clock" "gearA" "I") (by decide +kernel)) (fun _ h9 => h9) rfl dX0_mixInto_8 ?_
  refine lv_i2l (v := (K 9).toInt64) hx hb dX0_mixInto_11 rfl ?_
  refine lv_ladd hx hb dX0_mixInto_12 ?_
  refine lv_lstore_n (lv' := [(3, .long ((v1 * 31) + (K 9).toInt64)), (0, .ref h0), (1, .long v1)]) hx hb dX0_mixInto_13 rfl hl (by decide) rfl (fun ls hl => ?_)
  refine lv_lload_n hx hb dX0_mixInto_14 rfl (lv_at hl 0 rfl) ?_
  refine lv_ldc2 (v := 31) hx hb hown (hts (.constantLong RX0 90 (31)) (by decide +kernel)) dX0_mixInto_15 ?_
  refine lv_lmul hx hb dX0_mixInto_18 ?_
  refine lv_aload_n hx hb dX0_mixInto_19 rfl (lv_at hl 1 rfl) ?_
  refine va_get (D := D) (ci := 0) (v := .int (K 10)) (C := RX0) (T := TX0) (N := 14) hx hb hts hiX0 hown hK hP 0 rfl rfl 1 (by decide) (hts (.fieldLink RX0 15 "CuckooShop$Clock" "gearB" "I") (by decide +kernel)) (fun _ h9 => h9) rfl dX0_mixInto_20 ?_
  refine lv_i2l (v := (K 10).toInt64) hx hb dX0_mixInto_23 rfl ?_
  refine lv_ladd hx hb dX0_mixInto_24 ?_
  refine lv_lstore_n (lv' := [(3, .long ((((v1 * 31) + (K 9).toInt64) * 31) + (K 10).toInt64)), (0, .ref h0), (1, .long v1)]) hx hb dX0_mixInto_25 rfl hl (by decide) rfl (fun ls hl => ?_)
  refine lv_lload_n hx hb dX0_mixInto_26 rfl (lv_at hl 0 rfl) ?_
  refine lv_ldc2 (v := 31) hx hb hown (hts (.constantLong RX0 90 (31)) (by decide +kernel)) dX0_mixInto_27 ?_
  refine lv_lmul hx hb dX0_mixInto_30 ?_
  refine lv_aload_n hx hb dX0_mixInto_31 rfl (lv_at hl 1 rfl) ?_
  refine va_get (D := D) (ci := 0) (v := .int (K 11)) (C := RX0) (T := TX0) (N := 14) hx hb hts hiX0 hown hK hP 0 rfl rfl 2 (by decide) (hts (.fieldLink RX0 18 "CuckooShop$Clock" "swing" "I") (by decide +kernel)) (fun _ h9 => h9) rfl dX0_mixInto_32 ?_
  refine lv_i2l (v := (K 11).toInt64) hx hb dX0_mixInto_35 rfl ?_
  refine lv_ladd hx hb dX0_mixInto_36 ?_
  refine lv_lstore_n (lv' := [(3, .long ((((((v1 * 31) + (K 9).toInt64) * 31) + (K 10).toInt64) * 31) + (K 11).toInt64)), (0, .ref h0), (1, .long v1)]) hx hb dX0_mixInto_37 rfl hl (by decide) rfl (fun ls hl => ?_)
  refine lv_lload_n hx hb dX0_mixInto_38 rfl (lv_at hl 0 rfl) ?_
  refine lv_ldc2 (v := 31) hx hb hown (hts (.constantLong RX0 90 (31)) (by decide +kernel)) dX0_mixInto_39 ?_
  refine lv_lmul hx hb dX0_mixInto_42 ?_
  refine lv_aload_n hx hb dX0_mixInto_43 rfl (lv_at hl 1 rfl) ?_
  refine va_get (D := D) (ci := 0) (v := .int (K 12)) (C := RX0) (T := TX0) (N := 14) hx hb hts hiX0 hown hK hP 0 rfl rfl 9 (by decide) (hts (.fieldLink RX0 40 "CuckooShop$Clock" "shutFrom" "I") (by decide +kernel)) (fun _ h9 => h9) rfl dX0_mixInto_44 ?_
  refine lv_i2l (v := (K 12).toInt64) hx hb dX0_mixInto_47 rfl ?_
  refine lv_ladd hx hb dX0_mixInto_48 ?_
  refine lv_lstore_n (lv' := [(3, .long ((((((((v1 * 31) + (K 9).toInt64) * 31) + (K 10).toInt64) * 31) + (K 11).toInt64) * 31) + (K 12).toInt64)), (0, .ref h0), (1, .long v1)]) hx hb dX0_mixInto_49 rfl hl (by decide) rfl (fun ls hl => ?_)
  refine lv_lload_n hx hb dX0_mixInto_50 rfl (lv_at hl 0 rfl) ?_
  refine lv_ldc2 (v := 31) hx hb hown (hts (.constantLong RX0 90 (31)) (by decide +kernel)) dX0_mixInto_51 ?_
  refine lv_lmul hx hb dX0_mixInto_54 ?_
  refine lv_aload_n hx hb dX0_mixInto_55 rfl (lv_at hl 1 rfl) ?_
  refine va_get (D := D) (ci := 0) (v := .int (K 13)) (C := RX0) (T := TX0) (N := 14) hx hb hts hiX0 hown hK hP 0 rfl rfl 10 (by decide) (hts (.fieldLink RX0 43 "CuckooShop$Clock" "shutTill" "I") (by decide +kernel)) (fun _ h9 => h9) rfl dX0_mixInto_56 ?_
  refine lv_i2l (v := (K 13).toInt64) hx hb dX0_mixInto_59 rfl ?_
  refine lv_ladd hx hb dX0_mixInto_60 ?_
  refine lv_lstore_n (lv' := [(3, .long ((((((((((v1 * 31) + (K 9).toInt64) * 31) + (K 10).toInt64) * 31) + (K 11).toInt64) * 31) + (K 12).toInt64) * 31) + (K 13).toInt64)), (0, .ref h0), (1, .long v1)]) hx hb dX0_mixInto_61 rfl hl (by decide) rfl (fun ls hl => ?_)
  refine lv_iconst (v := 0) hx hb dX0_mixInto_62 (by decide) ?_
  refine lv_istore (lv' := [(5, .int 0), (3, .long ((((((((((v1 * 31) + (K 9).toInt64) * 31) + (K 10).toInt64) * 31) + (K 11).toInt64) * 31) + (K 12).toInt64) * 31) + (K 13).toInt64)), (0, .ref h0), (1, .long v1)]) hx hb dX0_mixInto_63 hl (by decide) rfl (fun ls hl => ?_)
  have loop : ∀ (j : Nat), ∀ (i : Nat) (dd : Int64), i + j = 11 → k_mixR K j i dd = k_mix K v1 → ∀ (H : Heap) (locs : List Loc) (ls : Array Slot), va_P D vwCl (cu_wc h0 K) H → va_D A (cu_wc h0 K) → va_S A H0 H locs → lv_has ls 6 [(0, .ref h0), (5, .int (nI i)), (3, .long dd)] → W p l e { frames := 3, cells := 0, slots := 0, locals := 64 } s m args below meth c H locs 0 0 Z (F0 m 65 ls []) := by
    intro j
    induction j with
    | zero =>
      intro i dd hj hf H locs ls hP hD hS hl
      refine lv_iload hx hb dX0_mixInto_65 (lv_at hl 1 rfl) ?_
      refine lv_bipush (v := 11) hx hb dX0_mixInto_67 (by decide) ?_
      refine lv_icmp_ge (tgt := 92) hx hb dX0_mixInto_69 (by decide) (fun c_69 => ?_) (fun c_69 => absurd (nI_le (a := 11) (by omega) (by omega)) c_69)
      refine lv_lload_n hx hb dX0_mixInto_92 rfl (lv_at hl 2 rfl) ?_
      exact fin _ _ _ _ _ (by exact hf) hP hS dX0_mixInto_93
    | succ j ih =>
      intro i dd hj hf H locs ls hP hD hS hl
      refine lv_iload hx hb dX0_mixInto_65 (lv_at hl 1 rfl) ?_
      refine lv_bipush (v := 11) hx hb dX0_mixInto_67 (by decide) ?_
      refine lv_icmp_ge (tgt := 92) hx hb dX0_mixInto_69 (by decide) (fun c_69 => absurd c_69 (nI_ge (b := 11) (by omega) (by decide))) (fun c_69 => ?_)
      refine lv_lload_n hx hb dX0_mixInto_72 rfl (lv_at hl 2 rfl) ?_
      refine lv_ldc2 (v := 31) hx hb hown (hts (.constantLong RX0 90 (31)) (by decide +kernel)) dX0_mixInto_73 ?_
      refine lv_lmul hx hb dX0_mixInto_76 ?_
      refine lv_aload_n hx hb dX0_mixInto_77 rfl (lv_at hl 0 rfl) ?_
      refine lv_iload hx hb dX0_mixInto_78 (lv_at hl 1 rfl) ?_
      have sp := cu_sp.all (W0 := (cu_wc h0 K)) (W1 := (cu_wc h0 K)) rfl
      refine cu_callI (va_runV (As := [.int (nI i)]) (rest := [.long (dd * 31)]) ⟨hx, hb, hml, hown, hts⟩ ((m_X0_reading l D C h0 K (nI i)) H.size) (cwV 1 hts gX0_mixInto_X0_reading rfl rfl rfl (by decide +kernel) ⟨Nat.le_of_ble_eq_true rfl, Nat.le_of_ble_eq_true rfl⟩) (cu_preV (ci := 0) sp hG hP hD rfl rfl) rfl rfl hl.1 rfl (lv_room (Nat.le_of_ble_eq_true rfl)) dX0_mixInto_80 ⟨Nat.le_of_ble_eq_true rfl, Nat.le_of_ble_eq_true rfl⟩) sp hP hD hS hA (fun H locs hP hD hS => ?_)
      have hP : va_P D vwCl (cu_wc h0 K) H := hP
      have hD : va_D A (cu_wc h0 K) := hD
      refine lv_i2l (v := (k_read K (nI i)).toInt64) hx hb dX0_mixInto_83 rfl ?_
      refine lv_ladd hx hb dX0_mixInto_84 ?_
      refine lv_lstore_n (lv' := [(3, .long ((dd * 31) + (k_read K (nI i)).toInt64)), (0, .ref h0), (5, .int (nI i))]) hx hb dX0_mixInto_85 rfl hl (by decide) rfl (fun ls hl => ?_)
      refine lv_iinc (v := (nI (i + 1))) (lv' := [(5, .int (nI (i + 1))), (3, .long ((dd * 31) + (k_read K (nI i)).toInt64)), (0, .ref h0)]) hx hb dX0_mixInto_86 hl (k := 2) rfl (nI_1 i) (by decide) rfl (fun ls hl => ?_)
      refine lv_goto (tgt := 65) hx hb dX0_mixInto_89 (by decide) ?_
      exact ih (i + 1) _ (by omega) (by rw [← hf]; rfl) _ _ _ hP hD hS (lv_sub hl [2, 0, 1] rfl)
  exact loop _ _ _ rfl rfl _ _ _ hP hD hS (lv_sub hl [2, 0, 1] rfl)

set_option maxHeartbeats 4000000 in
set_option maxRecDepth 100000 in
theorem m_X0_truestGears (l : Launch) (D : va_G) (C : Nat → ClassId) (h0 : Nat) (K : Nat → Int32) : cu_I l D C yX0_truestGears wsX0_truestGears { frames := 1, cells := 0, slots := 0, locals := 23 } [.ref h0] (cu_wc h0 K) (cu_wc h0 K) (k_true K) 0 0 := by
  refine cu_openI (cc := cX0_truestGears) (maxL := 6) (ty := .int) (own := RX0) (by decide) rfl rfl (Nat.le_of_ble_eq_true rfl) ?_
  intro p e s m args below meth c A Z H0 ls e0 hx hb hml hts hown hnm hG hP hD hS hA hl fin
  have hK := hG.1
  have hl : lv_has ls 6 [(0, .ref h0)] := hl
  refine lv_iconst (v := 0) hx hb dX0_truestGears_0 (by decide) ?_
  refine lv_istore_n (lv' := [(1, .int 0), (0, .ref h0)]) hx hb dX0_truestGears_1 rfl hl (by decide) rfl (fun ls hl => ?_)
  refine lv_ldc (v := 1000000) hx hb hown (hts (.constant RX0 59 (1000000)) (by decide +kernel)) dX0_truestGears_2 ?_
  refine lv_istore_n (lv' := [(2, .int 1000000), (1, .int 0), (0, .ref h0)]) hx hb dX0_truestGears_4 rfl hl (by decide) rfl (fun ls hl => ?_)
  refine lv_bipush (v := 20) hx hb dX0_truestGears_5 (by decide) ?_
  refine lv_istore_n (lv' := [(3, .int 20), (2, .int 1000000), (1, .int 0), (0, .ref h0)]) hx hb dX0_truestGears_7 rfl hl (by decide) rfl (fun ls hl => ?_)
  have loop : ∀ (j : Nat), ∀ (i : Nat) (u : Int32 × Int32), i + j = 41 → k_bestA K j i u = k_bestA K 21 20 (0, 1000000) → ∀ (H : Heap) (locs : List Loc) (ls : Array Slot), va_P D vwCl (cu_wc h0 K) H → va_D A (cu_wc h0 K) → va_S A H0 H locs → lv_has ls 6 [(0, .ref h0), (1, .int u.1), (2, .int u.2), (3, .int (nI i))] → W p l e { frames := 1, cells := 0, slots := 0, locals := 23 } s m args below meth c H locs 0 0 Z (F0 m 8 ls []) := by
    intro j
    induction j with
    | zero =>
      intro i u hj hf H locs ls hP hD hS hl
      refine lv_iload_n hx hb dX0_truestGears_8 rfl (lv_at hl 3 rfl) ?_
      refine lv_bipush (v := 40) hx hb dX0_truestGears_9 (by decide) ?_
      refine lv_icmp_gt (tgt := 70) hx hb dX0_truestGears_11 (by decide) (fun c_11 => ?_) (fun c_11 => absurd (nI_lt (a := 40) (by omega) (by omega)) c_11)
      refine lv_iload_n hx hb dX0_truestGears_70 rfl (lv_at hl 1 rfl) ?_
      exact fin _ _ _ _ _ rfl (by exact congrArg Prod.fst hf) hP hS dX0_truestGears_71
    | succ j ih =>
      intro i u hj hf H locs ls hP hD hS hl
      refine lv_iload_n hx hb dX0_truestGears_8 rfl (lv_at hl 3 rfl) ?_
      refine lv_bipush (v := 40) hx hb dX0_truestGears_9 (by decide) ?_
      refine lv_icmp_gt (tgt := 70) hx hb dX0_truestGears_11 (by decide) (fun c_11 => absurd c_11 (nI_nlt (a := 40) (by omega) (by decide))) (fun c_11 => ?_)
      refine lv_bipush (v := 20) hx hb dX0_truestGears_14 (by decide) ?_
      refine lv_istore (lv' := [(4, .int 20), (0, .ref h0), (1, .int u.1), (2, .int u.2), (3, .int (nI i))]) hx hb dX0_truestGears_16 hl (by decide) rfl (fun ls hl => ?_)
      have loop2 : ∀ (k : Nat), ∀ (b : Nat) (ww : Int32 × Int32), b + k = 41 → k_bestB K (nI i) k b ww = k_bestB K (nI i) 21 20 u → ∀ (H : Heap) (locs : List Loc) (ls : Array Slot), va_P D vwCl (cu_wc h0 K) H → va_D A (cu_wc h0 K) → va_S A H0 H locs → lv_has ls 6 [(0, .ref h0), (1, .int ww.1), (2, .int ww.2), (3, .int (nI i)), (4, .int (nI b))] → W p l e { frames := 1, cells := 0, slots := 0, locals := 23 } s m args below meth c H locs 0 0 Z (F0 m 18 ls []) := by
        intro k
        induction k with
        | zero =>
          intro b ww hb2 hg H locs ls hP hD hS hl
          refine lv_iload hx hb dX0_truestGears_18 (lv_at hl 4 rfl) ?_
          refine lv_bipush (v := 40) hx hb dX0_truestGears_20 (by decide) ?_
          refine lv_icmp_gt (tgt := 64) hx hb dX0_truestGears_22 (by decide) (fun c_22 => ?_) (fun c_22 => absurd (nI_lt (a := 40) (by omega) (by omega)) c_22)
          refine lv_iinc (v := (nI (i + 1))) (lv' := [(3, .int (nI (i + 1))), (0, .ref h0), (1, .int ww.1), (2, .int ww.2), (4, .int (nI b))]) hx hb dX0_truestGears_64 hl (k := 3) rfl (nI_1 i) (by decide) rfl (fun ls hl => ?_)
          refine lv_goto (tgt := 8) hx hb dX0_truestGears_67 (by decide) ?_
          exact ih (i + 1) ww (by omega) (by have e : ww = k_bestB K (nI i) 21 20 u := hg; rw [← hf, e]; rfl) _ _ _ hP hD hS (lv_sub hl [1, 2, 3, 0] rfl)
        | succ k ih =>
          intro b ww hb2 hg H locs ls hP hD hS hl
          refine lv_iload hx hb dX0_truestGears_18 (lv_at hl 4 rfl) ?_
          refine lv_bipush (v := 40) hx hb dX0_truestGears_20 (by decide) ?_
          refine lv_icmp_gt (tgt := 64) hx hb dX0_truestGears_22 (by decide) (fun c_22 => absurd c_22 (nI_nlt (a := 40) (by omega) (by decide))) (fun c_22 => ?_)
          refine lv_aload_n hx hb dX0_truestGears_25 rfl (lv_at hl 0 rfl) ?_
          refine lv_iload_n hx hb dX0_truestGears_26 rfl (lv_at hl 3 rfl) ?_
          refine lv_iload hx hb dX0_truestGears_27 (lv_at hl 4 rfl) ?_
          have sp := cu_sp.all (W0 := (cu_wc h0 K)) (W1 := (cu_wc h0 K)) rfl
          refine cu_callI (va_runV (As := [.int (nI i), .int (nI b)]) (rest := []) ⟨hx, hb, hml, hown, hts⟩ ((m_X0_advanceWith l D C h0 K (nI i) (nI b)) H.size) (cwV 2 hts gX0_truestGears_X0_advanceWith rfl rfl rfl (by decide +kernel) ⟨Nat.le_of_ble_eq_true rfl, Nat.le_of_ble_eq_true rfl⟩) (cu_preV (ci := 0) sp hG hP hD rfl rfl) rfl rfl hl.1 rfl (lv_room (Nat.le_of_ble_eq_true rfl)) dX0_truestGears_29 ⟨Nat.le_of_ble_eq_true rfl, Nat.le_of_ble_eq_true rfl⟩) sp hP hD hS hA (fun H locs hP hD hS => ?_)
          have hP : va_P D vwCl (cu_wc h0 K) H := hP
          have hD : va_D A (cu_wc h0 K) := hD
          refine lv_sipush (v := 900) hx hb dX0_truestGears_32 (by decide) ?_
          refine lv_isub hx hb dX0_truestGears_35 ?_
          refine va_mabs hx hb (hml.trans hl.1.symm) hown (hts (.methodLink RX0 60 Lib.Math.abs.name) (by decide +kernel)) (hts (.static Lib.Math.abs.name) (by decide +kernel)) (hts (.initialized "java/lang/Math") (by decide +kernel)) (hts (.code Lib.Math.abs.name Lib.Math.abs.code 1 (some .int)) (by decide +kernel)) (Nat.le_of_ble_eq_true rfl) (Nat.le_of_ble_eq_true rfl) (Nat.zero_le _) (Nat.zero_le _) dX0_truestGears_36 ?_
          refine lv_istore (lv' := [(5, .int (if 0 ≤ ((k_advW K (nI i) (nI b)) - 900) then ((k_advW K (nI i) (nI b)) - 900) else 0 - ((k_advW K (nI i) (nI b)) - 900))), (0, .ref h0), (1, .int ww.1), (2, .int ww.2), (3, .int (nI i)), (4, .int (nI b))]) hx hb dX0_truestGears_39 hl (by decide) rfl (fun ls hl => ?_)
          refine lv_iload hx hb dX0_truestGears_41 (lv_at hl 0 rfl) ?_
          refine lv_iload_n hx hb dX0_truestGears_43 rfl (lv_at hl 3 rfl) ?_
          refine lv_icmp_ge (tgt := 58) hx hb dX0_truestGears_44 (by decide) (fun c_44 => ?_) (fun c_44 => ?_)
          · refine lv_iinc (v := (nI (b + 1))) (lv' := [(4, .int (nI (b + 1))), (5, .int (if 0 ≤ ((k_advW K (nI i) (nI b)) - 900) then ((k_advW K (nI i) (nI b)) - 900) else 0 - ((k_advW K (nI i) (nI b)) - 900))), (0, .ref h0), (1, .int ww.1), (2, .int ww.2), (3, .int (nI i))]) hx hb dX0_truestGears_58 hl (k := 5) rfl (nI_1 b) (by decide) rfl (fun ls hl => ?_)
            refine lv_goto (tgt := 18) hx hb dX0_truestGears_61 (by decide) ?_
            exact ih (b + 1) ww (by omega) (by rw [← hg]; show _ = k_bestB K (nI i) k (b + 1) (k_best1 K (nI i) (nI b) ww); congr 1; exact (if_pos c_44).symm) _ _ _ hP hD hS (lv_sub hl [2, 3, 4, 5, 0] rfl)
          · refine lv_iload hx hb dX0_truestGears_47 (lv_at hl 0 rfl) ?_
            refine lv_istore_n (lv' := [(2, .int (if 0 ≤ ((k_advW K (nI i) (nI b)) - 900) then ((k_advW K (nI i) (nI b)) - 900) else 0 - ((k_advW K (nI i) (nI b)) - 900))), (5, .int (if 0 ≤ ((k_advW K (nI i) (nI b)) - 900) then ((k_advW K (nI i) (nI b)) - 900) else 0 - ((k_advW K (nI i) (nI b)) - 900))), (0, .ref h0), (1, .int ww.1), (3, .int (nI i)), (4, .int (nI b))]) hx hb dX0_truestGears_49 rfl hl (by decide) rfl (fun ls hl => ?_)
            refine lv_bipush (v := 100) hx hb dX0_truestGears_50 (by decide) ?_
            refine lv_iload_n hx hb dX0_truestGears_52 rfl (lv_at hl 4 rfl) ?_
            refine lv_imul hx hb dX0_truestGears_53 ?_
            refine lv_iload hx hb dX0_truestGears_54 (lv_at hl 5 rfl) ?_
            refine lv_iadd hx hb dX0_truestGears_56 ?_
            refine lv_istore_n (lv' := [(1, .int ((100 * nI i) + nI b)), (2, .int (if 0 ≤ ((k_advW K (nI i) (nI b)) - 900) then ((k_advW K (nI i) (nI b)) - 900) else 0 - ((k_advW K (nI i) (nI b)) - 900))), (5, .int (if 0 ≤ ((k_advW K (nI i) (nI b)) - 900) then ((k_advW K (nI i) (nI b)) - 900) else 0 - ((k_advW K (nI i) (nI b)) - 900))), (0, .ref h0), (3, .int (nI i)), (4, .int (nI b))]) hx hb dX0_truestGears_57 rfl hl (by decide) rfl (fun ls hl => ?_)
            refine lv_iinc (v := (nI (b + 1))) (lv' := [(4, .int (nI (b + 1))), (1, .int ((100 * nI i) + nI b)), (2, .int (if 0 ≤ ((k_advW K (nI i) (nI b)) - 900) then ((k_advW K (nI i) (nI b)) - 900) else 0 - ((k_advW K (nI i) (nI b)) - 900))), (5, .int (if 0 ≤ ((k_advW K (nI i) (nI b)) - 900) then ((k_advW K (nI i) (nI b)) - 900) else 0 - ((k_advW K (nI i) (nI b)) - 900))), (0, .ref h0), (3, .int (nI i))]) hx hb dX0_truestGears_58 hl (k := 5) rfl (nI_1 b) (by decide) rfl (fun ls hl => ?_)
            refine lv_goto (tgt := 18) hx hb dX0_truestGears_61 (by decide) ?_
            exact ih (b + 1) (((100 * nI i) + nI b), (if 0 ≤ ((k_advW K (nI i) (nI b)) - 900) then ((k_advW K (nI i) (nI b)) - 900) else 0 - ((k_advW K (nI i) (nI b)) - 900))) (by omega) (by rw [← hg]; show _ = k_bestB K (nI i) k (b + 1) (k_best1 K (nI i) (nI b) ww); congr 1; exact (if_neg c_44).symm) _ _ _ hP hD hS (lv_sub hl [4, 1, 2, 5, 0] rfl)
      exact loop2 _ 20 u rfl rfl _ _ _ hP hD hS (lv_sub hl [1, 2, 3, 4, 0] rfl)
  exact loop _ 20 (0, 1000000) rfl rfl _ _ _ hP hD hS (lv_sub hl [3, 2, 1, 0] rfl)

set_option maxHeartbeats 4000000 in
set_option maxRecDepth 100000 in
theorem m_X0_copyFrom (l : Launch) (D : va_G) (C : Nat → ClassId) (h0 : Nat) (K : Nat → Int32) (h1 : Nat) (J : Nat → Int32) (hJ : J 5 = 0 ∨ J 5 = 1) : cu_V l D C yX0_copyFrom wsX0_copyFrom { frames := 0, cells := 0, slots := 0, locals := 0 } [.ref h0, .ref h1] [(h0, .inr (0, cu_ck K)), (h1, .inr (0, cu_ck J))] [(h0, .inr (0, cu_ck J)), (h1, .inr (0, cu_ck J))] 0 0 := by
  refine cu_openV (cc := cX0_copyFrom) (maxL := 2) (own := RX0) (by decide) rfl rfl (Nat.le_of_ble_eq_true rfl) ?_
  intro p e s m args below meth c A Z H0 ls e0 hx hb hml hts hown hnm hG hP hD hS hA hl fin
  have hK := hG.1
  have hl : lv_has ls 2 [(0, .ref h0), (1, .ref h1)] := hl
  have hiX0 : ∀ w ∈ wsX00, w ∈ wsX0_copyFrom := by decide +kernel
  refine lv_aload_n hx hb dX0_copyFrom_0 rfl (lv_at hl 0 rfl) ?_
  refine lv_aload_n hx hb dX0_copyFrom_1 rfl (lv_at hl 1 rfl) ?_
  refine va_get (D := D) (ci := 0) (v := .int (J 9)) (C := RX0) (T := TX0) (N := 14) hx hb hts hiX0 hown hK hP 1 rfl rfl 0 (by decide) (hts (.fieldLink RX0 9 "CuckooShop$Clock" "gearA" "I") (by decide +kernel)) (fun _ h9 => h9) rfl dX0_copyFrom_2 ?_
  refine va_put (D := D) (ci := 0) (v := .int (J 9)) (ty := .int) (C := RX0) (T := TX0) (N := 14) hx hb hts hiX0 tyX0 tyX0_ok nmX0 hown hK hP hD hS 0 rfl rfl 0 (by decide) (hts (.fieldLink RX0 9 "CuckooShop$Clock" "gearA" "I") (by decide +kernel)) (fun _ h9 => h9) rfl (by decide +kernel) rfl rfl (Nat.le_of_ble_eq_true rfl) dX0_copyFrom_5 (fun H locs hP hD hS => ?_)
  have hP : va_P D vwCl [(h0, .inr (0, cu_ck (upd K 9 (J 9)))), (h1, .inr (0, cu_ck J))] H := hP
  have hD : va_D A [(h0, .inr (0, cu_ck (upd K 9 (J 9)))), (h1, .inr (0, cu_ck J))] := hD
  refine lv_aload_n hx hb dX0_copyFrom_8 rfl (lv_at hl 0 rfl) ?_
  refine lv_aload_n hx hb dX0_copyFrom_9 rfl (lv_at hl 1 rfl) ?_
  refine va_get (D := D) (ci := 0) (v := .int (J 10)) (C := RX0) (T := TX0) (N := 14) hx hb hts hiX0 hown hK hP 1 rfl rfl 1 (by decide) (hts (.fieldLink RX0 15 "CuckooShop$Clock" "gearB" "I") (by decide +kernel)) (fun _ h9 => h9) rfl dX0_copyFrom_10 ?_
  refine va_put (D := D) (ci := 0) (v := .int (J 10)) (ty := .int) (C := RX0) (T := TX0) (N := 14) hx hb hts hiX0 tyX0 tyX0_ok nmX0 hown hK hP hD hS 0 rfl rfl 1 (by decide) (hts (.fieldLink RX0 15 "CuckooShop$Clock" "gearB" "I") (by decide +kernel)) (fun _ h9 => h9) rfl (by decide +kernel) rfl rfl (Nat.le_of_ble_eq_true rfl) dX0_copyFrom_13 (fun H locs hP hD hS => ?_)
  have hP : va_P D vwCl [(h0, .inr (0, cu_ck (upd (upd K 9 (J 9)) 10 (J 10)))), (h1, .inr (0, cu_ck J))] H := hP
  have hD : va_D A [(h0, .inr (0, cu_ck (upd (upd K 9 (J 9)) 10 (J 10)))), (h1, .inr (0, cu_ck J))] := hD
  refine lv_aload_n hx hb dX0_copyFrom_16 rfl (lv_at hl 0 rfl) ?_
  refine lv_aload_n hx hb dX0_copyFrom_17 rfl (lv_at hl 1 rfl) ?_
  refine va_get (D := D) (ci := 0) (v := .int (J 11)) (C := RX0) (T := TX0) (N := 14) hx hb hts hiX0 hown hK hP 1 rfl rfl 2 (by decide) (hts (.fieldLink RX0 18 "CuckooShop$Clock" "swing" "I") (by decide +kernel)) (fun _ h9 => h9) rfl dX0_copyFrom_18 ?_
  refine va_put (D := D) (ci := 0) (v := .int (J 11)) (ty := .int) (C := RX0) (T := TX0) (N := 14) hx hb hts hiX0 tyX0 tyX0_ok nmX0 hown hK hP hD hS 0 rfl rfl 2 (by decide) (hts (.fieldLink RX0 18 "CuckooShop$Clock" "swing" "I") (by decide +kernel)) (fun _ h9 => h9) rfl (by decide +kernel) rfl rfl (Nat.le_of_ble_eq_true rfl) dX0_copyFrom_21 (fun H locs hP hD hS => ?_)
  have hP : va_P D vwCl [(h0, .inr (0, cu_ck (upd (upd (upd K 9 (J 9)) 10 (J 10)) 11 (J 11)))), (h1, .inr (0, cu_ck J))] H := hP
  have hD : va_D A [(h0, .inr (0, cu_ck (upd (upd (upd K 9 (J 9)) 10 (J 10)) 11 (J 11)))), (h1, .inr (0, cu_ck J))] := hD
  refine lv_aload_n hx hb dX0_copyFrom_24 rfl (lv_at hl 0 rfl) ?_
  refine lv_aload_n hx hb dX0_copyFrom_25 rfl (lv_at hl 1 rfl) ?_
  refine va_get (D := D) (ci := 0) (v := .int (J 2)) (C := RX0) (T := TX0) (N := 14) hx hb hts hiX0 hown hK hP 1 rfl rfl 3 (by decide) (hts (.fieldLink RX0 21 "CuckooShop$Clock" "chain" "I") (by decide +kernel)) (fun _ h9 => h9) rfl dX0_copyFrom_26 ?_
  refine va_put (D := D) (ci := 0) (v := .int (J 2)) (ty := .int) (C := RX0) (T := TX0) (N := 14) hx hb hts hiX0 tyX0 tyX0_ok nmX0 hown hK hP hD hS 0 rfl rfl 3 (by decide) (hts (.fieldLink RX0 21 "CuckooShop$Clock" "chain" "I") (by decide +kernel)) (fun _ h9 => h9) rfl (by decide +kernel) rfl rfl (Nat.le_of_ble_eq_true rfl) dX0_copyFrom_29 (fun H locs hP hD hS => ?_)
  have hP : va_P D vwCl [(h0, .inr (0, cu_ck (upd (upd (upd (upd K 9 (J 9)) 10 (J 10)) 11 (J 11)) 2 (J 2)))), (h1, .inr (0, cu_ck J))] H := hP
  have hD : va_D A [(h0, .inr (0, cu_ck (upd (upd (upd (upd K 9 (J 9)) 10 (J 10)) 11 (J 11)) 2 (J 2)))), (h1, .inr (0, cu_ck J))] := hD
  refine lv_aload_n hx hb dX0_copyFrom_32 rfl (lv_at hl 0 rfl) ?_
  refine lv_aload_n hx hb dX0_copyFrom_33 rfl (lv_at hl 1 rfl) ?_
  refine va_get (D := D) (ci := 0) (v := .int (J 3)) (C := RX0) (T := TX0) (N := 14) hx hb hts hiX0 hown hK hP 1 rfl rfl 4 (by decide) (hts (.fieldLink RX0 24 "CuckooShop$Clock" "oil" "I") (by decide +kernel)) (fun _ h9 => h9) rfl dX0_copyFrom_34 ?_
  refine va_put (D := D) (ci := 0) (v := .int (J 3)) (ty := .int) (C := RX0) (T := TX0) (N := 14) hx hb hts hiX0 tyX0 tyX0_ok nmX0 hown hK hP hD hS 0 rfl rfl 4 (by decide) (hts (.fieldLink RX0 24 "CuckooShop$Clock" "oil" "I") (by decide +kernel)) (fun _ h9 => h9) rfl (by decide +kernel) rfl rfl (Nat.le_of_ble_eq_true rfl) dX0_copyFrom_37 (fun H locs hP hD hS => ?_)
  have hP : va_P D vwCl [(h0, .inr (0, cu_ck (upd (upd (upd (upd (upd K 9 (J 9)) 10 (J 10)) 11 (J 11)) 2 (J 2)) 3 (J 3)))), (h1, .inr (0, cu_ck J))] H := hP
  have hD : va_D A [(h0, .inr (0, cu_ck (upd (upd (upd (upd (upd K 9 (J 9)) 10 (J 10)) 11 (J 11)) 2 (J 2)) 3 (J 3)))), (h1, .inr (0, cu_ck J))] := hD
  refine lv_aload_n hx hb dX0_copyFrom_40 rfl (lv_at hl 0 rfl) ?_
  refine lv_aload_n hx hb dX0_copyFrom_41 rfl (lv_at hl 1 rfl) ?_
  refine va_get (D := D) (ci := 0) (v := .int (J 4)) (C := RX0) (T := TX0) (N := 14) hx hb hts hiX0 hown hK hP 1 rfl rfl 5 (by decide) (hts (.fieldLink RX0 27 "CuckooShop$Clock" "bellows" "I") (by decide +kernel)) (fun _ h9 => h9) rfl dX0_copyFrom_42 ?_
  refine va_put (D := D) (ci := 0) (v := .int (J 4)) (ty := .int) (C := RX0) (T := TX0) (N := 14) hx hb hts hiX0 tyX0 tyX0_ok nmX0 hown hK hP hD hS 0 rfl rfl 5 (by decide) (hts (.fieldLink RX0 27 "CuckooShop$Clock" "bellows" "I") (by decide +kernel)) (fun _ h9 => h9) rfl (by decide +kernel) rfl rfl (Nat.le_of_ble_eq_true rfl) dX0_copyFrom_45 (fun H locs hP hD hS => ?_)
  have hP : va_P D vwCl [(h0, .inr (0, cu_ck (upd (upd (upd (upd (upd (upd K 9 (J 9)) 10 (J 10)) 11 (J 11)) 2 (J 2)) 3 (J 3)) 4 (J 4)))), (h1, .inr (0, cu_ck J))] H := hP
  have hD : va_D A [(h0, .inr (0, cu_ck (upd (upd (upd (upd (upd (upd K 9 (J 9)) 10 (J 10)) 11 (J 11)) 2 (J 2)) 3 (J 3)) 4 (J 4)))), (h1, .inr (0, cu_ck J))] := hD
  refine lv_aload_n hx hb dX0_copyFrom_48 rfl (lv_at hl 0 rfl) ?_
  refine lv_aload_n hx hb dX0_copyFrom_49 rfl (lv_at hl 1 rfl) ?_
  refine va_get (D := D) (ci := 0) (v := .int (J 5)) (C := RX0) (T := TX0) (N := 14) hx hb hts hiX0 hown hK hP 1 rfl rfl 6 (by decide) (hts (.fieldLink RX0 30 "CuckooShop$Clock" "goes" "Z") (by decide +kernel)) (fun _ h9 => h9) rfl dX0_copyFrom_50 ?_
  refine va_put (D := D) (ci := 0) (v := .int (J 5)) (ty := .boolean) (C := RX0) (T := TX0) (N := 14) hx hb hts hiX0 tyX0 tyX0_ok nmX0 hown hK hP hD hS 0 rfl rfl 6 (by decide) (hts (.fieldLink RX0 30 "CuckooShop$Clock" "goes" "Z") (by decide +kernel)) (fun _ h9 => h9) rfl (by decide +kernel) (cu_nb hJ) (cu_fb hJ) (Nat.le_of_ble_eq_true rfl) dX0_copyFrom_53 (fun H locs hP hD hS => ?_)
  have hP : va_P D vwCl [(h0, .inr (0, cu_ck (upd (upd (upd (upd (upd (upd (upd K 9 (J 9)) 10 (J 10)) 11 (J 11)) 2 (J 2)) 3 (J 3)) 4 (J 4)) 5 (J 5)))), (h1, .inr (0, cu_ck J))] H := hP
  have hD : va_D A [(h0, .inr (0, cu_ck (upd (upd (upd (upd (upd (upd (upd K 9 (J 9)) 10 (J 10)) 11 (J 11)) 2 (J 2)) 3 (J 3)) 4 (J 4)) 5 (J 5)))), (h1, .inr (0, cu_ck J))] := hD
  refine lv_aload_n hx hb dX0_copyFrom_56 rfl (lv_at hl 0 rfl) ?_
  refine lv_aload_n hx hb dX0_copyFrom_57 rfl (lv_at hl 1 rfl) ?_
  refine va_get (D := D) (ci := 0) (v := .int (J 0)) (C := RX0) (T := TX0) (N := 14) hx hb hts hiX0 hown hK hP 1 rfl rfl 7 (by decide) (hts (.fieldLink RX0 34 "CuckooShop$Clock" "shown" "I") (by decide +kernel)) (fun _ h9 => h9) rfl dX0_copyFrom_58 ?_
  refine va_put (D := D) (ci := 0) (v := .int (J 0)) (ty := .int) (C := RX0) (T := TX0) (N := 14) hx hb hts hiX0 tyX0 tyX0_ok nmX0 hown hK hP hD hS 0 rfl rfl 7 (by decide) (hts (.fieldLink RX0 34 "CuckooShop$Clock" "shown" "I") (by decide +kernel)) (fun _ h9 => h9) rfl (by decide +kernel) rfl rfl (Nat.le_of_ble_eq_true rfl) dX0_copyFrom_61 (fun H locs hP hD hS => ?_)
  have hP : va_P D vwCl [(h0, .inr (0, cu_ck (upd (upd (upd (upd (upd (upd (upd (upd K 9 (J 9)) 10 (J 10)) 11 (J 11)) 2 (J 2)) 3 (J 3)) 4 (J 4)) 5 (J 5)) 0 (J 0)))), (h1, .inr (0, cu_ck J))] H := hP
  have hD : va_D A [(h0, .inr (0, cu_ck (upd (upd (upd (upd (upd (upd (upd (upd K 9 (J 9)) 10 (J 10)) 11 (J 11)) 2 (J 2)) 3 (J 3)) 4 (J 4)) 5 (J 5)) 0 (J 0)))), (h1, .inr (0, cu_ck J))] := hD
  refine lv_aload_n hx hb dX0_copyFrom_64 rfl (lv_at hl 0 rfl) ?_
  refine lv_aload_n hx hb dX0_copyFrom_65 rfl (lv_at hl 1 rfl) ?_
  refine va_get (D := D) (ci := 0) (v := .int (J 1)) (C := RX0) (T := TX0) (N := 14) hx hb hts hiX0 hown hK hP 1 rfl rfl 8 (by decide) (hts (.fieldLink RX0 37 "CuckooShop$Clock" "rest" "I") (by decide +kernel)) (fun _ h9 => h9) rfl dX0_copyFrom_66 ?_
  refine va_put (D := D) (ci := 0) (v := .int (J 1)) (ty := .int) (C := RX0) (T := TX0) (N := 14) hx hb hts hiX0 tyX0 tyX0_ok nmX0 hown hK hP hD hS 0 rfl rfl 8 (by decide) (hts (.fieldLink RX0 37 "CuckooShop$Clock" "rest" "I") (by decide +kernel)) (fun _ h9 => h9) rfl (by decide +kernel) rfl rfl (Nat.le_of_ble_eq_true rfl) dX0_copyFrom_69 (fun H locs hP hD hS => ?_)
  have hP : va_P D vwCl [(h0, .inr (0, cu_ck (upd (upd (upd (upd (upd (upd (upd (upd (upd K 9 (J 9)) 10 (J 10)) 11 (J 11)) 2 (J 2)) 3 (J 3)) 4 (J 4)) 5 (J 5)) 0 (J 0)) 1 (J 1)))), (h1, .inr (0, cu_ck J))] H := hP
  have hD : va_D A [(h0, .inr (0, cu_ck (upd (upd (upd (upd (upd (upd (upd (upd (upd K 9 (J 9)) 10 (J 10)) 11 (J 11)) 2 (J 2)) 3 (J 3)) 4 (J 4)) 5 (J 5)) 0 (J 0)) 1 (J 1)))), (h1, .inr (0, cu_ck J))] := hD
  refine lv_aload_n hx hb dX0_copyFrom_72 rfl (lv_at hl 0 rfl) ?_
  refine lv_aload_n hx hb dX0_copyFrom_73 rfl (lv_at hl 1 rfl) ?_
  refine va_get (D := D) (ci := 0) (v := .int (J 12)) (C := RX0) (T := TX0) (N := 14) hx hb hts hiX0 hown hK hP 1 rfl rfl 9 (by decide) (hts (.fieldLink RX0 40 "CuckooShop$Clock" "shutFrom" "I") (by decide +kernel)) (fun _ h9 => h9) rfl dX0_copyFrom_74 ?_
  refine va_put (D := D) (ci := 0) (v := .int (J 12)) (ty := .int) (C := RX0) (T := TX0) (N := 14) hx hb hts hiX0 tyX0 tyX0_ok nmX0 hown hK hP hD hS 0 rfl rfl 9 (by decide) (hts (.fieldLink RX0 40 "CuckooShop$Clock" "shutFrom" "I") (by decide +kernel)) (fun _ h9 => h9) rfl (by decide +kernel) rfl rfl (Nat.le_of_ble_eq_true rfl) dX0_copyFrom_77 (fun H locs hP hD hS => ?_)
  have hP : va_P D vwCl [(h0, .inr (0, cu_ck (upd (upd (upd (upd (upd (upd (upd (upd (upd (upd K 9 (J 9)) 10 (J 10)) 11 (J 11)) 2 (J 2)) 3 (J 3)) 4 (J 4)) 5 (J 5)) 0 (J 0)) 1 (J 1)) 12 (J 12)))), (h1, .inr (0, cu_ck J))] H := hP
  have hD : va_D A [(h0, .inr (0, cu_ck (upd (upd (upd (upd (upd (upd (upd (upd (upd (upd K 9 (J 9)) 10 (J 10)) 11 (J 11)) 2 (J 2)) 3 (J 3)) 4 (J 4)) 5 (J 5)) 0 (J 0)) 1 (J 1)) 12 (J 12)))), (h1, .inr (0, cu_ck J))] := hD
  refine lv_aload_n hx hb dX0_copyFrom_80 rfl (lv_at hl 0 rfl) ?_
  refine lv_aload_n hx hb dX0_copyFrom_81 rfl (lv_at hl 1 rfl) ?_
  refine va_get (D := D) (ci := 0) (v := .int (J 13)) (C := RX0) (T := TX0) (N := 14) hx hb hts hiX0 hown hK hP 1 rfl rfl 10 (by decide) (hts (.fieldLink RX0 43 "CuckooShop$Clock" "shutTill" "I") (by decide +kernel)) (fun _ h9 => h9) rfl dX0_copyFrom_82 ?_
  refine va_put (D := D) (ci := 0) (v := .int (J 13)) (ty := .int) (C := RX0) (T := TX0) (N := 14) hx hb hts hiX0 tyX0 tyX0_ok nmX0 hown hK hP hD hS 0 rfl rfl 10 (by decide) (hts (.fieldLink RX0 43 "CuckooShop$Clock" "shutTill" "I") (by decide +kernel)) (fun _ h9 => h9) rfl (by decide +kernel) rfl rfl (Nat.le_of_ble_eq_true rfl) dX0_copyFrom_85 (fun H locs hP hD hS => ?_)
  have hP : va_P D vwCl [(h0, .inr (0, cu_ck (upd (upd (upd (upd (upd (upd (upd (upd (upd (upd (upd K 9 (J 9)) 10 (J 10)) 11 (J 11)) 2 (J 2)) 3 (J 3)) 4 (J 4)) 5 (J 5)) 0 (J 0)) 1 (J 1)) 12 (J 12)) 13 (J 13)))), (h1, .inr (0, cu_ck J))] H := hP
  have hD : va_D A [(h0, .inr (0, cu_ck (upd (upd (upd (upd (upd (upd (upd (upd (upd (upd (upd K 9 (J 9)) 10 (J 10)) 11 (J 11)) 2 (J 2)) 3 (J 3)) 4 (J 4)) 5 (J 5)) 0 (J 0)) 1 (J 1)) 12 (J 12)) 13 (J 13)))), (h1, .inr (0, cu_ck J))] := hD
  refine lv_aload_n hx hb dX0_copyFrom_88 rfl (lv_at hl 0 rfl) ?_
  refine lv_aload_n hx hb dX0_copyFrom_89 rfl (lv_at hl 1 rfl) ?_
  refine va_get (D := D) (ci := 0) (v := .int (J 6)) (C := RX0) (T := TX0) (N := 14) hx hb hts hiX0 hown hK hP 1 rfl rfl 11 (by decide) (hts (.fieldLink RX0 46 "CuckooShop$Clock" "calls" "I") (by decide +kernel)) (fun _ h9 => h9) rfl dX0_copyFrom_90 ?_
  refine va_put (D := D) (ci := 0) (v := .int (J 6)) (ty := .int) (C := RX0) (T := TX0) (N := 14) hx hb hts hiX0 tyX0 tyX0_ok nmX0 hown hK hP hD hS 0 rfl rfl 11 (by decide) (hts (.fieldLink RX0 46 "CuckooShop$Clock" "calls" "I") (by decide +kernel)) (fun _ h9 => h9) rfl (by decide +kernel) rfl rfl (Nat.le_of_ble_eq_true rfl) dX0_copyFrom_93 (fun H locs hP hD hS => ?_)
  have hP : va_P D vwCl [(h0, .inr (0, cu_ck (upd (upd (upd (upd (upd (upd (upd (upd (upd (upd (upd (upd K 9 (J 9)) 10 (J 10)) 11 (J 11)) 2 (J 2)) 3 (J 3)) 4 (J 4)) 5 (J 5)) 0 (J 0)) 1 (J 1)) 12 (J 12)) 13 (J 13)) 6 (J 6)))), (h1, .inr (0, cu_ck J))] H := hP
  have hD : va_D A [(h0, .inr (0, cu_ck (upd (upd (upd (upd (upd (upd (upd (upd (upd (upd (upd (upd K 9 (J 9)) 10 (J 10)) 11 (J 11)) 2 (J 2)) 3 (J 3)) 4 (J 4)) 5 (J 5)) 0 (J 0)) 1 (J 1)) 12 (J 12)) 13 (J 13)) 6 (J 6)))), (h1, .inr (0, cu_ck J))] := hD
  refine lv_aload_n hx hb dX0_copyFrom_96 rfl (lv_at hl 0 rfl) ?_
  refine lv_aload_n hx hb dX0_copyFrom_97 rfl (lv_at hl 1 rfl) ?_
  refine va_get (D := D) (ci := 0) (v := .int (J 7)) (C := RX0) (T := TX0) (N := 14) hx hb hts hiX0 hown hK hP 1 rfl rfl 12 (by decide) (hts (.fieldLink RX0 49 "CuckooShop$Clock" "missed" "I") (by decide +kernel)) (fun _ h9 => h9) rfl dX0_copyFrom_98 ?_
  refine va_put (D := D) (ci := 0) (v := .int (J 7)) (ty := .int) (C := RX0) (T := TX0) (N := 14) hx hb hts hiX0 tyX0 tyX0_ok nmX0 hown hK hP hD hS 0 rfl rfl 12 (by decide) (hts (.fieldLink RX0 49 "CuckooShop$Clock" "missed" "I") (by decide +kernel)) (fun _ h9 => h9) rfl (by decide +kernel) rfl rfl (Nat.le_of_ble_eq_true rfl) dX0_copyFrom_101 (fun H locs hP hD hS => ?_)
  have hP : va_P D vwCl [(h0, .inr (0, cu_ck (upd (upd (upd (upd (upd (upd (upd (upd (upd (upd (upd (upd (upd K 9 (J 9)) 10 (J 10)) 11 (J 11)) 2 (J 2)) 3 (J 3)) 4 (J 4)) 5 (J 5)) 0 (J 0)) 1 (J 1)) 12 (J 12)) 13 (J 13)) 6 (J 6)) 7 (J 7)))), (h1, .inr (0, cu_ck J))] H := hP
  have hD : va_D A [(h0, .inr (0, cu_ck (upd (upd (upd (upd (upd (upd (upd (upd (upd (upd (upd (upd (upd K 9 (J 9)) 10 (J 10)) 11 (J 11)) 2 (J 2)) 3 (J 3)) 4 (J 4)) 5 (J 5)) 0 (J 0)) 1 (J 1)) 12 (J 12)) 13 (J 13)) 6 (J 6)) 7 (J 7)))), (h1, .inr (0, cu_ck J))] := hD
  refine lv_aload_n hx hb dX0_copyFrom_104 rfl (lv_at hl 0 rfl) ?_
  refine lv_aload_n hx hb dX0_copyFrom_105 rfl (lv_at hl 1 rfl) ?_
  refine va_get (D := D) (ci := 0) (v := .int (J 8)) (C := RX0) (T := TX0) (N := 14) hx hb hts hiX0 hown hK hP 1 rfl rfl 13 (by decide) (hts (.fieldLink RX0 52 "CuckooShop$Clock" "latestCalls" "I") (by decide +kernel)) (fun _ h9 => h9) rfl dX0_copyFrom_106 ?_
  refine va_put (D := D) (ci := 0) (v := .int (J 8)) (ty := .int) (C := RX0) (T := TX0) (N := 14) hx hb hts hiX0 tyX0 tyX0_ok nmX0 hown hK hP hD hS 0 rfl rfl 13 (by decide) (hts (.fieldLink RX0 52 "CuckooShop$Clock" "latestCalls" "I") (by decide +kernel)) (fun _ h9 => h9) rfl (by decide +kernel) rfl rfl (Nat.le_of_ble_eq_true rfl) dX0_copyFrom_109 (fun H locs hP hD hS => ?_)
  have hP : va_P D vwCl [(h0, .inr (0, cu_ck (upd (upd (upd (upd (upd (upd (upd (upd (upd (upd (upd (upd (upd (upd K 9 (J 9)) 10 (J 10)) 11 (J 11)) 2 (J 2)) 3 (J 3)) 4 (J 4)) 5 (J 5)) 0 (J 0)) 1 (J 1)) 12 (J 12)) 13 (J 13)) 6 (J 6)) 7 (J 7)) 8 (J 8)))), (h1, .inr (0, cu_ck J))] H := hP
  have hD : va_D A [(h0, .inr (0, cu_ck (upd (upd (upd (upd (upd (upd (upd (upd (upd (upd (upd (upd (upd (upd K 9 (J 9)) 10 (J 10)) 11 (J 11)) 2 (J 2)) 3 (J 3)) 4 (J 4)) 5 (J 5)) 0 (J 0)) 1 (J 1)) 12 (J 12)) 13 (J 13)) 6 (J 6)) 7 (J 7)) 8 (J 8)))), (h1, .inr (0, cu_ck J))] := hD
  exact fin _ _ _ _ hP hS dX0_copyFrom_112
end
section
/-! methods that return or throw: o names the exception, if there is one; then nothing is changed -/
def cu_nms : List String := ["java/lang/RuntimeException", "java/lang/Exception"]
abbrev x_IAE : String := "java/lang/IllegalArgumentException"
abbrev x_ISE : String := "java/lang/IllegalStateException"
abbrev x_IOB : String := "java/lang/IndexOutOfBoundsException"
theorem cu_at_IAE : ∀ w ∈ (vx_atS RX1 51 x_IAE cu_nms).filter (fun w => !goodWord w), w ∈ Cond.castable x_IAE x_IAE :: cu_decls.map Cond.declares := by decide +kernel
theorem cu_at_ISE : ∀ w ∈ (vx_atS RX1 34 x_ISE cu_nms).filter (fun w => !goodWord w), w ∈ Cond.castable x_ISE x_ISE :: cu_decls.map Cond.declares := by decide +kernel
theorem cu_at_IOB : ∀ w ∈ (vx_atS RX1 90 x_IOB cu_nms).filter (fun w => !goodWord w), w ∈ Cond.castable x_IOB x_IOB :: cu_decls.map Cond.declares := by decide +kernel
theorem cu_gd_IAE : ∀ w ∈ Cond.classLink RX1 47 x_IAE :: Cond.initialized x_IAE :: vx_atS RX1 51 x_IAE cu_nms, vx_ot w = true := by decide +kernel
theorem cu_gd_ISE : ∀ w ∈ Cond.classLink RX1 30 x_ISE :: Cond.initialized x_ISE :: vx_atS RX1 34 x_ISE cu_nms, vx_ot w = true := by decide +kernel
theorem cu_gd_IOB : ∀ w ∈ Cond.classLink RX1 86 x_IOB :: Cond.initialized x_IOB :: vx_atS RX1 90 x_IOB cu_nms, vx_ot w = true := by decide +kernel
/-- the three kinds of throw: the class, the place of its name, of its constructor -/
def cu_th (cls : String) (ik ic : Nat) : Prop := Bundle.fit cls = true ∧ (∀ w ∈ (vx_atS RX1 ic cls cu_nms).filter (fun w => !goodWord w), w ∈ Cond.castable cls cls :: cu_decls.map Cond.declares) ∧ (∀ w ∈ Cond.classLink RX1 ik cls :: Cond.initialized cls :: vx_atS RX1 ic cls cu_nms, vx_ot w = true) ∧ (cls, cls) ∈ cu_casts
theorem cu_th_IAE : cu_th x_IAE 47 51 := ⟨by decide +kernel, cu_at_IAE, cu_gd_IAE, by decide +kernel⟩
theorem cu_th_ISE : cu_th x_ISE 30 34 := ⟨by decide +kernel, cu_at_ISE, cu_gd_ISE, by decide +kernel⟩
theorem cu_th_IOB : cu_th x_IOB 86 90 := ⟨by decide +kernel, cu_at_IOB, cu_gd_IOB, by decide +kernel⟩
def cu_T (A : Nat → Prop) (U : State) (H : Heap) : Prop := vx_Zq Bundle.tN "UNASSIGNED_STACK" Bundle.steD A U H ∧ vx_Zq Bundle.tN "SUPPRESSED_SENTINEL" Bundle.listD A U H
def cu_BT (D : va_G) (C : Nat → ClassId) (w : va_W) (sz : Nat) (U : State) : Prop := cu_B D C w sz U ∧ cu_T (va_A w sz) U U.heap
theorem cu_blindT {D : va_G} {C : Nat → ClassId} {w : va_W} {sz : Nat} {av : List Value} : FrameBlind (va_Pc av (cu_BT D C w sz)) := by
  intro a U g mk q
  obtain ⟨q0, q1, q2, q3⟩ := q
  have ha : U.vm.Alike (U.calling g mk a).vm := Vm.Alike.refl U.vm
  exact ⟨q0, (cu_blind (av := av) a U g mk ⟨q0, q1⟩).2, vx_Zq.moved ha q2, vx_Zq.moved ha q3⟩
def cu_XI (l : Launch) (D : va_G) (C : Nat → ClassId) (y : MethodName) (ws : List Cond) (rm : Room) (av : List Value) (w w' : va_W) (o : Option String) (val : Int32) (mc ms : Nat) : Prop :=
  ∀ sz : Nat, vx_Met l y ws rm (va_Pc av (cu_BT D C w sz)) (va_Qi (fun (r : Int32) (_ : Unit) => o = none ∧ r = val) (fun _ t => va_P D vwCl w' t.heap) (va_A w sz)) (vx_X (fun _ : Unit => True) (fun E _ t => o = some E ∧ va_P D vwCl w t.heap) (va_A w sz)) mc ms (va_A w sz)
def cu_XV (l : Launch) (D : va_G) (C : Nat → ClassId) (y : MethodName) (ws : List Cond) (rm : Room) (av : List Value) (w w' : va_W) (o : Option String) (mc ms : Nat) : Prop :=
  ∀ sz : Nat, vx_Met l y ws rm (va_Pc av (cu_BT D C w sz)) (va_Qv (fun (_ : Unit) => o = none) (fun _ t => va_P D vwCl w' t.heap) (va_A w sz)) (vx_X (fun _ : Unit => True) (fun E _ t => o = some E ∧ va_P D vwCl w t.heap) (va_A w sz)) mc ms (va_A w sz)
section CUX
variable {l : Launch} {D : va_G} {C : Nat → ClassId} {y : MethodName} {ws ws' : List Cond} {rm : Room} {av : List Value} {w w' : va_W} {mc ms maxL : Nat} {cc : ByteArray} {o : Option String}
/-- a throw, and an exception of a callee's that goes on -/
def cu_Thr (D : va_G) (p : Program) (l : Launch) (e : Env) (rm : Room) (s : State) (m : MethodId) (args : Array Value) (below : List Frame) (meth : Method) (c : Code) (cc : ByteArray) (ws : List Cond) (maxL mc ms : Nat) (o : Option String) (w : va_W) (A : Nat → Prop) (Z : State → Prop) (H0 : Heap) : Prop :=
  ∀ (cls text : String) (ik is ic : Nat) (H : Heap) (locs : List Loc) (pc : Nat) (ls : Array Slot) (rest : List Value) (cells slots : Nat), cu_th cls ik ic → (Cond.classLink RX1 ik cls).before args s = true → (Cond.initialized cls).before args s = true → (is, text) ∈ cu_txts → (∀ w ∈ (vx_atS RX1 ic cls cu_nms).filter goodWord, w ∈ ws) →
    va_S A H0 H locs → ls.size = maxL → decode cc pc = .ok (.new ik, 3) → decode cc (pc + 3) = .ok (.dup, 1) → decode cc (pc + 4) = .ok (.ldc is, 2) → decode cc (pc + 6) = .ok (.invokespecial ic, 3) → decode cc (pc + 9) = .ok (.athrow, 1) →
    5 < rm.frames → (rest.map fun v => v.category).sum + 82 ≤ rm.locals → cells + 1 ≤ rm.cells → slots + 6 ≤ rm.slots → cells + 1 ≤ mc → slots + 6 ≤ ms → o = some cls → va_P D vwCl w H →
    W p l e rm s m args below meth c H locs cells slots Z (F0 m pc ls rest)
def cu_Prop (D : va_G) (p : Program) (l : Launch) (e : Env) (rm : Room) (s : State) (m : MethodId) (args : Array Value) (below : List Frame) (meth : Method) (c : Code) (mc ms : Nat) (o : Option String) (w : va_W) (A : Nat → Prop) (Z : State → Prop) (H0 : Heap) : Prop :=
  ∀ (E : String) (ce : Cell) (q : Addr) (H : Heap) (locs : List Loc) (pc : Nat) (ls : Array Slot) (rest : List Value) (cells slots : Nat), o = some E → va_P D vwCl w H → va_S A H0 H locs → H[q]? = some ce → ce.vm = .none → s.vm.findClass E = some ce.cls → cells ≤ mc → slots ≤ ms →
    vx_W p l e rm s m args below meth c H locs cells slots Z (F0 m pc ls rest) q
theorem cu_thr {p : Program} {e : Env} {s s₁ : State} {m : MethodId} {args : Array Value} {below : List Frame} {meth : Method} {c : Code} {ret : Option FieldType} {Qc : Array Value → State → Outcome → State → Prop} (hlf : l.stackTraces = false) (ho : y.cls = RX1) (B : BodyLoose p l y (headSpec ws rm) cc maxL ret e s m args below meth c s₁) (hml : c.maxLocals = maxL) (ht : ∀ x ∈ c.exceptionTable.toList, False) (hG : cu_G D C s) (hT : cu_T (va_A w s.heap.size) s s.heap) :
    cu_Thr D p l e rm s m args below meth c cc ws maxL mc ms o w (va_A w s.heap.size) (vx_MQ below Qc (vx_X (fun _ : Unit => True) (fun E _ t => o = some E ∧ va_P D vwCl w t.heap) (va_A w s.heap.size)) args s mc ms (va_A w s.heap.size)) s.heap := by
  intro cls text ik is ic H locs pc ls rest cells slots hth hk hini htx hws hS hls d0 d3 d4 d6 d9 hf hlo hc hs hc2 hs2 hoo hP
  obtain ⟨h1, h2, h3, h4⟩ := hth
  obtain ⟨sa, hsa⟩ := hG.2.2.2.2.2.1 _ htx
  have hts := atoms_spec (ws := ws) B.pre
  refine vx_throwS (names := cu_nms) (text := text) (sa := sa) B.exec B.bytes hlf (by rw [← ho]; exact findClass_of_methodNamed B.named) h1 (by decide +kernel) hk hini hsa (vx_hat (fun w hw => hts w (hws w hw)) h2 (vx_c (va_Nw.use rfl (hG.2.2.2.1 _ h4)) (fun w hw => by obtain ⟨z, hz, rfl⟩ := List.mem_map.mp hw; exact va_Nw.use rfl (hG.2.2.2.2.2.2 z hz)))) h3 hT.1 hT.2 hS (hls.trans hml.symm) d0 d3 d4 d6 d9 (fun x hx => (ht x hx).elim) hf hlo hc hs B.notSynchronized (fun t _ hz hq => ?_) hS.2.2 hc2 hs2
  refine ⟨(), trivial, ⟨hoo, hP.kept (fun k q hk => hq q.1 (hP k q hk).lt)⟩, Nat.le_trans hS.1 hz, fun q h8 h9 => ?_⟩
  rw [hq q (Nat.lt_of_lt_of_le h8 hS.1)]
  exact hS.2.1 q h8 h9
theorem cu_prop {p : Program} {e : Env} {s s₁ : State} {m : MethodId} {args : Array Value} {below : List Frame} {meth : Method} {c : Code} {ret : Option FieldType} {Qc : Array Value → State → Outcome → State → Prop} (B : BodyLoose p l y (headSpec ws rm) cc maxL ret e s m args below meth c s₁) (ht : ∀ x ∈ c.exceptionTable.toList, False) :
    cu_Prop D p l e rm s m args below meth c mc ms o w (va_A w s.heap.size) (vx_MQ below Qc (vx_X (fun _ : Unit => True) (fun E _ t => o = some E ∧ va_P D vwCl w t.heap) (va_A w s.heap.size)) args s mc ms (va_A w s.heap.size)) s.heap := by
  intro E ce q H locs pc ls rest cells slots hoo hP hS hce hcv hcl hc hs
  refine vx_out (E := E) (ce := ce) (fun x hx => (ht x hx).elim) B.notSynchronized hce hcv hcl (fun t ht _ => ?_) hS.2.2 hc hs
  exact ⟨(), trivial, ⟨hoo, by show va_P D vwCl w t.heap; rw [ht]; exact hP⟩, hS.F ht⟩
set_option maxHeartbeats 1000000 in
theorem cu_openXI {val : Int32} {ty : FieldType} (hlf : l.stackTraces = false) (hy : plainName y.cls = true) (ho : y.cls = RX1) (hw : ws = Cond.code y cc maxL (some ty) :: ws') (hz : (lg_sl av).length ≤ maxL)
    (body : ∀ (p : Program) (e : Env) (s : State) (m : MethodId) (args : Array Value) (below : List Frame) (meth : Method) (c : Code) (A : Nat → Prop) (Z : State → Prop) (H0 : Heap) (ls : Array Slot), s.heap = H0 → p.tables.exec = Jvm.exec → c.code = cc → c.maxLocals = maxL → (∀ w ∈ ws, w.before args s = true) → s.vm.findClass RX1 = some m.cls → meth.name = y.name → cu_G D C s → va_P D vwCl w H0 → va_D A w → va_S A H0 H0 [] → (∀ q : Nat, H0.size ≤ q → A q) → lv_has ls maxL (lv_args 0 av) → cu_T A s H0 →
      (∀ (v : Int32) (H : Heap) (locs : List Loc) (pc : Nat) (ls : Array Slot), narrow ty (.int v) = .int v → o = none → v = val → va_P D vwCl w' H → va_S A H0 H locs → decode cc pc = .ok (.ireturn, 1) → W p l e rm s m args below meth c H locs mc ms Z (F0 m pc ls [.int v])) →
      cu_Thr D p l e rm s m args below meth c cc ws maxL mc ms o w A Z H0 → cu_Prop D p l e rm s m args below meth c mc ms o w A Z H0 →
      W p l e rm s m args below meth c H0 [] 0 0 Z (F0 m 0 ls [])) : cu_XI l D C y ws rm av w w' o val mc ms := by
  intro sz
  refine vx_ofW (cc := cc) (maxL := maxL) (ret := some ty) hy hw ?_
  intro p e s m args below meth c s₁ B hml ht hv
  obtain ⟨rfl, ⟨hsz, hP, hD0, hG⟩, hT⟩ := hv
  subst hsz
  have hl := lv_entry av (n := maxL) hz
  rw [lg_entry_eq]
  refine body p e s m _ below meth c (va_A w s.heap.size) _ _ _ rfl B.exec B.bytes hml (atoms_spec (ws := ws) B.pre) (by rw [← ho]; exact findClass_of_methodNamed B.named) (name_of_methodNamed B.named B.method).1 hG hP hD0.self va_S.rf (fun q h => Or.inr h) hl hT ?_ (cu_thr hlf ho B hml ht hG hT) (cu_prop B ht)
  intro v H locs pc ls hn hon hv hP hS hd
  exact vx_ret (W.zret (v := v) B.exec B.bytes B.returns hn (fun t ht hW => ⟨⟨v, (), rfl, ⟨hon, hv⟩, by show va_P D vwCl w' t.heap; rw [ht]; exact hP⟩, hS.F ht⟩) hS.2.2 hd)
set_option maxHeartbeats 1000000 in
theorem cu_openXV (hlf : l.stackTraces = false) (hy : plainName y.cls = true) (ho : y.cls = RX1) (hw : ws = Cond.code y cc maxL none :: ws') (hz : (lg_sl av).length ≤ maxL)
    (body : ∀ (p : Program) (e : Env) (s : State) (m : MethodId) (args : Array Value) (below : List Frame) (meth : Method) (c : Code) (A : Nat → Prop) (Z : State → Prop) (H0 : Heap) (ls : Array Slot), s.heap = H0 → p.tables.exec = Jvm.exec → c.code = cc → c.maxLocals = maxL → (∀ w ∈ ws, w.before args s = true) → s.vm.findClass RX1 = some m.cls → meth.name = y.name → cu_G D C s → va_P D vwCl w H0 → va_D A w → va_S A H0 H0 [] → (∀ q : Nat, H0.size ≤ q → A q) → lv_has ls maxL (lv_args 0 av) → cu_T A s H0 →
      (∀ (H : Heap) (locs : List Loc) (pc : Nat) (ls : Array Slot), o = none → va_P D vwCl w' H → va_S A H0 H locs → decode cc pc = .ok (.return_, 1) → W p l e rm s m args below meth c H locs mc ms Z (F0 m pc ls [])) →
      cu_Thr D p l e rm s m args below meth c cc ws maxL mc ms o w A Z H0 → cu_Prop D p l e rm s m args below meth c mc ms o w A Z H0 →
      W p l e rm s m args below meth c H0 [] 0 0 Z (F0 m 0 ls [])) : cu_XV l D C y ws rm av w w' o mc ms := by
  intro sz
  refine vx_ofW (cc := cc) (maxL := maxL) (ret := none) hy hw ?_
  intro p e s m args below meth c s₁ B hml ht hv
  obtain ⟨rfl, ⟨hsz, hP, hD0, hG⟩, hT⟩ := hv
  subst hsz
  have hl := lv_entry av (n := maxL) hz
  rw [lg_entry_eq]
  refine body p e s m _ below meth c (va_A w s.heap.size) _ _ _ rfl B.exec B.bytes hml (atoms_spec (ws := ws) B.pre) (by rw [← ho]; exact findClass_of_methodNamed B.named) (name_of_methodNamed B.named B.method).1 hG hP hD0.self va_S.rf (fun q h => Or.inr h) hl hT ?_ (cu_thr hlf ho B hml ht hG hT) (cu_prop B ht)
  intro H locs pc ls hon hP hS hd
  exact vx_ret (W.vret B.exec B.bytes B.returns (fun t ht hW => ⟨⟨(), rfl, hon, by show va_P D vwCl w' t.heap; rw [ht]; exact hP⟩, hS.F ht⟩) hS.2.2 hd)
end CUX
theorem cu_sp.back {W0 w W1 w' : va_W} (h : cu_sp W0 w W1 w') : cu_sp W0 w W0 w := by
  refine ⟨h.1, h.2.1, rfl, fun hn q hq => ?_⟩
  by_cases hm : q.1 ∈ w.map Prod.fst
  · obtain ⟨z, hz, e⟩ := List.mem_map.mp hm
    obtain ⟨i, hi⟩ := List.getElem?_of_mem hq
    obtain ⟨j, hj⟩ := List.getElem?_of_mem (h.1 z hz)
    have e9 := cu_nd2 hn hi hj e.symm
    subst e9
    rw [hi] at hj
    exact Or.inl (by rw [Option.some.inj hj]; exact hz)
  · exact Or.inr ⟨hq, hm⟩
section CUXC
variable {p : Program} {l : Launch} {e : Env} {R : Room} {s : State} {m : MethodId} {args : Array Value} {below : List Frame} {meth : Method} {c : Code} {H : Heap} {locs : List Loc} {cells slots : Nat} {Q : State → Prop}
variable {pc : Nat} {ls : Array Slot} {rest st0 : List Value} {a : Array Value} {A : Nat → Prop} {H0 : Heap} {mc ms : Nat} {D : va_G} {C : Nat → ClassId} {W0 w W1 w' : va_W} {b : Nat} {As : List Value} {o : Option String}
theorem cu_T_in {U : State} (sp : cu_sp W0 w W1 w') (hD : va_D A W0) (hT : cu_T A s H0) (hS : va_S A H0 H locs) (hA : ∀ q : Nat, H0.size ≤ q → A q) (hU : U.heap = H) (hW : s.WarmedH U.vm) : cu_T (va_A w H.size) U U.heap := by
  have hF := sp.F hD hS hA
  rw [hU]
  exact ⟨vx_Zq.moved hW.alike ((vx_Zq.kept hT.1 hS.2.1).narrow hF), vx_Zq.moved hW.alike ((vx_Zq.kept hT.2 hS.2.1).narrow hF)⟩
theorem cu_preXV {ci : Nat} {fs : List Value} {q : vw_C} (sp : cu_sp W0 w W1 w') (hG : cu_G D C s) (hP : va_P D vwCl W0 H) (hD : va_D A W0) (hT : cu_T A s H0) (hS : va_S A H0 H locs) (hA : ∀ q : Nat, H0.size ≤ q → A q) (he : w[0]? = some (b, .inr (ci, fs))) (hc : vwCl[ci]? = some q) : PreV s H q.1 b (va_Pc (.ref b :: As) (cu_BT D C w H.size)) As :=
  ⟨cu_blindT, va_recv hG.1 (sp.P hP) hc he, fun U hU hW => ⟨rfl, ⟨by rw [hU], by rw [hU]; exact sp.P hP, (sp.D hD).weaken (fun _ _ _ _ => trivial), hG.warm hW⟩, cu_T_in sp hD hT hS hA hU hW⟩⟩
theorem cu_preXS (sp : cu_sp W0 w W1 w') (hG : cu_G D C s) (hP : va_P D vwCl W0 H) (hD : va_D A W0) (hT : cu_T A s H0) (hS : va_S A H0 H locs) (hA : ∀ q : Nat, H0.size ≤ q → A q) : PreS s H (va_Pc As (cu_BT D C w H.size)) As :=
  ⟨cu_blindT, fun U hU hW => ⟨rfl, ⟨by rw [hU], by rw [hU]; exact sp.P hP, (sp.D hD).weaken (fun _ _ _ _ => trivial), hG.warm hW⟩, cu_T_in sp hD hT hS hA hU hW⟩⟩
theorem cu_callXV (hr : vx_Run p l e R s m args below meth c H locs cells slots mc ms (F0 m pc ls st0) rest (va_Qv (fun (_ : Unit) => o = none) (fun _ t => va_P D vwCl w' t.heap) (va_A w H.size) a) (vx_X (fun _ : Unit => True) (fun E _ t => o = some E ∧ va_P D vwCl w t.heap) (va_A w H.size)) (va_A w H.size)) (sp : cu_sp W0 w W1 w') (hP : va_P D vwCl W0 H) (hD : va_D A W0) (hS : va_S A H0 H locs) (hA : ∀ q : Nat, H0.size ≤ q → A q)
    (kx : ∀ (E : String) (ce : Cell) (q : Addr) (H1 : Heap) (locs1 : List Loc), o = some E → va_P D vwCl W0 H1 → va_S A H0 H1 locs1 → H1[q]? = some ce → ce.vm = .none → s.vm.findClass E = some ce.cls → vx_W p l e R s m args below meth c H1 locs1 (cells + mc) (slots + ms) Q (F0 m pc ls rest) q)
    (kk : ∀ (H1 : Heap) (locs1 : List Loc), o = none → va_P D vwCl W1 H1 → va_D A W1 → va_S A H0 H1 locs1 → W p l e R s m args below meth c H1 locs1 (cells + mc) (slots + ms) Q (F0 m (pc + 3) ls rest)) : W p l e R s m args below meth c H locs cells slots Q (F0 m pc ls st0) := by
  have hF := sp.F hD hS hA
  refine vx_callv hr hS (fun q _ h => hF q h) hF (fun q _ h => hF q h) (fun E ce q9 u t H1 locs1 ht _ _ hB _ hk hS1 hce hcv hcl => ?_) (fun u t H1 locs1 ht _ hpost hB hz hk hS1 => ?_)
  · obtain ⟨hoo, hB⟩ := hB
    rw [ht] at hB
    exact kx E ce q9 H1 locs1 hoo (sp.back.join hP hD hk hB) hS1 hce hcv hcl
  · rw [ht] at hB
    exact kk H1 locs1 hpost (sp.join hP hD hk hB) (cu_D_fst sp.fst hD) hS1
theorem cu_callXI {val : Int32} (hr : vx_Run p l e R s m args below meth c H locs cells slots mc ms (F0 m pc ls st0) rest (va_Qi (fun (r : Int32) (_ : Unit) => o = none ∧ r = val) (fun _ t => va_P D vwCl w' t.heap) (va_A w H.size) a) (vx_X (fun _ : Unit => True) (fun E _ t => o = some E ∧ va_P D vwCl w t.heap) (va_A w H.size)) (va_A w H.size)) (sp : cu_sp W0 w W1 w') (hP : va_P D vwCl W0 H) (hD : va_D A W0) (hS : va_S A H0 H locs) (hA : ∀ q : Nat, H0.size ≤ q → A q)
    (kx : ∀ (E : String) (ce : Cell) (q : Addr) (H1 : Heap) (locs1 : List Loc), o = some E → va_P D vwCl W0 H1 → va_D A W0 → va_S A H0 H1 locs1 → H1[q]? = some ce → ce.vm = .none → s.vm.findClass E = some ce.cls → vx_W p l e R s m args below meth c H1 locs1 (cells + mc) (slots + ms) Q (F0 m pc ls rest) q)
    (kk : ∀ (H1 : Heap) (locs1 : List Loc), o = none → va_P D vwCl W1 H1 → va_D A W1 → va_S A H0 H1 locs1 → W p l e R s m args below meth c H1 locs1 (cells + mc) (slots + ms) Q (F0 m (pc + 3) ls (.int val :: rest))) : W p l e R s m args below meth c H locs cells slots Q (F0 m pc ls st0) := by
  have hF := sp.F hD hS hA
  refine vx_calli hr hS (fun q _ h => hF q h) hF (fun q _ h => hF q h) (fun E ce q9 u t H1 locs1 ht _ _ hB _ hk hS1 hce hcv hcl => ?_) (fun r u t H1 locs1 ht _ hpost hB hz hk hS1 => ?_)
  · obtain ⟨hoo, hB⟩ := hB
    rw [ht] at hB
    exact kx E ce q9 H1 locs1 hoo (sp.back.join hP hD hk hB) hD hS1 hce hcv hcl
  · obtain ⟨hon, rfl⟩ := hpost
    rw [ht] at hB
    exact kk H1 locs1 hon (sp.join hP hD hk hB) (cu_D_fst sp.fst hD) hS1
end CUXC
end
section
/-! the shop's world: its places -/
theorem cu_row_at {a : Nat → Nat} {b : Nat} {K : Nat → Nat → Int32} {i : Nat} (h : i < 10) : (cu_row a b K)[i]? = some (a (b + i), .inr (0, cu_ck (K i))) := by
  simp [cu_row, h]
theorem cu_row_len {a : Nat → Nat} {b : Nat} {K : Nat → Nat → Int32} : (cu_row a b K).length = 10 := by simp [cu_row]
theorem cu_row_set {a : Nat → Nat} {b : Nat} {K : Nat → Nat → Int32} {i : Nat} (h : i < 10) (k' : Nat → Int32) : (cu_row a b K).set i (a (b + i), .inr (0, cu_ck k')) = cu_row a b (va_up K i k') := by
  apply List.ext_getElem?
  intro j
  by_cases hj : j = i
  · subst hj
    rw [List.getElem?_set_self (by rw [cu_row_len]; exact h), cu_row_at h, va_up_self]
  · rw [List.getElem?_set_ne (Ne.symm hj)]
    by_cases hj2 : j < 10
    · rw [cu_row_at hj2, cu_row_at hj2, va_up_ne _ _ hj]
    · rw [List.getElem?_eq_none (by rw [cu_row_len]; omega), List.getElem?_eq_none (by rw [cu_row_len]; omega)]
section CW
variable {C : Nat → ClassId} {a : Nat → Nat} {n m : Int32} {K P : Nat → Nat → Int32} {i : Nat}
theorem cu_cw_K (h : i < 10) : (cu_cw C a n m K P)[3 + i]? = some (a (3 + i), .inr (0, cu_ck (K i))) := by
  rw [show 3 + i = ((i + 1) + 1) + 1 by omega]
  unfold cu_cw
  rw [List.getElem?_cons_succ, List.getElem?_cons_succ, List.getElem?_cons_succ, List.getElem?_append_left (by rw [cu_row_len]; exact h), cu_row_at h]
  rw [show 3 + i = ((i + 1) + 1) + 1 by omega]
theorem cu_cw_P (h : i < 10) : (cu_cw C a n m K P)[13 + i]? = some (a (13 + i), .inr (0, cu_ck (P i))) := by
  rw [show 13 + i = (((10 + i) + 1) + 1) + 1 by omega]
  unfold cu_cw
  rw [List.getElem?_cons_succ, List.getElem?_cons_succ, List.getElem?_cons_succ, List.getElem?_append_right (by rw [cu_row_len]; omega), cu_row_len, show 10 + i - 10 = i by omega, cu_row_at h]
  rw [show 13 + i = (((10 + i) + 1) + 1) + 1 by omega]
theorem cu_cw_setK (h : i < 10) (k' : Nat → Int32) : (cu_cw C a n m K P).set (3 + i) (a (3 + i), .inr (0, cu_ck k')) = cu_cw C a n m (va_up K i k') P := by
  unfold cu_cw
  rw [show (3 : Nat) + i = ((i + 1) + 1) + 1 by omega, List.set_cons_succ, List.set_cons_succ, List.set_cons_succ, List.set_append_left i _ (by rw [cu_row_len]; exact h), ← cu_row_set h k']
  rw [show (3 : Nat) + i = ((i + 1) + 1) + 1 by omega]
theorem cu_cw_setP (h : i < 10) (k' : Nat → Int32) : (cu_cw C a n m K P).set (13 + i) (a (13 + i), .inr (0, cu_ck k')) = cu_cw C a n m K (va_up P i k') := by
  unfold cu_cw
  rw [show (13 : Nat) + i = (((10 + i) + 1) + 1) + 1 by omega, List.set_cons_succ, List.set_cons_succ, List.set_cons_succ, List.set_append_right _ _ (by rw [cu_row_len]; omega), cu_row_len, show 10 + i - 10 = i by omega, ← cu_row_set h k']
  rw [show (13 : Nat) + i = (((10 + i) + 1) + 1) + 1 by omega]
theorem cu_spK (h : i < 10) (k' : Nat → Int32) : cu_sp (cu_cw C a n m K P) (cu_wc (a (3 + i)) (K i)) (cu_cw C a n m (va_up K i k') P) (cu_wc (a (3 + i)) k') := by
  have h1 := cu_sp.one (.inr (0, cu_ck k')) (cu_cw_K (C := C) (a := a) (n := n) (m := m) (K := K) (P := P) h)
  rw [cu_cw_setK h] at h1
  exact h1
theorem cu_spP (h : i < 10) (k' : Nat → Int32) : cu_sp (cu_cw C a n m K P) (cu_wc (a (13 + i)) (P i)) (cu_cw C a n m K (va_up P i k')) (cu_wc (a (13 + i)) k') := by
  have h1 := cu_sp.one (.inr (0, cu_ck k')) (cu_cw_P (C := C) (a := a) (n := n) (m := m) (K := K) (P := P) h)
  rw [cu_cw_setP h] at h1
  exact h1
theorem cu_spC (h : i < 10) : cu_sp (cu_cw C a n m K P) [(a (13 + i), .inr (0, cu_ck (P i))), (a (3 + i), .inr (0, cu_ck (K i)))] (cu_cw C a n m K (va_up P i (K i))) [(a (13 + i), .inr (0, cu_ck (K i))), (a (3 + i), .inr (0, cu_ck (K i)))] := by
  have h1 := cu_sp.two (.inr (0, cu_ck (K i))) (cu_cw_P (C := C) (a := a) (n := n) (m := m) (K := K) (P := P) h) (cu_cw_K h) (by omega)
  rw [cu_cw_setP h] at h1
  exact h1
/-- the addresses are what they were, whatever the clocks hold -/
theorem cu_cw_fst {n' m' : Int32} {K' P' : Nat → Nat → Int32} : (cu_cw C a n' m' K' P').map Prod.fst = (cu_cw C a n m K P).map Prod.fst := by
  simp [cu_cw, cu_row]
  rfl
variable {p : Program} {l : Launch} {e : Env} {R : Room} {s : State} {mm : MethodId} {args : Array Value} {below : List Frame} {meth : Method} {c : Code} {H : Heap} {locs : List Loc} {cells slots : Nat} {Q : State → Prop} {cc : ByteArray} {pc : Nat} {ls : Array Slot} {rest : List Value} {D : va_G}
theorem cu_aaldK (h : i < 10) (hx : p.tables.exec = Jvm.exec) (hb : c.code = cc) (hK : va_K D vwCl (cu_tys C) s) (hP : va_P D vwCl (cu_cw C a n m K P) H) (hdg : decode cc pc = .ok (.aaload, 1))
    (k : W p l e R s mm args below meth c H locs cells slots Q (F0 mm (pc + 1) ls (.ref (a (3 + i)) :: rest))) : W p l e R s mm args below meth c H locs cells slots Q (F0 mm pc ls (.int (nI i) :: .ref (a 1) :: rest)) := by
  refine va_aldq (n := 10) (f := fun i => some (a (3 + i))) hx hb hK hP 1 1 rfl rfl (vp_in_nI h (by decide)) hdg ?_
  rw [nI_clamp (by omega)]
  exact k
theorem cu_aaldP (h : i < 10) (hx : p.tables.exec = Jvm.exec) (hb : c.code = cc) (hK : va_K D vwCl (cu_tys C) s) (hP : va_P D vwCl (cu_cw C a n m K P) H) (hdg : decode cc pc = .ok (.aaload, 1))
    (k : W p l e R s mm args below meth c H locs cells slots Q (F0 mm (pc + 1) ls (.ref (a (13 + i)) :: rest))) : W p l e R s mm args below meth c H locs cells slots Q (F0 mm pc ls (.int (nI i) :: .ref (a 2) :: rest)) := by
  refine va_aldq (n := 10) (f := fun i => some (a (13 + i))) hx hb hK hP 2 1 rfl rfl (vp_in_nI h (by decide)) hdg ?_
  rw [nI_clamp (by omega)]
  exact k
end CW
theorem cu_top {p : Program} {l : Launch} {e : Env} {R : Room} {s : State} {m : MethodId} {args : Array Value} {below : List Frame} {meth : Method} {c : Code} {H : Heap} {locs : List Loc} {cells slots : Nat} {Q : State → Prop} {pc : Nat} {ls : Array Slot} {rest : List Value} {x x' : Int32} (h : x = x') (k : W p l e R s m args below meth c H locs cells slots Q (F0 m pc ls (.int x' :: rest))) : W p l e R s m args below meth c H locs cells slots Q (F0 m pc ls (.int x :: rest)) := by rw [h]; exact k
end
section
/-! WHAT THE SHOP DOES, in numbers: N clocks K, the minute m -/
def k_isW (x lo hi : Int32) : Int32 := if x < lo then 0 else if hi < x then 0 else 1
def k_tt (m : Int32) : Int32 := k_fm m 720
def k_off (K : Nat → Int32) (m : Int32) : Int32 := k_fm (K 0 - k_tt m + 360) 720 - 360
def k_sum (f : Nat → Int32) : Nat → Int32
  | 0 => 0
  | n + 1 => k_sum f n + f n
def k_all (N : Nat) (K : Nat → Nat → Int32) (w : Int32) : Int32 := k_sum (fun c => k_read (K c) w) N
def k_offs (N : Nat) (K : Nat → Nat → Int32) (m : Int32) : Int32 := k_sum (fun c => k_abs (k_off (K c) m)) N
def k_trues (N : Nat) (K : Nat → Nat → Int32) (m : Int32) : Int32 := k_sum (fun c => if k_off (K c) m = 0 then 1 else 0) N
def k_tally (N : Nat) (K : Nat → Nat → Int32) (m w : Int32) : Int32 :=
  if w = 0 then m else if w = 1 then k_tt m else if w = 2 then nI N else if w = 3 then k_all N K 5 else if w = 4 then k_all N K 7 else if w = 5 then k_all N K 9 else if w = 6 then k_trues N K m else k_offs N K m
def k_upto (g : (Nat → Int32) → Nat → Int32) (K : Nat → Nat → Int32) (i : Nat) : Nat → Nat → Int32 := fun j => if j < i then g (K j) else K j
def k_cpy (K P : Nat → Nat → Int32) (i : Nat) : Nat → Nat → Int32 := fun j => if j < i then K j else P j
/-- the calls of a minute -/
def k_lat (N : Nat) (v : Int32) (K : Nat → Nat → Int32) : Int32 := k_sum (fun c => k_min v (K c) 8) N
/-- the shop i minutes on -/
def k_at (N : Nat) (m : Int32) (K : Nat → Nat → Int32) : Nat → Nat → Nat → Int32
  | 0 => K
  | i + 1 => k_upto (k_min (m + nI i)) (k_at N m K i) N
def k_latest (N : Nat) (m : Int32) (K : Nat → Nat → Int32) (i : Nat) : Int32 := k_lat N (m + nI i) (k_at N m K i)
def k_calls (N : Nat) (m : Int32) (K : Nat → Nat → Int32) (t : Nat) : Int32 := k_sum (k_latest N m K) t
/-- one clock i minutes on -/
def k_at1 (m : Int32) (K : Nat → Int32) : Nat → Nat → Int32
  | 0 => K
  | i + 1 => k_min (m + nI i) (k_at1 m K i)
def k_nextR (m : Int32) (K : Nat → Int32) : Nat → Nat → Int32
  | 0, _ => -1
  | j + 1, i => if k_at1 m K (i + 1) 8 ≤ 0 then k_nextR m K j (i + 1) else nI i + 1
def k_next (m : Int32) (K : Nat → Int32) : Int32 := k_nextR m K 720 0
def k_loud1 (N : Nat) (m : Int32) (K : Nat → Nat → Int32) (i : Nat) (u : Int32 × Int32) : Int32 × Int32 := if k_latest N m K i ≤ u.1 then u else (k_latest N m K i, nI i + 1)
def k_loudR (N : Nat) (m : Int32) (K : Nat → Nat → Int32) : Nat → Nat → Int32 × Int32 → Int32 × Int32
  | 0, _, u => u
  | j + 1, i, u => k_loudR N m K j (i + 1) (k_loud1 N m K i u)
def k_loud (N : Nat) (m : Int32) (K : Nat → Nat → Int32) (t : Nat) : Int32 := (k_loudR N m K t 0 (0, -1)).2
def k_fore (N : Nat) (m : Int32) (K Q : Nat → Nat → Int32) (t : Nat) (w : Int32) : Int32 :=
  if w = 0 then k_calls N m Q t else if w = 1 then k_all N (k_at N m Q t) 8 - k_all N K 8 else if w = 2 then k_all N (k_at N m Q t) 5 else k_offs N (k_at N m Q t) (m + nI t)
def k_nextS (m : Int32) (K : Nat → Int32) : Nat → Nat → Nat → Int32
  | 0, i => k_at1 m K i
  | j + 1, i => if k_at1 m K (i + 1) 8 ≤ 0 then k_nextS m K j (i + 1) else k_at1 m K (i + 1)
def k_mendV (K : Nat → Int32) (w : Int32) : Int32 := if w = 0 then 100 - K 3 else if w = 1 then 60 - K 4 else k_nudge K
def k_mendK (K : Nat → Int32) (w : Int32) : Nat → Int32 := if w = 0 then upd K 3 100 else if w = 1 then upd K 4 60 else upd K 5 (k_nudge K)
theorem k_m0 (m : Int32) : m + nI 0 = m := by rw [nI_0, Int32.add_zero]
def k_goSum (N : Nat) (K : Nat → Nat → Int32) : Int32 := k_sum (fun c => if K c 5 = 0 then 0 else 1) N
def k_advSum (N : Nat) (K : Nat → Nat → Int32) : Int32 := k_sum (fun c => if K c 5 = 0 then 0 else k_adv (K c)) N
def k_mean (N : Nat) (K : Nat → Nat → Int32) : UInt64 := if k_goSum N K = 0 then FP.dconst0 else FP.ddiv (FP.i2d (k_advSum N K)) (FP.i2d (k_goSum N K))
def k_digT (N : Nat) (K : Nat → Nat → Int32) (m : Int32) : Nat → Int64
  | 0 => 1009
  | i + 1 => k_digT N K m i * 31 + (k_tally N K m (nI i)).toInt64
def k_digC (K : Nat → Nat → Int32) (d : Int64) : Nat → Int64
  | 0 => d
  | i + 1 => k_mix (K i) (k_digC K d i)
def k_dig (N : Nat) (K : Nat → Nat → Int32) (m : Int32) : Int64 := k_digC K (k_digT N K m 8) N
-- which exception a call throws
def k_oC (N : Nat) (v : Int32) : Option String := if v < 0 then some x_IOB else if v < nI N then none else some x_IOB
def k_oT (v : Int32) : Option String := if k_isW v 0 719 = 0 then some x_IAE else none
def k_oM (v : Int32) : Option String := if k_isW v 1 720 = 0 then some x_IAE else none
def k_oN (N : Nat) : Option String := if nI N < 10 then none else some x_ISE
def k_oG (a b s : Int32) : Option String := if k_isW a 20 40 = 0 then some x_IAE else if k_isW b 20 40 = 0 then some x_IAE else if k_isW s (-20) 20 = 0 then some x_IAE else none
def k_oE (v : Int32) : Option String := if v = 0 then none else if v = 1 then none else if v = 2 then none else some x_IAE
def k_oS3 (f t : Int32) : Option String := if f = -1 then (if t = 0 then none else some x_IAE) else none
def k_oS (f t : Int32) : Option String := (if f = -1 then none else k_oT f).or ((k_oT t).or (k_oS3 f t))
def k_oR (w : Int32) : Option String := if k_isW w 0 10 = 0 then some x_IOB else none
def k_oY (w : Int32) : Option String := if k_isW w 0 7 = 0 then some x_IOB else none
def k_oF (w : Int32) : Option String := if k_isW w 0 3 = 0 then some x_IOB else none
theorem k_oC_in {N : Nat} {v : Int32} (hN : N ≤ 10) (h : k_oC N v = none) : ∃ i : Nat, i < N ∧ v = nI i := by
  unfold k_oC at h
  rcases pk_ix v (n := N) (by omega) with h1 | h1 | h1
  · rw [if_pos h1] at h; cases h
  · by_cases h2 : v < 0
    · rw [if_pos h2] at h; cases h
    · rw [if_neg h2] at h
      by_cases h3 : v < nI N
      · exact absurd h3 (Int32.not_lt.mpr h1)
      · rw [if_neg h3] at h; cases h
  · exact h1
theorem k_oM_in {v : Int32} (h : k_oM v = none) : ∃ t : Nat, 1 ≤ t ∧ t ≤ 720 ∧ v = nI t := by
  unfold k_oM k_isW at h
  by_cases h1 : v < 1
  · rw [if_pos h1] at h; simp at h
  · rw [if_neg h1] at h
    by_cases h2 : 720 < v
    · rw [if_pos h2] at h; simp at h
    · have e1 : ¬ v.toInt < 1 := fun z => h1 (Int32.lt_iff_toInt_lt.mpr z)
      have e2 : ¬ 720 < v.toInt := fun z => h2 (Int32.lt_iff_toInt_lt.mpr z)
      obtain ⟨t, ht, e⟩ := nI_of (x := v) (fun z => e1 (by have := Int32.lt_iff_toInt_lt.mp z; have e0 : (0 : Int32).toInt = 0 := rfl; omega))
      subst e
      rw [nI_toInt ht] at e1 e2
      exact ⟨t, by omega, by omega, rfl⟩
theorem k_upto_0 {g : (Nat → Int32) → Nat → Int32} {K : Nat → Nat → Int32} : k_upto g K 0 = K := by funext j; simp [k_upto]
theorem k_upto_i {g : (Nat → Int32) → Nat → Int32} {K : Nat → Nat → Int32} {i : Nat} : k_upto g K i i = K i := by simp [k_upto]
theorem k_upto_s {g : (Nat → Int32) → Nat → Int32} {K : Nat → Nat → Int32} {i : Nat} : va_up (k_upto g K i) i (g (K i)) = k_upto g K (i + 1) := by
  funext j
  by_cases h : j = i
  · subst h; rw [va_up_self]; simp [k_upto]
  · rw [va_up_ne _ _ h]
    simp only [k_upto]
    by_cases h2 : j < i
    · rw [if_pos h2, if_pos (by omega)]
    · rw [if_neg h2, if_neg (by omega)]
theorem k_cpy_0 {K P : Nat → Nat → Int32} : k_cpy K P 0 = P := by funext j; simp [k_cpy]
theorem k_cpy_s {K P : Nat → Nat → Int32} {i : Nat} : va_up (k_cpy K P i) i (K i) = k_cpy K P (i + 1) := by
  funext j
  by_cases h : j = i
  · subst h; rw [va_up_self]; simp [k_cpy]
  · rw [va_up_ne _ _ h]
    simp only [k_cpy]
    by_cases h2 : j < i
    · rw [if_pos h2, if_pos (by omega)]
    · rw [if_neg h2, if_neg (by omega)]
end
section
set_option maxHeartbeats 4000000 in
set_option maxRecDepth 100000 in
theorem m_J9_floorMod_7cf53 (l : Launch) (D : va_G) (C : Nat → ClassId) (v1 v2 : Int32) (hy0 : ¬ v2 = 0) : cu_I l D C yJ9_floorMod_7cf53 wsJ9_floorMod_7cf53 { frames := 0, cells := 0, slots := 0, locals := 0 } [.int v1, .int v2] ([] : va_W) ([] : va_W) (k_fm v1 v2) 0 0 := by
  refine cu_openIF (cc := cJ9_floorMod_7cf53) (maxL := 3) (ty := .int) (own := RJ9) (by decide +kernel) rfl rfl (Nat.le_of_ble_eq_true rfl) ?_
  intro p e s m args below meth c A Z H0 ls e0 hx hb hml hts hown hnm hG hP hD hS hA hl fin
  have hK := hG.1
  have hl : lv_has ls 3 [(0, .int v1), (1, .int v2)] := hl
  refine lv_iload_n hx hb dJ9_floorMod_7cf53_0 rfl (lv_at hl 0 rfl) ?_
  refine lv_iload_n hx hb dJ9_floorMod_7cf53_1 rfl (lv_at hl 1 rfl) ?_
  refine lv_irem hx hb dJ9_floorMod_7cf53_2 hy0 ?_
  refine lv_istore_n (lv' := [(2, .int (v1 - v1 / v2 * v2)), (0, .int v1), (1, .int v2)]) hx hb dJ9_floorMod_7cf53_3 rfl hl (by decide) rfl (fun ls hl => ?_)
  refine lv_iload_n hx hb dJ9_floorMod_7cf53_4 rfl (lv_at hl 1 rfl) ?_
  refine lv_iload_n hx hb dJ9_floorMod_7cf53_5 rfl (lv_at hl 2 rfl) ?_
  refine lv_ixor hx hb dJ9_floorMod_7cf53_6 ?_
  refine lv_if_ge (tgt := 18) hx hb dJ9_floorMod_7cf53_7 (by decide) (fun c_7 => ?_) (fun c_7 => ?_)
  · refine lv_iload_n hx hb dJ9_floorMod_7cf53_18 rfl (lv_at hl 0 rfl) ?_
    exact fin _ _ _ _ _ rfl (by simp only [k_fm, if_pos c_7, reduceIte]) hP hS dJ9_floorMod_7cf53_19
  · refine lv_iload_n hx hb dJ9_floorMod_7cf53_10 rfl (lv_at hl 0 rfl) ?_
    refine lv_if_eq (tgt := 18) hx hb dJ9_floorMod_7cf53_11 (by decide) (fun c_11 => ?_) (fun c_11 => ?_)
    · refine lv_iload_n hx hb dJ9_floorMod_7cf53_18 rfl (lv_at hl 0 rfl) ?_
      exact fin _ _ _ _ _ rfl (by simp only [k_fm, if_neg c_7, if_pos c_11, reduceIte]) hP hS dJ9_floorMod_7cf53_19
    · refine lv_iload_n hx hb dJ9_floorMod_7cf53_14 rfl (lv_at hl 0 rfl) ?_
      refine lv_iload_n hx hb dJ9_floorMod_7cf53_15 rfl (lv_at hl 2 rfl) ?_
      refine lv_iadd hx hb dJ9_floorMod_7cf53_16 ?_
      exact fin _ _ _ _ _ rfl (by simp only [k_fm, if_neg c_7, if_neg c_11, reduceIte]) hP hS dJ9_floorMod_7cf53_17

set_option maxHeartbeats 4000000 in
set_option maxRecDepth 100000 in
theorem m_X1_isWithin (l : Launch) (D : va_G) (C : Nat → ClassId) (v1 : Int32) (v2 : Int32) (v3 : Int32) : cu_I l D C yX1_isWithin wsX1_isWithin { frames := 0, cells := 0, slots := 0, locals := 0 } [.int v1, .int v2, .int v3] ([] : va_W) ([] : va_W) (k_isW v1 v2 v3) 0 0 := by
  refine cu_openI (cc := cX1_isWithin) (maxL := 3) (ty := .boolean) (own := RX1) (by decide) rfl rfl (Nat.le_of_ble_eq_true rfl) ?_
  intro p e s m args below meth c A Z H0 ls e0 hx hb hml hts hown hnm hG hP hD hS hA hl fin
  have hK := hG.1
  have hl : lv_has ls 3 [(0, .int v1), (1, .int v2), (2, .int v3)] := hl
  refine lv_iload_n hx hb dX1_isWithin_0 rfl (lv_at hl 0 rfl) ?_
  refine lv_iload_n hx hb dX1_isWithin_1 rfl (lv_at hl 1 rfl) ?_
  refine lv_icmp_lt (tgt := 14) hx hb dX1_isWithin_2 (by decide) (fun c_2 => ?_) (fun c_2 => ?_)
  · refine lv_iconst (v := 0) hx hb dX1_isWithin_14 (by decide) ?_
    exact fin _ _ _ _ _ (by decide) (by simp only [k_isW, if_pos c_2, reduceIte]) hP hS dX1_isWithin_15
  · refine lv_iload_n hx hb dX1_isWithin_5 rfl (lv_at hl 0 rfl) ?_
    refine lv_iload_n hx hb dX1_isWithin_6 rfl (lv_at hl 2 rfl) ?_
    refine lv_icmp_gt (tgt := 14) hx hb dX1_isWithin_7 (by decide) (fun c_7 => ?_) (fun c_7 => ?_)
    · refine lv_iconst (v := 0) hx hb dX1_isWithin_14 (by decide) ?_
      exact fin _ _ _ _ _ (by decide) (by simp only [k_isW, if_neg c_2, if_pos c_7, reduceIte]) hP hS dX1_isWithin_15
    · refine lv_iconst (v := 1) hx hb dX1_isWithin_10 (by decide) ?_
      refine lv_goto (tgt := 15) hx hb dX1_isWithin_11 (by decide) ?_
      exact fin _ _ _ _ _ (by decide) (by simp only [k_isW, if_neg c_2, if_neg c_7, reduceIte]) hP hS dX1_isWithin_15

set_option maxHeartbeats 4000000 in
set_option maxRecDepth 100000 in
theorem m_X1_trueTime (l : Launch) (D : va_G) (C : Nat → ClassId) (v1 : Int32) : cu_I l D C yX1_trueTime wsX1_trueTime { frames := 1, cells := 0, slots := 0, locals := 22 } [.int v1] ([] : va_W) ([] : va_W) (k_tt v1) 0 0 := by
  refine cu_openI (cc := cX1_trueTime) (maxL := 1) (ty := .int) (own := RX1) (by decide) rfl rfl (Nat.le_of_ble_eq_true rfl) ?_
  intro p e s m args below meth c A Z H0 ls e0 hx hb hml hts hown hnm hG hP hD hS hA hl fin
  have hK := hG.1
  have hl : lv_has ls 1 [(0, .int v1)] := hl
  refine lv_iload_n hx hb dX1_trueTime_0 rfl (lv_at hl 0 rfl) ?_
  refine lv_sipush (v := 720) hx hb dX1_trueTime_1 (by decide) ?_
  have sp := cu_sp.nil (W0 := ([] : va_W))
  refine cu_callI (va_runS (As := [.int v1, .int 720]) (rest := []) ⟨hx, hb, hml, hown, hts⟩ ((m_J9_floorMod_7cf53 l D C v1 720 (by decide)) H0.size) (va_cwS 2 hts gX1_trueTime_J9_floorMod_7cf53 rfl rfl rfl (by decide +kernel) ⟨Nat.le_of_ble_eq_true rfl, Nat.le_of_ble_eq_true rfl⟩) (cu_preS sp hG hP hD) rfl rfl hl.1 rfl (lv_room (Nat.le_of_ble_eq_true rfl)) dX1_trueTime_4 ⟨Nat.le_of_ble_eq_true rfl, Nat.le_of_ble_eq_true rfl⟩) sp hP hD hS hA (fun H locs hP hD hS => ?_)
  exact fin _ _ _ _ _ rfl (by rfl) hP hS dX1_trueTime_7

set_option maxHeartbeats 4000000 in
set_option maxRecDepth 100000 in
theorem m_X1_offOf (l : Launch) (D : va_G) (C : Nat → ClassId) (h0 : Nat) (K : Nat → Int32) (v1 : Int32) : cu_I l D C yX1_offOf wsX1_offOf { frames := 2, cells := 0, slots := 0, locals := 42 } [.ref h0, .int v1] (cu_wc h0 K) (cu_wc h0 K) (k_off K v1) 0 0 := by
  refine cu_openI (cc := cX1_offOf) (maxL := 3) (ty := .int) (own := RX1) (by decide) rfl rfl (Nat.le_of_ble_eq_true rfl) ?_
  intro p e s m args below meth c A Z H0 ls e0 hx hb hml hts hown hnm hG hP hD hS hA hl fin
  have hK := hG.1
  have hl : lv_has ls 3 [(0, .ref h0), (1, .int v1)] := hl
  have hiX0 : ∀ w ∈ wsX00, w ∈ wsX1_offOf := by decide +kernel
  refine lv_aload_n hx hb dX1_offOf_0 rfl (lv_at hl 0 rfl) ?_
  refine va_getN (host := RX1) (D := D) (ci := 0) (v := .int (K 0)) (C := RX0) (T := TX0) (N := 14) hx hb hts hiX0 hown hK hP 0 rfl rfl 7 (by decide) (va_Nw.use rfl (hG.2.2.1 (157, "shown", "I") (by decide +kernel))) (fun _ h9 => h9) rfl dX1_offOf_1 ?_
  refine lv_iload_n hx hb dX1_offOf_4 rfl (lv_at hl 1 rfl) ?_
  have sp := cu_sp.nil (W0 := (cu_wc h0 K))
  refine cu_callI (va_runS (As := [.int v1]) (rest := [.int (K 0)]) ⟨hx, hb, hml, hown, hts⟩ ((m_X1_trueTime l D C v1) H0.size) (va_cwS 1 hts gX1_offOf_X1_trueTime rfl rfl rfl (by decide +kernel) ⟨Nat.le_of_ble_eq_true rfl, Nat.le_of_ble_eq_true rfl⟩) (cu_preS sp hG hP hD) rfl rfl hl.1 rfl (lv_room (Nat.le_of_ble_eq_true rfl)) dX1_offOf_5 ⟨Nat.le_of_ble_eq_true rfl, Nat.le_of_ble_eq_true rfl⟩) sp hP hD hS hA (fun H locs hP hD hS => ?_)
  refine lv_isub hx hb dX1_offOf_8 ?_
  refine lv_istore_n (lv' := [(2, .int ((K 0) - (k_tt v1))), (0, .ref h0), (1, .int v1)]) hx hb dX1_offOf_9 rfl hl (by decide) rfl (fun ls hl => ?_)
  refine lv_iload_n hx hb dX1_offOf_10 rfl (lv_at hl 0 rfl) ?_
  refine lv_sipush (v := 360) hx hb dX1_offOf_11 (by decide) ?_
  refine lv_iadd hx hb dX1_offOf_14 ?_
  refine lv_sipush (v := 720) hx hb dX1_offOf_15 (by decide) ?_
  have sp := cu_sp.nil (W0 := (cu_wc h0 K))
  refine cu_callI (va_runS (As := [.int (((K 0) - (k_tt v1)) + 360), .int 720]) (rest := []) ⟨hx, hb, hml, hown, hts⟩ ((m_J9_floorMod_7cf53 l D C (((K 0) - (k_tt v1)) + 360) 720 (by decide)) H.size) (va_cwS 2 hts gX1_offOf_J9_floorMod_7cf53 rfl rfl rfl (by decide +kernel) ⟨Nat.le_of_ble_eq_true rfl, Nat.le_of_ble_eq_true rfl⟩) (cu_preS sp hG hP hD) rfl rfl hl.1 rfl (lv_room (Nat.le_of_ble_eq_true rfl)) dX1_offOf_18 ⟨Nat.le_of_ble_eq_true rfl, Nat.le_of_ble_eq_true rfl⟩) sp hP hD hS hA (fun H locs hP hD hS => ?_)
  refine lv_sipush (v := 360) hx hb dX1_offOf_21 (by decide) ?_
  refine lv_isub hx hb dX1_offOf_24 ?_
  exact fin _ _ _ _ _ rfl (by rfl) hP hS dX1_offOf_25

set_option maxHeartbeats 4000000 in
set_option maxRecDepth 100000 in
theorem m_X1_runRow (l : Launch) (D : va_G) (C : Nat → ClassId) (a : Nat → Nat) (N : Nat) (hN : N ≤ 10) (mn : Int32) (K P : Nat → Nat → Int32) (v1 : Int32) : cu_I l D C yX1_runRow wsX1_runRow { frames := 4, cells := 0, slots := 0, locals := 86 } [.ref (a 0), .ref (a 1), .int v1] (cu_cw C a (nI N) mn K P) (cu_cw C a (nI N) mn (k_upto (k_min v1) K N) P) (k_lat N v1 K) 0 0 := by
  refine cu_openI (cc := cX1_runRow) (maxL := 5) (ty := .int) (own := RX1) (by decide) rfl rfl (Nat.le_of_ble_eq_true rfl) ?_
  intro p e s m args below meth c A Z H0 ls e0 hx hb hml hts hown hnm hG hP hD hS hA hl fin
  have hK := hG.1
  have hl : lv_has ls 5 [(0, .ref (a 0)), (1, .ref (a 1)), (2, .int v1)] := hl
  have hiX0 : ∀ w ∈ wsX00, w ∈ wsX1_runRow := by decide +kernel
  have hiX1 : ∀ w ∈ wsX10, w ∈ wsX1_runRow := by decide +kernel
  refine lv_iconst (v := 0) hx hb dX1_runRow_0 (by decide) ?_
  refine lv_istore_n (lv' := [(3, .int 0), (0, .ref (a 0)), (1, .ref (a 1)), (2, .int v1)]) hx hb dX1_runRow_1 rfl hl (by decide) rfl (fun ls hl => ?_)
  refine lv_iconst (v := 0) hx hb dX1_runRow_2 (by decide) ?_
  refine lv_istore (lv' := [(4, .int 0), (3, .int 0), (0, .ref (a 0)), (1, .ref (a 1)), (2, .int v1)]) hx hb dX1_runRow_3 hl (by decide) rfl (fun ls hl => ?_)
  rw [← k_upto_0 (g := k_min v1) (K := K)] at hP hD
  have loop : ∀ (j : Nat), ∀ (i : Nat), i + j = N → ∀ (H : Heap) (locs : List Loc) (ls : Array Slot), va_P D vwCl (cu_cw C a (nI N) mn (k_upto (k_min v1) K i) P) H → va_D A (cu_cw C a (nI N) mn (k_upto (k_min v1) K i) P) → va_S A H0 H locs → lv_has ls 5 [(0, .ref (a 0)), (1, .ref (a 1)), (2, .int v1), (3, .int (k_sum (fun c => k_min v1 (K c) 8) i)), (4, .int (nI i))] → W p l e { frames := 4, cells := 0, slots := 0, locals := 86 } s m args below meth c H locs 0 0 Z (F0 m 5 ls []) := by
    intro j
    induction j with
    | zero =>
      intro i hj H locs ls hP hD hS hl
      have eN : i = N := by omega
      refine lv_iload hx hb dX1_runRow_5 (lv_at hl 4 rfl) ?_
      refine lv_aload_n hx hb dX1_runRow_7 rfl (lv_at hl 0 rfl) ?_
      refine va_get (D := D) (ci := 1) (v := .int (nI N)) (C := RX1) (T := TX1) (N := 4) hx hb hts hiX1 hown hK hP 0 rfl rfl 2 (by decide) (hts (.fieldLink RX1 19 "CuckooShop" "present" "I") (by decide +kernel)) (fun _ h9 => h9) rfl dX1_runRow_8 ?_
      refine lv_icmp_ge (tgt := 38) hx hb dX1_runRow_11 (by decide) (fun c_11 => ?_) (fun c_11 => absurd (nI_le (a := N) (by omega) (by omega)) c_11)
      refine lv_iload_n hx hb dX1_runRow_38 rfl (lv_at hl 3 rfl) ?_
      exact fin _ _ _ _ _ rfl (by rw [eN]; rfl) (by rw [eN] at hP; exact hP) hS dX1_runRow_39
    | succ j ih =>
      intro i hj H locs ls hP hD hS hl
      have hi : i < 10 := by omega
      refine lv_iload hx hb dX1_runRow_5 (lv_at hl 4 rfl) ?_
      refine lv_aload_n hx hb dX1_runRow_7 rfl (lv_at hl 0 rfl) ?_
      refine va_get (D := D) (ci := 1) (v := .int (nI N)) (C := RX1) (T := TX1) (N := 4) hx hb hts hiX1 hown hK hP 0 rfl rfl 2 (by decide) (hts (.fieldLink RX1 19 "CuckooShop" "present" "I") (by decide +kernel)) (fun _ h9 => h9) rfl dX1_runRow_8 ?_
      refine lv_icmp_ge (tgt := 38) hx hb dX1_runRow_11 (by decide) (fun c_11 => absurd c_11 (nI_ge (b := N) (by omega) (by omega))) (fun c_11 => ?_)
      refine lv_aload_n hx hb dX1_runRow_14 rfl (lv_at hl 1 rfl) ?_
      refine lv_iload hx hb dX1_runRow_15 (lv_at hl 4 rfl) ?_
      refine cu_aaldK hi hx hb hK hP dX1_runRow_17 ?_
      refine lv_iload_n hx hb dX1_runRow_18 rfl (lv_at hl 2 rfl) ?_
      have sp := cu_spK (C := C) (a := a) (n := (nI N)) (m := mn) (K := (k_upto (k_min v1) K i)) (P := P) hi (k_min v1 ((k_upto (k_min v1) K i) i))
      refine cu_callV (va_runVN (As := [.int v1]) (rest := []) ⟨hx, hb, hml, hown, hts⟩ ((m_X0_runMinute l D C (a (3 + i)) ((k_upto (k_min v1) K i) i) v1) H.size) ⟨(va_cnB 1 hts gX1_runRow_X0_runMinute_n111 rfl rfl rfl (hG.2.1 (111, yX0_runMinute) (by decide +kernel)) (hts (.initialized RX0) (by decide +kernel)) (by decide +kernel) ⟨Nat.le_of_ble_eq_true rfl, Nat.le_of_ble_eq_true rfl⟩), hts (.instanceMethod yX0_runMinute) (by decide +kernel), hts (.selects RX0 yX0_runMinute yX0_runMinute) (by decide +kernel)⟩ (cu_preV (ci := 0) sp hG hP hD rfl rfl) rfl rfl hl.1 rfl (lv_room (Nat.le_of_ble_eq_true rfl)) dX1_runRow_19 ⟨Nat.le_of_ble_eq_true rfl, Nat.le_of_ble_eq_true rfl⟩) sp hP hD hS hA (fun H locs hP hD hS => ?_)
      have hP : va_P D vwCl (cu_cw C a (nI N) mn (va_up (k_upto (k_min v1) K i) i (k_min v1 ((k_upto (k_min v1) K i) i))) P) H := hP
      have hD : va_D A (cu_cw C a (nI N) mn (va_up (k_upto (k_min v1) K i) i (k_min v1 ((k_upto (k_min v1) K i) i))) P) := hD
      rw [k_upto_i, k_upto_s] at hP hD
      refine lv_iload_n hx hb dX1_runRow_22 rfl (lv_at hl 3 rfl) ?_
      refine lv_aload_n hx hb dX1_runRow_23 rfl (lv_at hl 1 rfl) ?_
      refine lv_iload hx hb dX1_runRow_24 (lv_at hl 4 rfl) ?_
      refine cu_aaldK hi hx hb hK hP dX1_runRow_26 ?_
      refine va_getN (host := RX1) (D := D) (ci := 0) (v := .int (((k_upto (k_min v1) K (i + 1)) i) 8)) (C := RX0) (T := TX0) (N := 14) hx hb hts hiX0 hown hK hP (3 + i) (cu_cw_K hi) rfl 13 (by decide) (va_Nw.use rfl (hG.2.2.1 (114, "latestCalls", "I") (by decide +kernel))) (fun _ h9 => h9) rfl dX1_runRow_27 ?_
      refine cu_top (x' := k_min v1 (K i) 8) (by simp [k_upto]) ?_
      refine lv_iadd hx hb dX1_runRow_30 ?_
      refine lv_istore_n (lv' := [(3, .int ((k_sum (fun c => k_min v1 (K c) 8) i) + (k_min v1 (K i) 8))), (0, .ref (a 0)), (1, .ref (a 1)), (2, .int v1), (4, .int (nI i))]) hx hb dX1_runRow_31 rfl hl (by decide) rfl (fun ls hl => ?_)
      refine lv_iinc (v := (nI (i + 1))) (lv' := [(4, .int (nI (i + 1))), (3, .int ((k_sum (fun c => k_min v1 (K c) 8) i) + (k_min v1 (K i) 8))), (0, .ref (a 0)), (1, .ref (a 1)), (2, .int v1)]) hx hb dX1_runRow_32 hl (k := 4) rfl (nI_1 i) (by decide) rfl (fun ls hl => ?_)
      refine lv_goto (tgt := 5) hx hb dX1_runRow_35 (by decide) ?_
      exact ih (i + 1) (by omega) _ _ _ hP hD hS (lv_sub hl [2, 3, 4, 1, 0] rfl)
  exact loop N 0 (by omega) _ _ _ hP hD hS (lv_sub hl [2, 3, 4, 1, 0] rfl)

set_option maxHeartbeats 4000000 in
set_option maxRecDepth 100000 in
theorem m_X1_sumOf (l : Launch) (D : va_G) (C : Nat → ClassId) (a : Nat → Nat) (N : Nat) (hN : N ≤ 10) (mn : Int32) (K P : Nat → Nat → Int32) (v1 : Int32) : cu_I l D C yX1_sumOf wsX1_sumOf { frames := 3, cells := 0, slots := 0, locals := 64 } [.ref (a 0), .ref (a 1), .int v1] (cu_cw C a (nI N) mn K P) (cu_cw C a (nI N) mn K P) (k_all N K v1) 0 0 := by
  refine cu_openI (cc := cX1_sumOf) (maxL := 5) (ty := .int) (own := RX1) (by decide) rfl rfl (Nat.le_of_ble_eq_true rfl) ?_
  intro p e s m args below meth c A Z H0 ls e0 hx hb hml hts hown hnm hG hP hD hS hA hl fin
  have hK := hG.1
  have hl : lv_has ls 5 [(0, .ref (a 0)), (1, .ref (a 1)), (2, .int v1)] := hl
  have hiX1 : ∀ w ∈ wsX10, w ∈ wsX1_sumOf := by decide +kernel
  refine lv_iconst (v := 0) hx hb dX1_sumOf_0 (by decide) ?_
  refine lv_istore_n (lv' := [(3, .int 0), (0, .ref (a 0)), (1, .ref (a 1)), (2, .int v1)]) hx hb dX1_sumOf_1 rfl hl (by decide) rfl (fun ls hl => ?_)
  refine lv_iconst (v := 0) hx hb dX1_sumOf_2 (by decide) ?_
  refine lv_istore (lv' := [(4, .int 0), (3, .int 0), (0, .ref (a 0)), (1, .ref (a 1)), (2, .int v1)]) hx hb dX1_sumOf_3 hl (by decide) rfl (fun ls hl => ?_)
  have loop : ∀ (j : Nat), ∀ (i : Nat), i + j = N → ∀ (H : Heap) (locs : List Loc) (ls : Array Slot), va_P D vwCl (cu_cw C a (nI N) mn K P) H → va_D A (cu_cw C a (nI N) mn K P) → va_S A H0 H locs → lv_has ls 5 [(0, .ref (a 0)), (1, .ref (a 1)), (2, .int v1), (3, .int (k_sum (fun c => k_read (K c) v1) i)), (4, .int (nI i))] → W p l e { frames := 3, cells := 0, slots := 0, locals := 64 } s m args below meth c H locs 0 0 Z (F0 m 5 ls []) := by
    intro j
    induction j with
    | zero =>
      intro i hj H locs ls hP hD hS hl
      have eN : i = N := by omega
      refine lv_iload hx hb dX1_sumOf_5 (lv_at hl 4 rfl) ?_
      refine lv_aload_n hx hb dX1_sumOf_7 rfl (lv_at hl 0 rfl) ?_
      refine va_get (D := D) (ci := 1) (v := .int (nI N)) (C := RX1) (T := TX1) (N := 4) hx hb hts hiX1 hown hK hP 0 rfl rfl 2 (by decide) (hts (.fieldLink RX1 19 "CuckooShop" "present" "I") (by decide +kernel)) (fun _ h9 => h9) rfl dX1_sumOf_8 ?_
      refine lv_icmp_ge (tgt := 31) hx hb dX1_sumOf_11 (by decide) (fun c_11 => ?_) (fun c_11 => absurd (nI_le (a := N) (by omega) (by omega)) c_11)
      refine lv_iload_n hx hb dX1_sumOf_31 rfl (lv_at hl 3 rfl) ?_
      exact fin _ _ _ _ _ rfl (by rw [eN]; rfl) hP hS dX1_sumOf_32
    | succ j ih =>
      intro i hj H locs ls hP hD hS hl
      have hi : i < 10 := by omega
      refine lv_iload hx hb dX1_sumOf_5 (lv_at hl 4 rfl) ?_
      refine lv_aload_n hx hb dX1_sumOf_7 rfl (lv_at hl 0 rfl) ?_
      refine va_get (D := D) (ci := 1) (v := .int (nI N)) (C := RX1) (T := TX1) (N := 4) hx hb hts hiX1 hown hK hP 0 rfl rfl 2 (by decide) (hts (.fieldLink RX1 19 "CuckooShop" "present" "I") (by decide +kernel)) (fun _ h9 => h9) rfl dX1_sumOf_8 ?_
      refine lv_icmp_ge (tgt := 31) hx hb dX1_sumOf_11 (by decide) (fun c_11 => absurd c_11 (nI_ge (b := N) (by omega) (by omega))) (fun c_11 => ?_)
      refine lv_iload_n hx hb dX1_sumOf_14 rfl (lv_at hl 3 rfl) ?_
      refine lv_aload_n hx hb dX1_sumOf_15 rfl (lv_at hl 1 rfl) ?_
      refine lv_iload hx hb dX1_sumOf_16 (lv_at hl 4 rfl) ?_
      refine cu_aaldK hi hx hb hK hP dX1_sumOf_18 ?_
      refine lv_iload_n hx hb dX1_sumOf_19 rfl (lv_at hl 2 rfl) ?_
      have sp := cu_sp.rd (cu_cw_K (C := C) (a := a) (n := (nI N)) (m := mn) (K := K) (P := P) hi)
      refine cu_callI (va_runVN (As := [.int v1]) (rest := [.int (k_sum (fun c => k_read (K c) v1) i)]) ⟨hx, hb, hml, hown, hts⟩ ((m_X0_reading l D C (a (3 + i)) (K i) v1) H.size) ⟨(va_cnB 1 hts gX1_sumOf_X0_reading_n91 rfl rfl rfl (hG.2.1 (91, yX0_reading) (by decide +kernel)) (hts (.initialized RX0) (by decide +kernel)) (by decide +kernel) ⟨Nat.le_of_ble_eq_true rfl, Nat.le_of_ble_eq_true rfl⟩), hts (.instanceMethod yX0_reading) (by decide +kernel), hts (.selects RX0 yX0_reading yX0_reading) (by decide +kernel)⟩ (cu_preV (ci := 0) sp hG hP hD rfl rfl) rfl rfl hl.1 rfl (lv_room (Nat.le_of_ble_eq_true rfl)) dX1_sumOf_20 ⟨Nat.le_of_ble_eq_true rfl, Nat.le_of_ble_eq_true rfl⟩) sp hP hD hS hA (fun H locs hP hD hS => ?_)
      have hP : va_P D vwCl (cu_cw C a (nI N) mn K P) H := hP
      have hD : va_D A (cu_cw C a (nI N) mn K P) := hD
      refine lv_iadd hx hb dX1_sumOf_23 ?_
      refine lv_istore_n (lv' := [(3, .int ((k_sum (fun c => k_read (K c) v1) i) + (k_read (K i) v1))), (0, .ref (a 0)), (1, .ref (a 1)), (2, .int v1), (4, .int (nI i))]) hx hb dX1_sumOf_24 rfl hl (by decide) rfl (fun ls hl => ?_)
      refine lv_iinc (v := (nI (i + 1))) (lv' := [(4, .int (nI (i + 1))), (3, .int ((k_sum (fun c => k_read (K c) v1) i) + (k_read (K i) v1))), (0, .ref (a 0)), (1, .ref (a 1)), (2, .int v1)]) hx hb dX1_sumOf_25 hl (k := 4) rfl (nI_1 i) (by decide) rfl (fun ls hl => ?_)
      refine lv_goto (tgt := 5) hx hb dX1_sumOf_28 (by decide) ?_
      exact ih (i + 1) (by omega) _ _ _ hP hD hS (lv_sub hl [2, 3, 4, 1, 0] rfl)
  exact loop N 0 (by omega) _ _ _ hP hD hS (lv_sub hl [2, 3, 4, 1, 0] rfl)

set_option maxHeartbeats 4000000 in
set_option maxRecDepth 100000 in
theorem m_X1_offOfAll (l : Launch) (D : va_G) (C : Nat → ClassId) (a : Nat → Nat) (N : Nat) (hN : N ≤ 10) (mn : Int32) (K P : Nat → Nat → Int32) (v1 : Int32) : cu_I l D C yX1_offOfAll wsX1_offOfAll { frames := 3, cells := 0, slots := 0, locals := 64 } [.ref (a 0), .ref (a 1), .int v1] (cu_cw C a (nI N) mn K P) (cu_cw C a (nI N) mn K P) (k_offs N K v1) 0 0 := by
  refine cu_openI (cc := cX1_offOfAll) (maxL := 5) (ty := .int) (own := RX1) (by decide) rfl rfl (Nat.le_of_ble_eq_true rfl) ?_
  intro p e s m args below meth c A Z H0 ls e0 hx hb hml hts hown hnm hG hP hD hS hA hl fin
  have hK := hG.1
  have hl : lv_has ls 5 [(0, .ref (a 0)), (1, .ref (a 1)), (2, .int v1)] := hl
  have hiX1 : ∀ w ∈ wsX10, w ∈ wsX1_offOfAll := by decide +kernel
  refine lv_iconst (v := 0) hx hb dX1_offOfAll_0 (by decide) ?_
  refine lv_istore_n (lv' := [(3, .int 0), (0, .ref (a 0)), (1, .ref (a 1)), (2, .int v1)]) hx hb dX1_offOfAll_1 rfl hl (by decide) rfl (fun ls hl => ?_)
  refine lv_iconst (v := 0) hx hb dX1_offOfAll_2 (by decide) ?_
  refine lv_istore (lv' := [(4, .int 0), (3, .int 0), (0, .ref (a 0)), (1, .ref (a 1)), (2, .int v1)]) hx hb dX1_offOfAll_3 hl (by decide) rfl (fun ls hl => ?_)
  have loop : ∀ (j : Nat), ∀ (i : Nat), i + j = N → ∀ (H : Heap) (locs : List Loc) (ls : Array Slot), va_P D vwCl (cu_cw C a (nI N) mn K P) H → va_D A (cu_cw C a (nI N) mn K P) → va_S A H0 H locs → lv_has ls 5 [(0, .ref (a 0)), (1, .ref (a 1)), (2, .int v1), (3, .int (k_sum (fun c => k_abs (k_off (K c) v1)) i)), (4, .int (nI i))] → W p l e { frames := 3, cells := 0, slots := 0, locals := 64 } s m args below meth c H locs 0 0 Z (F0 m 5 ls []) := by
    intro j
    induction j with
    | zero =>
      intro i hj H locs ls hP hD hS hl
      have eN : i = N := by omega
      refine lv_iload hx hb dX1_offOfAll_5 (lv_at hl 4 rfl) ?_
      refine lv_aload_n hx hb dX1_offOfAll_7 rfl (lv_at hl 0 rfl) ?_
      refine va_get (D := D) (ci := 1) (v := .int (nI N)) (C := RX1) (T := TX1) (N := 4) hx hb hts hiX1 hown hK hP 0 rfl rfl 2 (by decide) (hts (.fieldLink RX1 19 "CuckooShop" "present" "I") (by decide +kernel)) (fun _ h9 => h9) rfl dX1_offOfAll_8 ?_
      refine lv_icmp_ge (tgt := 34) hx hb dX1_offOfAll_11 (by decide) (fun c_11 => ?_) (fun c_11 => absurd (nI_le (a := N) (by omega) (by omega)) c_11)
      refine lv_iload_n hx hb dX1_offOfAll_34 rfl (lv_at hl 3 rfl) ?_
      exact fin _ _ _ _ _ rfl (by rw [eN]; rfl) hP hS dX1_offOfAll_35
    | succ j ih =>
      intro i hj H locs ls hP hD hS hl
      have hi : i < 10 := by omega
      refine lv_iload hx hb dX1_offOfAll_5 (lv_at hl 4 rfl) ?_
      refine lv_aload_n hx hb dX1_offOfAll_7 rfl (lv_at hl 0 rfl) ?_
      refine va_get (D := D) (ci := 1) (v := .int (nI N)) (C := RX1) (T := TX1) (N := 4) hx hb hts hiX1 hown hK hP 0 rfl rfl 2 (by decide) (hts (.fieldLink RX1 19 "CuckooShop" "present" "I") (by decide +kernel)) (fun _ h9 => h9) rfl dX1_offOfAll_8 ?_
      refine lv_icmp_ge (tgt := 34) hx hb dX1_offOfAll_11 (by decide) (fun c_11 => absurd c_11 (nI_ge (b := N) (by omega) (by omega))) (fun c_11 => ?_)
      refine lv_iload_n hx hb dX1_offOfAll_14 rfl (lv_at hl 3 rfl) ?_
      refine lv_aload_n hx hb dX1_offOfAll_15 rfl (lv_at hl 1 rfl) ?_
      refine lv_iload hx hb dX1_offOfAll_16 (lv_at hl 4 rfl) ?_
      refine cu_aaldK hi hx hb hK hP dX1_offOfAll_18 ?_
      refine lv_iload_n hx hb dX1_offOfAll_19 rfl (lv_at hl 2 rfl) ?_
      have sp := cu_sp.rd (cu_cw_K (C := C) (a := a) (n := (nI N)) (m := mn) (K := K) (P := P) hi)
      refine cu_callI (va_runS (As := [.ref (a (3 + i)), .int v1]) (rest := [.int (k_sum (fun c => k_abs (k_off (K c) v1)) i)]) ⟨hx, hb, hml, hown, hts⟩ ((m_X1_offOf l D C (a (3 + i)) (K i) v1) H.size) (va_cwS 2 hts gX1_offOfAll_X1_offOf rfl rfl rfl (by decide +kernel) ⟨Nat.le_of_ble_eq_true rfl, Nat.le_of_ble_eq_true rfl⟩) (cu_preS sp hG hP hD) rfl rfl hl.1 rfl (lv_room (Nat.le_of_ble_eq_true rfl)) dX1_offOfAll_20 ⟨Nat.le_of_ble_eq_true rfl, Nat.le_of_ble_eq_true rfl⟩) sp hP hD hS hA (fun H locs hP hD hS => ?_)
      refine va_mabs hx hb (hml.trans hl.1.symm) hown (hts (.methodLink RX1 166 Lib.Math.abs.name) (by decide +kernel)) (hts (.static Lib.Math.abs.name) (by decide +kernel)) (hts (.initialized "java/lang/Math") (by decide +kernel)) (hts (.code Lib.Math.abs.name Lib.Math.abs.code 1 (some .int)) (by decide +kernel)) (Nat.le_of_ble_eq_true rfl) (Nat.le_of_ble_eq_true rfl) (Nat.zero_le _) (Nat.zero_le _) dX1_offOfAll_23 ?_
      refine lv_iadd hx hb dX1_offOfAll_26 ?_
      refine lv_istore_n (lv' := [(3, .int ((k_sum (fun c => k_abs (k_off (K c) v1)) i) + (if 0 ≤ (k_off (K i) v1) then (k_off (K i) v1) else 0 - (k_off (K i) v1)))), (0, .ref (a 0)), (1, .ref (a 1)), (2, .int v1), (4, .int (nI i))]) hx hb dX1_offOfAll_27 rfl hl (by decide) rfl (fun ls hl => ?_)
      refine lv_iinc (v := (nI (i + 1))) (lv' := [(4, .int (nI (i + 1))), (3, .int ((k_sum (fun c => k_abs (k_off (K c) v1)) i) + (if 0 ≤ (k_off (K i) v1) then (k_off (K i) v1) else 0 - (k_off (K i) v1)))), (0, .ref (a 0)), (1, .ref (a 1)), (2, .int v1)]) hx hb dX1_offOfAll_28 hl (k := 4) rfl (nI_1 i) (by decide) rfl (fun ls hl => ?_)
      refine lv_goto (tgt := 5) hx hb dX1_offOfAll_31 (by decide) ?_
      exact ih (i + 1) (by omega) _ _ _ hP hD hS (lv_sub hl [2, 3, 4, 1, 0] rfl)
  exact loop N 0 (by omega) _ _ _ hP hD hS (lv_sub hl [2, 3, 4, 1, 0] rfl)

set_option maxHeartbeats 4000000 in
set_option maxRecDepth 100000 in
theorem m_X1_runRowP (l : Launch) (D : va_G) (C : Nat → ClassId) (a : Nat → Nat) (N : Nat) (hN : N ≤ 10) (mn : Int32) (K P : Nat → Nat → Int32) (v1 : Int32) : cu_I l D C yX1_runRow wsX1_runRow { frames := 4, cells := 0, slots := 0, locals := 86 } [.ref (a 0), .ref (a 2), .int v1] (cu_cw C a (nI N) mn K P) (cu_cw C a (nI N) mn K (k_upto (k_min v1) P N)) (k_lat N v1 P) 0 0 := by
  refine cu_openI (cc := cX1_runRow) (maxL := 5) (ty := .int) (own := RX1) (by decide) rfl rfl (Nat.le_of_ble_eq_true rfl) ?_
  intro p e s m args below meth c A Z H0 ls e0 hx hb hml hts hown hnm hG hP hD hS hA hl fin
  have hK := hG.1
  have hl : lv_has ls 5 [(0, .ref (a 0)), (1, .ref (a 2)), (2, .int v1)] := hl
  have hiX0 : ∀ w ∈ wsX00, w ∈ wsX1_runRow := by decide +kernel
  have hiX1 : ∀ w ∈ wsX10, w ∈ wsX1_runRow := by decide +kernel
  refine lv_iconst (v := 0) hx hb dX1_runRow_0 (by decide) ?_
  refine lv_istore_n (lv' := [(3, .int 0), (0, .ref (a 0)), (1, .ref (a 2)), (2, .int v1)]) hx hb dX1_runRow_1 rfl hl (by decide) rfl (fun ls hl => ?_)
  refine lv_iconst (v := 0) hx hb dX1_runRow_2 (by decide) ?_
  refine lv_istore (lv' := [(4, .int 0), (3, .int 0), (0, .ref (a 0)), (1, .ref (a 2)), (2, .int v1)]) hx hb dX1_runRow_3 hl (by decide) rfl (fun ls hl => ?_)
  rw [← k_upto_0 (g := k_min v1) (K := P)] at hP hD
  have loop : ∀ (j : Nat), ∀ (i : Nat), i + j = N → ∀ (H : Heap) (locs : List Loc) (ls : Array Slot), va_P D vwCl (cu_cw C a (nI N) mn K (k_upto (k_min v1) P i)) H → va_D A (cu_cw C a (nI N) mn K (k_upto (k_min v1) P i)) → va_S A H0 H locs → lv_has ls 5 [(0, .ref (a 0)), (1, .ref (a 2)), (2, .int v1), (3, .int (k_sum (fun c => k_min v1 (P c) 8) i)), (4, .int (nI i))] → W p l e { frames := 4, cells := 0, slots := 0, locals := 86 } s m args below meth c H locs 0 0 Z (F0 m 5 ls []) := by
    intro j
    induction j with
    | zero =>
      intro i hj H locs ls hP hD hS hl
      have eN : i = N := by omega
      refine lv_iload hx hb dX1_runRow_5 (lv_at hl 4 rfl) ?_
      refine lv_aload_n hx hb dX1_runRow_7 rfl (lv_at hl 0 rfl) ?_
      refine va_get (D := D) (ci := 1) (v := .int (nI N)) (C := RX1) (T := TX1) (N := 4) hx hb hts hiX1 hown hK hP 0 rfl rfl 2 (by decide) (hts (.fieldLink RX1 19 "CuckooShop" "present" "I") (by decide +kernel)) (fun _ h9 => h9) rfl dX1_runRow_8 ?_
      refine lv_icmp_ge (tgt := 38) hx hb dX1_runRow_11 (by decide) (fun c_11 => ?_) (fun c_11 => absurd (nI_le (a := N) (by omega) (by omega)) c_11)
      refine lv_iload_n hx hb dX1_runRow_38 rfl (lv_at hl 3 rfl) ?_
      exact fin _ _ _ _ _ rfl (by rw [eN]; rfl) (by rw [eN] at hP; exact hP) hS dX1_runRow_39
    | succ j ih =>
      intro i hj H locs ls hP hD hS hl
      have hi : i < 10 := by omega
      refine lv_iload hx hb dX1_runRow_5 (lv_at hl 4 rfl) ?_
      refine lv_aload_n hx hb dX1_runRow_7 rfl (lv_at hl 0 rfl) ?_
      refine va_get (D := D) (ci := 1) (v := .int (nI N)) (C := RX1) (T := TX1) (N := 4) hx hb hts hiX1 hown hK hP 0 rfl rfl 2 (by decide) (hts (.fieldLink RX1 19 "CuckooShop" "present" "I") (by decide +kernel)) (fun _ h9 => h9) rfl dX1_runRow_8 ?_
      refine lv_icmp_ge (tgt := 38) hx hb dX1_runRow_11 (by decide) (fun c_11 => absurd c_11 (nI_ge (b := N) (by omega) (by omega))) (fun c_11 => ?_)
      refine lv_aload_n hx hb dX1_runRow_14 rfl (lv_at hl 1 rfl) ?_
      refine lv_iload hx hb dX1_runRow_15 (lv_at hl 4 rfl) ?_
      refine cu_aaldP hi hx hb hK hP dX1_runRow_17 ?_
      refine lv_iload_n hx hb dX1_runRow_18 rfl (lv_at hl 2 rfl) ?_
      have sp := cu_spP (C := C) (a := a) (n := (nI N)) (m := mn) (K := K) (P := (k_upto (k_min v1) P i)) hi (k_min v1 ((k_upto (k_min v1) P i) i))
      refine cu_callV (va_runVN (As := [.int v1]) (rest := []) ⟨hx, hb, hml, hown, hts⟩ ((m_X0_runMinute l D C (a (13 + i)) ((k_upto (k_min v1) P i) i) v1) H.size) ⟨(va_cnB 1 hts gX1_runRow_X0_runMinute_n111 rfl rfl rfl (hG.2.1 (111, yX0_runMinute) (by decide +kernel)) (hts (.initialized RX0) (by decide +kernel)) (by decide +kernel) ⟨Nat.le_of_ble_eq_true rfl, Nat.le_of_ble_eq_true rfl⟩), hts (.instanceMethod yX0_runMinute) (by decide +kernel), hts (.selects RX0 yX0_runMinute yX0_runMinute) (by decide +kernel)⟩ (cu_preV (ci := 0) sp hG hP hD rfl rfl) rfl rfl hl.1 rfl (lv_room (Nat.le_of_ble_eq_true rfl)) dX1_runRow_19 ⟨Nat.le_of_ble_eq_true rfl, Nat.le_of_ble_eq_true rfl⟩) sp hP hD hS hA (fun H locs hP hD hS => ?_)
      have hP : va_P D vwCl (cu_cw C a (nI N) mn K (va_up (k_upto (k_min v1) P i) i (k_min v1 ((k_upto (k_min v1) P i) i)))) H := hP
      have hD : va_D A (cu_cw C a (nI N) mn K (va_up (k_upto (k_min v1) P i) i (k_min v1 ((k_upto (k_min v1) P i) i)))) := hD
      rw [k_upto_i, k_upto_s] at hP hD
      refine lv_iload_n hx hb dX1_runRow_22 rfl (lv_at hl 3 rfl) ?_
      refine lv_aload_n hx hb dX1_runRow_23 rfl (lv_at hl 1 rfl) ?_
      refine lv_iload hx hb dX1_runRow_24 (lv_at hl 4 rfl) ?_
      refine cu_aaldP hi hx hb hK hP dX1_runRow_26 ?_
      refine va_getN (host := RX1) (D := D) (ci := 0) (v := .int (((k_upto (k_min v1) P (i + 1)) i) 8)) (C := RX0) (T := TX0) (N := 14) hx hb hts hiX0 hown hK hP (13 + i) (cu_cw_P hi) rfl 13 (by decide) (va_Nw.use rfl (hG.2.2.1 (114, "latestCalls", "I") (by decide +kernel))) (fun _ h9 => h9) rfl dX1_runRow_27 ?_
      refine cu_top (x' := k_min v1 (P i) 8) (by simp [k_upto]) ?_
      refine lv_iadd hx hb dX1_runRow_30 ?_
      refine lv_istore_n (lv' := [(3, .int ((k_sum (fun c => k_min v1 (P c) 8) i) + (k_min v1 (P i) 8))), (0, .ref (a 0)), (1, .ref (a 2)), (2, .int v1), (4, .int (nI i))]) hx hb dX1_runRow_31 rfl hl (by decide) rfl (fun ls hl => ?_)
      refine lv_iinc (v := (nI (i + 1))) (lv' := [(4, .int (nI (i + 1))), (3, .int ((k_sum (fun c => k_min v1 (P c) 8) i) + (k_min v1 (P i) 8))), (0, .ref (a 0)), (1, .ref (a 2)), (2, .int v1)]) hx hb dX1_runRow_32 hl (k := 4) rfl (nI_1 i) (by decide) rfl (fun ls hl => ?_)
      refine lv_goto (tgt := 5) hx hb dX1_runRow_35 (by decide) ?_
      exact ih (i + 1) (by omega) _ _ _ hP hD hS (lv_sub hl [2, 3, 4, 1, 0] rfl)
  exact loop N 0 (by omega) _ _ _ hP hD hS (lv_sub hl [2, 3, 4, 1, 0] rfl)

set_option maxHeartbeats 4000000 in
set_option maxRecDepth 100000 in
theorem m_X1_sumOfP (l : Launch) (D : va_G) (C : Nat → ClassId) (a : Nat → Nat) (N : Nat) (hN : N ≤ 10) (mn : Int32) (K P : Nat → Nat → Int32) (v1 : Int32) : cu_I l D C yX1_sumOf wsX1_sumOf { frames := 3, cells := 0, slots := 0, locals := 64 } [.ref (a 0), .ref (a 2), .int v1] (cu_cw C a (nI N) mn K P) (cu_cw C a (nI N) mn K P) (k_all N P v1) 0 0 := by
  refine cu_openI (cc := cX1_sumOf) (maxL := 5) (ty := .int) (own := RX1) (by decide) rfl rfl (Nat.le_of_ble_eq_true rfl) ?_
  intro p e s m args below meth c A Z H0 ls e0 hx hb hml hts hown hnm hG hP hD hS hA hl fin
  have hK := hG.1
  have hl : lv_has ls 5 [(0, .ref (a 0)), (1, .ref (a 2)), (2, .int v1)] := hl
  have hiX1 : ∀ w ∈ wsX10, w ∈ wsX1_sumOf := by decide +kernel
  refine lv_iconst (v := 0) hx hb dX1_sumOf_0 (by decide) ?_
  refine lv_istore_n (lv' := [(3, .int 0), (0, .ref (a 0)), (1, .ref (a 2)), (2, .int v1)]) hx hb dX1_sumOf_1 rfl hl (by decide) rfl (fun ls hl => ?_)
  refine lv_iconst (v := 0) hx hb dX1_sumOf_2 (by decide) ?_
  refine lv_istore (lv' := [(4, .int 0), (3, .int 0), (0, .ref (a 0)), (1, .ref (a 2)), (2, .int v1)]) hx hb dX1_sumOf_3 hl (by decide) rfl (fun ls hl => ?_)
  have loop : ∀ (j : Nat), ∀ (i : Nat), i + j = N → ∀ (H : Heap) (locs : List Loc) (ls : Array Slot), va_P D vwCl (cu_cw C a (nI N) mn K P) H → va_D A (cu_cw C a (nI N) mn K P) → va_S A H0 H locs → lv_has ls 5 [(0, .ref (a 0)), (1, .ref (a 2)), (2, .int v1), (3, .int (k_sum (fun c => k_read (P c) v1) i)), (4, .int (nI i))] → W p l e { frames := 3, cells := 0, slots := 0, locals := 64 } s m args below meth c H locs 0 0 Z (F0 m 5 ls []) := by
    intro j
    induction j with
    | zero =>
      intro i hj H locs ls hP hD hS hl
      have eN : i = N := by omega
      refine lv_iload hx hb dX1_sumOf_5 (lv_at hl 4 rfl) ?_
      refine lv_aload_n hx hb dX1_sumOf_7 rfl (lv_at hl 0 rfl) ?_
      refine va_get (D := D) (ci := 1) (v := .int (nI N)) (C := RX1) (T := TX1) (N := 4) hx hb hts hiX1 hown hK hP 0 rfl rfl 2 (by decide) (hts (.fieldLink RX1 19 "CuckooShop" "present" "I") (by decide +kernel)) (fun _ h9 => h9) rfl dX1_sumOf_8 ?_
      refine lv_icmp_ge (tgt := 31) hx hb dX1_sumOf_11 (by decide) (fun c_11 => ?_) (fun c_11 => absurd (nI_le (a := N) (by omega) (by omega)) c_11)
      refine lv_iload_n hx hb dX1_sumOf_31 rfl (lv_at hl 3 rfl) ?_
      exact fin _ _ _ _ _ rfl (by rw [eN]; rfl) hP hS dX1_sumOf_32
    | succ j ih =>
      intro i hj H locs ls hP hD hS hl
      have hi : i < 10 := by omega
      refine lv_iload hx hb dX1_sumOf_5 (lv_at hl 4 rfl) ?_
      refine lv_aload_n hx hb dX1_sumOf_7 rfl (lv_at hl 0 rfl) ?_
      refine va_get (D := D) (ci := 1) (v := .int (nI N)) (C := RX1) (T := TX1) (N := 4) hx hb hts hiX1 hown hK hP 0 rfl rfl 2 (by decide) (hts (.fieldLink RX1 19 "CuckooShop" "present" "I") (by decide +kernel)) (fun _ h9 => h9) rfl dX1_sumOf_8 ?_
      refine lv_icmp_ge (tgt := 31) hx hb dX1_sumOf_11 (by decide) (fun c_11 => absurd c_11 (nI_ge (b := N) (by omega) (by omega))) (fun c_11 => ?_)
      refine lv_iload_n hx hb dX1_sumOf_14 rfl (lv_at hl 3 rfl) ?_
      refine lv_aload_n hx hb dX1_sumOf_15 rfl (lv_at hl 1 rfl) ?_
      refine lv_iload hx hb dX1_sumOf_16 (lv_at hl 4 rfl) ?_
      refine cu_aaldP hi hx hb hK hP dX1_sumOf_18 ?_
      refine lv_iload_n hx hb dX1_sumOf_19 rfl (lv_at hl 2 rfl) ?_
      have sp := cu_sp.rd (cu_cw_P (C := C) (a := a) (n := (nI N)) (m := mn) (K := K) (P := P) hi)
      refine cu_callI (va_runVN (As := [.int v1]) (rest := [.int (k_sum (fun c => k_read (P c) v1) i)]) ⟨hx, hb, hml, hown, hts⟩ ((m_X0_reading l D C (a (13 + i)) (P i) v1) H.size) ⟨(va_cnB 1 hts gX1_sumOf_X0_reading_n91 rfl rfl rfl (hG.2.1 (91, yX0_reading) (by decide +kernel)) (hts (.initialized RX0) (by decide +kernel)) (by decide +kernel) ⟨Nat.le_of_ble_eq_true rfl, Nat.le_of_ble_eq_true rfl⟩), hts (.instanceMethod yX0_reading) (by decide +kernel), hts (.selects RX0 yX0_reading yX0_reading) (by decide +kernel)⟩ (cu_preV (ci := 0) sp hG hP hD rfl rfl) rfl rfl hl.1 rfl (lv_room (Nat.le_of_ble_eq_true rfl)) dX1_sumOf_20 ⟨Nat.le_of_ble_eq_true rfl, Nat.le_of_ble_eq_true rfl⟩) sp hP hD hS hA (fun H locs hP hD hS => ?_)
      have hP : va_P D vwCl (cu_cw C a (nI N) mn K P) H := hP
      have hD : va_D A (cu_cw C a (nI N) mn K P) := hD
      refine lv_iadd hx hb dX1_sumOf_23 ?_
      refine lv_istore_n (lv' := [(3, .int ((k_sum (fun c => k_read (P c) v1) i) + (k_read (P i) v1))), (0, .ref (a 0)), (1, .ref (a 2)), (2, .int v1), (4, .int (nI i))]) hx hb dX1_sumOf_24 rfl hl (by decide) rfl (fun ls hl => ?_)
      refine lv_iinc (v := (nI (i + 1))) (lv' := [(4, .int (nI (i + 1))), (3, .int ((k_sum (fun c => k_read (P c) v1) i) + (k_read (P i) v1))), (0, .ref (a 0)), (1, .ref (a 2)), (2, .int v1)]) hx hb dX1_sumOf_25 hl (k := 4) rfl (nI_1 i) (by decide) rfl (fun ls hl => ?_)
      refine lv_goto (tgt := 5) hx hb dX1_sumOf_28 (by decide) ?_
      exact ih (i + 1) (by omega) _ _ _ hP hD hS (lv_sub hl [2, 3, 4, 1, 0] rfl)
  exact loop N 0 (by omega) _ _ _ hP hD hS (lv_sub hl [2, 3, 4, 1, 0] rfl)

set_option maxHeartbeats 4000000 in
set_option maxRecDepth 100000 in
theorem m_X1_offOfAllP (l : Launch) (D : va_G) (C : Nat → ClassId) (a : Nat → Nat) (N : Nat) (hN : N ≤ 10) (mn : Int32) (K P : Nat → Nat → Int32) (v1 : Int32) : cu_I l D C yX1_offOfAll wsX1_offOfAll { frames := 3, cells := 0, slots := 0, locals := 64 } [.ref (a 0), .ref (a 2), .int v1] (cu_cw C a (nI N) mn K P) (cu_cw C a (nI N) mn K P) (k_offs N P v1) 0 0 := by
  refine cu_openI (cc := cX1_offOfAll) (maxL := 5) (ty := .int) (own := RX1) (by decide) rfl rfl (Nat.le_of_ble_eq_true rfl) ?_
  intro p e s m args below meth c A Z H0 ls e0 hx hb hml hts hown hnm hG hP hD hS hA hl fin
  have hK := hG.1
  have hl : lv_has ls 5 [(0, .ref (a 0)), (1, .ref (a 2)), (2, .int v1)] := hl
  have hiX1 : ∀ w ∈ wsX10, w ∈ wsX1_offOfAll := by decide +kernel
  refine lv_iconst (v := 0) hx hb dX1_offOfAll_0 (by decide) ?_
  refine lv_istore_n (lv' := [(3, .int 0), (0, .ref (a 0)), (1, .ref (a 2)), (2, .int v1)]) hx hb dX1_offOfAll_1 rfl hl (by decide) rfl (fun ls hl => ?_)
  refine lv_iconst (v := 0) hx hb dX1_offOfAll_2 (by decide) ?_
  refine lv_istore (lv' := [(4, .int 0), (3, .int 0), (0, .ref (a 0)), (1, .ref (a 2)), (2, .int v1)]) hx hb dX1_offOfAll_3 hl (by decide) rfl (fun ls hl => ?_)
  have loop : ∀ (j : Nat), ∀ (i : Nat), i + j = N → ∀ (H : Heap) (locs : List Loc) (ls : Array Slot), va_P D vwCl (cu_cw C a (nI N) mn K P) H → va_D A (cu_cw C a (nI N) mn K P) → va_S A H0 H locs → lv_has ls 5 [(0, .ref (a 0)), (1, .ref (a 2)), (2, .int v1), (3, .int (k_sum (fun c => k_abs (k_off (P c) v1)) i)), (4, .int (nI i))] → W p l e { frames := 3, cells := 0, slots := 0, locals := 64 } s m args below meth c H locs 0 0 Z (F0 m 5 ls []) := by
    intro j
    induction j with
    | zero =>
      intro i hj H locs ls hP hD hS hl
      have eN : i = N := by omega
      refine lv_iload hx hb dX1_offOfAll_5 (lv_at hl 4 rfl) ?_
      refine lv_aload_n hx hb dX1_offOfAll_7 rfl (lv_at hl 0 rfl) ?_
      refine va_get (D := D) (ci := 1) (v := .int (nI N)) (C := RX1) (T := TX1) (N := 4) hx hb hts hiX1 hown hK hP 0 rfl rfl 2 (by decide) (hts (.fieldLink RX1 19 "CuckooShop" "present" "I") (by decide +kernel)) (fun _ h9 => h9) rfl dX1_offOfAll_8 ?_
      refine lv_icmp_ge (tgt := 34) hx hb dX1_offOfAll_11 (by decide) (fun c_11 => ?_) (fun c_11 => absurd (nI_le (a := N) (by omega) (by omega)) c_11)
      refine lv_iload_n hx hb dX1_offOfAll_34 rfl (lv_at hl 3 rfl) ?_
      exact fin _ _ _ _ _ rfl (by rw [eN]; rfl) hP hS dX1_offOfAll_35
    | succ j ih =>
      intro i hj H locs ls hP hD hS hl
      have hi : i < 10 := by omega
      refine lv_iload hx hb dX1_offOfAll_5 (lv_at hl 4 rfl) ?_
      refine lv_aload_n hx hb dX1_offOfAll_7 rfl (lv_at hl 0 rfl) ?_
      refine va_get (D := D) (ci := 1) (v := .int (nI N)) (C := RX1) (T := TX1) (N := 4) hx hb hts hiX1 hown hK hP 0 rfl rfl 2 (by decide) (hts (.fieldLink RX1 19 "CuckooShop" "present" "I") (by decide +kernel)) (fun _ h9 => h9) rfl dX1_offOfAll_8 ?_
      refine lv_icmp_ge (tgt := 34) hx hb dX1_offOfAll_11 (by decide) (fun c_11 => absurd c_11 (nI_ge (b := N) (by omega) (by omega))) (fun c_11 => ?_)
      refine lv_iload_n hx hb dX1_offOfAll_14 rfl (lv_at hl 3 rfl) ?_
      refine lv_aload_n hx hb dX1_offOfAll_15 rfl (lv_at hl 1 rfl) ?_
      refine lv_iload hx hb dX1_offOfAll_16 (lv_at hl 4 rfl) ?_
      refine cu_aaldP hi hx hb hK hP dX1_offOfAll_18 ?_
      refine lv_iload_n hx hb dX1_offOfAll_19 rfl (lv_at hl 2 rfl) ?_
      have sp := cu_sp.rd (cu_cw_P (C := C) (a := a) (n := (nI N)) (m := mn) (K := K) (P := P) hi)
      refine cu_callI (va_runS (As := [.ref (a (13 + i)), .int v1]) (rest := [.int (k_sum (fun c => k_abs (k_off (P c) v1)) i)]) ⟨hx, hb, hml, hown, hts⟩ ((m_X1_offOf l D C (a (13 + i)) (P i) v1) H.size) (va_cwS 2 hts gX1_offOfAll_X1_offOf rfl rfl rfl (by decide +kernel) ⟨Nat.le_of_ble_eq_true rfl, Nat.le_of_ble_eq_true rfl⟩) (cu_preS sp hG hP hD) rfl rfl hl.1 rfl (lv_room (Nat.le_of_ble_eq_true rfl)) dX1_offOfAll_20 ⟨Nat.le_of_ble_eq_true rfl, Nat.le_of_ble_eq_true rfl⟩) sp hP hD hS hA (fun H locs hP hD hS => ?_)
      refine va_mabs hx hb (hml.trans hl.1.symm) hown (hts (.methodLink RX1 166 Lib.Math.abs.name) (by decide +kernel)) (hts (.static Lib.Math.abs.name) (by decide +kernel)) (hts (.initialized "java/lang/Math") (by decide +kernel)) (hts (.code Lib.Math.abs.name Lib.Math.abs.code 1 (some .int)) (by decide +kernel)) (Nat.le_of_ble_eq_true rfl) (Nat.le_of_ble_eq_true rfl) (Nat.zero_le _) (Nat.zero_le _) dX1_offOfAll_23 ?_
      refine lv_iadd hx hb dX1_offOfAll_26 ?_
      refine lv_istore_n (lv' := [(3, .int ((k_sum (fun c => k_abs (k_off (P c) v1)) i) + (if 0 ≤ (k_off (P i) v1) then (k_off (P i) v1) else 0 - (k_off (P i) v1)))), (0, .ref (a 0)), (1, .ref (a 2)), (2, .int v1), (4, .int (nI i))]) hx hb dX1_offOfAll_27 rfl hl (by decide) rfl (fun ls hl => ?_)
      refine lv_iinc (v := (nI (i + 1))) (lv' := [(4, .int (nI (i + 1))), (3, .int ((k_sum (fun c => k_abs (k_off (P c) v1)) i) + (if 0 ≤ (k_off (P i) v1) then (k_off (P i) v1) else 0 - (k_off (P i) v1)))), (0, .ref (a 0)), (1, .ref (a 2)), (2, .int v1)]) hx hb dX1_offOfAll_28 hl (k := 4) rfl (nI_1 i) (by decide) rfl (fun ls hl => ?_)
      refine lv_goto (tgt := 5) hx hb dX1_offOfAll_31 (by decide) ?_
      exact ih (i + 1) (by omega) _ _ _ hP hD hS (lv_sub hl [2, 3, 4, 1, 0] rfl)
  exact loop N 0 (by omega) _ _ _ hP hD hS (lv_sub hl [2, 3, 4, 1, 0] rfl)

set_option maxHeartbeats 4000000 in
set_option maxRecDepth 100000 in
theorem m_X1_copyClocks (l : Launch) (D : va_G) (C : Nat → ClassId) (a : Nat → Nat) (N : Nat) (hN : N ≤ 10) (mn : Int32) (K P : Nat → Nat → Int32) (h5 : ∀ c, c < N → K c 5 = 0 ∨ K c 5 = 1) : cu_V l D C yX1_copyClocks wsX1_copyClocks { frames := 1, cells := 0, slots := 0, locals := 21 } [.ref (a 0)] (cu_cw C a (nI N) mn K P) (cu_cw C a (nI N) mn K (k_cpy K P N)) 0 0 := by
  refine cu_openV (cc := cX1_copyClocks) (maxL := 2) (own := RX1) (by decide) rfl rfl (Nat.le_of_ble_eq_true rfl) ?_
  intro p e s m args below meth c A Z H0 ls e0 hx hb hml hts hown hnm hG hP hD hS hA hl fin
  have hK := hG.1
  have hl : lv_has ls 2 [(0, .ref (a 0))] := hl
  have hiX1 : ∀ w ∈ wsX10, w ∈ wsX1_copyClocks := by decide +kernel
  refine lv_iconst (v := 0) hx hb dX1_copyClocks_0 (by decide) ?_
  refine lv_istore_n (lv' := [(1, .int 0), (0, .ref (a 0))]) hx hb dX1_copyClocks_1 rfl hl (by decide) rfl (fun ls hl => ?_)
  rw [← k_cpy_0 (K := K) (P := P)] at hP hD
  have loop : ∀ (j : Nat), ∀ (i : Nat), i + j = N → ∀ (H : Heap) (locs : List Loc) (ls : Array Slot), va_P D vwCl (cu_cw C a (nI N) mn K (k_cpy K P i)) H → va_D A (cu_cw C a (nI N) mn K (k_cpy K P i)) → va_S A H0 H locs → lv_has ls 2 [(0, .ref (a 0)), (1, .int (nI i))] → W p l e { frames := 1, cells := 0, slots := 0, locals := 21 } s m args below meth c H locs 0 0 Z (F0 m 2 ls []) := by
    intro j
    induction j with
    | zero =>
      intro i hj H locs ls hP hD hS hl
      have eN : i = N := by omega
      refine lv_iload_n hx hb dX1_copyClocks_2 rfl (lv_at hl 1 rfl) ?_
      refine lv_aload_n hx hb dX1_copyClocks_3 rfl (lv_at hl 0 rfl) ?_
      refine va_get (D := D) (ci := 1) (v := .int (nI N)) (C := RX1) (T := TX1) (N := 4) hx hb hts hiX1 hown hK hP 0 rfl rfl 2 (by decide) (hts (.fieldLink RX1 19 "CuckooShop" "present" "I") (by decide +kernel)) (fun _ h9 => h9) rfl dX1_copyClocks_4 ?_
      refine lv_icmp_ge (tgt := 31) hx hb dX1_copyClocks_7 (by decide) (fun c_7 => ?_) (fun c_7 => absurd (nI_le (a := N) (by omega) (by omega)) c_7)
      exact fin _ _ _ _ (by rw [eN] at hP; exact hP) hS dX1_copyClocks_31
    | succ j ih =>
      intro i hj H locs ls hP hD hS hl
      have hi : i < 10 := by omega
      refine lv_iload_n hx hb dX1_copyClocks_2 rfl (lv_at hl 1 rfl) ?_
      refine lv_aload_n hx hb dX1_copyClocks_3 rfl (lv_at hl 0 rfl) ?_
      refine va_get (D := D) (ci := 1) (v := .int (nI N)) (C := RX1) (T := TX1) (N := 4) hx hb hts hiX1 hown hK hP 0 rfl rfl 2 (by decide) (hts (.fieldLink RX1 19 "CuckooShop" "present" "I") (by decide +kernel)) (fun _ h9 => h9) rfl dX1_copyClocks_4 ?_
      refine lv_icmp_ge (tgt := 31) hx hb dX1_copyClocks_7 (by decide) (fun c_7 => absurd c_7 (nI_ge (b := N) (by omega) (by omega))) (fun c_7 => ?_)
      refine lv_aload_n hx hb dX1_copyClocks_10 rfl (lv_at hl 0 rfl) ?_
      refine va_get (D := D) (ci := 1) (v := .ref (a 2)) (C := RX1) (T := TX1) (N := 4) hx hb hts hiX1 hown hK hP 0 rfl rfl 1 (by decide) (hts (.fieldLink RX1 15 "CuckooShop" "copies" "[LCuckooShop$Clock;") (by decide +kernel)) (fun _ h9 => h9) rfl dX1_copyClocks_11 ?_
      refine lv_iload_n hx hb dX1_copyClocks_14 rfl (lv_at hl 1 rfl) ?_
      refine cu_aaldP hi hx hb hK hP dX1_copyClocks_15 ?_
      refine lv_aload_n hx hb dX1_copyClocks_16 rfl (lv_at hl 0 rfl) ?_
      refine va_get (D := D) (ci := 1) (v := .ref (a 1)) (C := RX1) (T := TX1) (N := 4) hx hb hts hiX1 hown hK hP 0 rfl rfl 0 (by decide) (hts (.fieldLink RX1 11 "CuckooShop" "clocks" "[LCuckooShop$Clock;") (by decide +kernel)) (fun _ h9 => h9) rfl dX1_copyClocks_17 ?_
      refine lv_iload_n hx hb dX1_copyClocks_20 rfl (lv_at hl 1 rfl) ?_
      refine cu_aaldK hi hx hb hK hP dX1_copyClocks_21 ?_
      have sp := cu_spC (C := C) (a := a) (n := (nI N)) (m := mn) (K := K) (P := (k_cpy K P i)) hi
      refine cu_callV (va_runVN (As := [.ref (a (3 + i))]) (rest := []) ⟨hx, hb, hml, hown, hts⟩ ((m_X0_copyFrom l D C (a (13 + i)) ((k_cpy K P i) i) (a (3 + i)) (K i) (h5 i (by omega))) H.size) ⟨(va_cnB 1 hts gX1_copyClocks_X0_copyFrom_n107 rfl rfl rfl (hG.2.1 (107, yX0_copyFrom) (by decide +kernel)) (hts (.initialized RX0) (by decide +kernel)) (by decide +kernel) ⟨Nat.le_of_ble_eq_true rfl, Nat.le_of_ble_eq_true rfl⟩), hts (.instanceMethod yX0_copyFrom) (by decide +kernel), hts (.selects RX0 yX0_copyFrom yX0_copyFrom) (by decide +kernel)⟩ (cu_preV (ci := 0) sp hG hP hD rfl rfl) rfl rfl hl.1 rfl (lv_room (Nat.le_of_ble_eq_true rfl)) dX1_copyClocks_22 ⟨Nat.le_of_ble_eq_true rfl, Nat.le_of_ble_eq_true rfl⟩) sp hP hD hS hA (fun H locs hP hD hS => ?_)
      have hP : va_P D vwCl (cu_cw C a (nI N) mn K (va_up (k_cpy K P i) i (K i))) H := hP
      have hD : va_D A (cu_cw C a (nI N) mn K (va_up (k_cpy K P i) i (K i))) := hD
      rw [k_cpy_s] at hP hD
      refine lv_iinc (v := (nI (i + 1))) (lv' := [(1, .int (nI (i + 1))), (0, .ref (a 0))]) hx hb dX1_copyClocks_25 hl (k := 1) rfl (nI_1 i) (by decide) rfl (fun ls hl => ?_)
      refine lv_goto (tgt := 2) hx hb dX1_copyClocks_28 (by decide) ?_
      exact ih (i + 1) (by omega) _ _ _ hP hD hS (lv_sub hl [1, 0] rfl)
  exact loop N 0 (by omega) _ _ _ hP hD hS (lv_sub hl [1, 0] rfl)

set_option maxHeartbeats 4000000 in
set_option maxRecDepth 100000 in
theorem m_X1_trueClocks (l : Launch) (D : va_G) (C : Nat → ClassId) (a : Nat → Nat) (N : Nat) (hN : N ≤ 10) (mn : Int32) (K P : Nat → Nat → Int32) : cu_I l D C yX1_trueClocks wsX1_trueClocks { frames := 3, cells := 0, slots := 0, locals := 64 } [.ref (a 0)] (cu_cw C a (nI N) mn K P) (cu_cw C a (nI N) mn K P) (k_trues N K mn) 0 0 := by
  refine cu_openI (cc := cX1_trueClocks) (maxL := 3) (ty := .int) (own := RX1) (by decide) rfl rfl (Nat.le_of_ble_eq_true rfl) ?_
  intro p e s m args below meth c A Z H0 ls e0 hx hb hml hts hown hnm hG hP hD hS hA hl fin
  have hK := hG.1
  have hl : lv_has ls 3 [(0, .ref (a 0))] := hl
  have hiX1 : ∀ w ∈ wsX10, w ∈ wsX1_trueClocks := by decide +kernel
  refine lv_iconst (v := 0) hx hb dX1_trueClocks_0 (by decide) ?_
  refine lv_istore_n (lv' := [(1, .int 0), (0, .ref (a 0))]) hx hb dX1_trueClocks_1 rfl hl (by decide) rfl (fun ls hl => ?_)
  refine lv_iconst (v := 0) hx hb dX1_trueClocks_2 (by decide) ?_
  refine lv_istore_n (lv' := [(2, .int 0), (1, .int 0), (0, .ref (a 0))]) hx hb dX1_trueClocks_3 rfl hl (by decide) rfl (fun ls hl => ?_)
  have loop : ∀ (j : Nat), ∀ (i : Nat) (x1 : Int32), i + j = N → x1 = k_sum (fun c => if k_off (K c) mn = 0 then 1 else 0) i → ∀ (H : Heap) (locs : List Loc) (ls : Array Slot), va_P D vwCl (cu_cw C a (nI N) mn K P) H → va_D A (cu_cw C a (nI N) mn K P) → va_S A H0 H locs → lv_has ls 3 [(0, .ref (a 0)), (1, .int x1), (2, .int (nI i))] → W p l e { frames := 3, cells := 0, slots := 0, locals := 64 } s m args below meth c H locs 0 0 Z (F0 m 4 ls []) := by
    intro j
    induction j with
    | zero =>
      intro i x1 hj hx1 H locs ls hP hD hS hl
      have eN : i = N := by omega
      refine lv_iload_n hx hb dX1_trueClocks_4 rfl (lv_at hl 2 rfl) ?_
      refine lv_aload_n hx hb dX1_trueClocks_5 rfl (lv_at hl 0 rfl) ?_
      refine va_get (D := D) (ci := 1) (v := .int (nI N)) (C := RX1) (T := TX1) (N := 4) hx hb hts hiX1 hown hK hP 0 rfl rfl 2 (by decide) (hts (.fieldLink RX1 19 "CuckooShop" "present" "I") (by decide +kernel)) (fun _ h9 => h9) rfl dX1_trueClocks_6 ?_
      refine lv_icmp_ge (tgt := 37) hx hb dX1_trueClocks_9 (by decide) (fun c_9 => ?_) (fun c_9 => absurd (nI_le (a := N) (by omega) (by omega)) c_9)
      refine lv_iload_n hx hb dX1_trueClocks_37 rfl (lv_at hl 1 rfl) ?_
      exact fin _ _ _ _ _ rfl (by rw [hx1, eN]; rfl) hP hS dX1_trueClocks_38
    | succ j ih =>
      intro i x1 hj hx1 H locs ls hP hD hS hl
      have hi : i < 10 := by omega
      refine lv_iload_n hx hb dX1_trueClocks_4 rfl (lv_at hl 2 rfl) ?_
      refine lv_aload_n hx hb dX1_trueClocks_5 rfl (lv_at hl 0 rfl) ?_
      refine va_get (D := D) (ci := 1) (v := .int (nI N)) (C := RX1) (T := TX1) (N := 4) hx hb hts hiX1 hown hK hP 0 rfl rfl 2 (by decide) (hts (.fieldLink RX1 19 "CuckooShop" "present" "I") (by decide +kernel)) (fun _ h9 => h9) rfl dX1_trueClocks_6 ?_
      refine lv_icmp_ge (tgt := 37) hx hb dX1_trueClocks_9 (by decide) (fun c_9 => absurd c_9 (nI_ge (b := N) (by omega) (by omega))) (fun c_9 => ?_)
      refine lv_aload_n hx hb dX1_trueClocks_12 rfl (lv_at hl 0 rfl) ?_
      refine va_get (D := D) (ci := 1) (v := .ref (a 1)) (C := RX1) (T := TX1) (N := 4) hx hb hts hiX1 hown hK hP 0 rfl rfl 0 (by decide) (hts (.fieldLink RX1 11 "CuckooShop" "clocks" "[LCuckooShop$Clock;") (by decide +kernel)) (fun _ h9 => h9) rfl dX1_trueClocks_13 ?_
      refine lv_iload_n hx hb dX1_trueClocks_16 rfl (lv_at hl 2 rfl) ?_
      refine cu_aaldK hi hx hb hK hP dX1_trueClocks_17 ?_
      refine lv_aload_n hx hb dX1_trueClocks_18 rfl (lv_at hl 0 rfl) ?_
      refine va_get (D := D) (ci := 1) (v := .int mn) (C := RX1) (T := TX1) (N := 4) hx hb hts hiX1 hown hK hP 0 rfl rfl 3 (by decide) (hts (.fieldLink RX1 23 "CuckooShop" "minute" "I") (by decide +kernel)) (fun _ h9 => h9) rfl dX1_trueClocks_19 ?_
      have sp := cu_sp.rd (cu_cw_K (C := C) (a := a) (n := (nI N)) (m := mn) (K := K) (P := P) hi)
      refine cu_callI (va_runS (As := [.ref (a (3 + i)), .int mn]) (rest := []) ⟨hx, hb, hml, hown, hts⟩ ((m_X1_offOf l D C (a (3 + i)) (K i) mn) H.size) (va_cwS 2 hts gX1_trueClocks_X1_offOf rfl rfl rfl (by decide +kernel) ⟨Nat.le_of_ble_eq_true rfl, Nat.le_of_ble_eq_true rfl⟩) (cu_preS sp hG hP hD) rfl rfl hl.1 rfl (lv_room (Nat.le_of_ble_eq_true rfl)) dX1_trueClocks_22 ⟨Nat.le_of_ble_eq_true rfl, Nat.le_of_ble_eq_true rfl⟩) sp hP hD hS hA (fun H locs hP hD hS => ?_)
      refine lv_if_ne (tgt := 31) hx hb dX1_trueClocks_25 (by decide) (fun c_25 => ?_) (fun c_25 => ?_)
      · refine lv_iinc (v := (nI (i + 1))) (lv' := [(2, .int (nI (i + 1))), (0, .ref (a 0)), (1, .int x1)]) hx hb dX1_trueClocks_31 hl (k := 2) rfl (nI_1 i) (by decide) rfl (fun ls hl => ?_)
        refine lv_goto (tgt := 4) hx hb dX1_trueClocks_34 (by decide) ?_
        exact ih (i + 1) _ (by omega) (by show _ = k_sum _ i + (if k_off (K i) mn = 0 then 1 else 0); rw [if_neg c_25, hx1]; simp) _ _ _ hP hD hS (lv_sub hl [1, 2, 0] rfl)
      · refine lv_iinc (v := (x1 + 1)) (lv' := [(1, .int (x1 + 1)), (0, .ref (a 0)), (2, .int (nI i))]) hx hb dX1_trueClocks_28 hl (k := 1) rfl rfl (by decide) rfl (fun ls hl => ?_)
        refine lv_iinc (v := (nI (i + 1))) (lv' := [(2, .int (nI (i + 1))), (1, .int (x1 + 1)), (0, .ref (a 0))]) hx hb dX1_trueClocks_31 hl (k := 2) rfl (nI_1 i) (by decide) rfl (fun ls hl => ?_)
        refine lv_goto (tgt := 4) hx hb dX1_trueClocks_34 (by decide) ?_
        exact ih (i + 1) _ (by omega) (by show _ = k_sum _ i + (if k_off (K i) mn = 0 then 1 else 0); rw [if_pos c_25, hx1]) _ _ _ hP hD hS (lv_sub hl [2, 1, 0] rfl)
  exact loop N 0 0 (by omega) rfl _ _ _ hP hD hS (lv_sub hl [2, 1, 0] rfl)

set_option maxHeartbeats 4000000 in
set_option maxRecDepth 100000 in
theorem m_X1_tally (l : Launch) (D : va_G) (C : Nat → ClassId) (a : Nat → Nat) (N : Nat) (hN : N ≤ 10) (mn : Int32) (K P : Nat → Nat → Int32) (v1 : Int32) : cu_I l D C yX1_tally wsX1_tally { frames := 4, cells := 0, slots := 0, locals := 88 } [.ref (a 0), .int v1] (cu_cw C a (nI N) mn K P) (cu_cw C a (nI N) mn K P) (k_tally N K mn v1) 0 0 := by
  refine cu_openI (cc := cX1_tally) (maxL := 2) (ty := .int) (own := RX1) (by decide) rfl rfl (Nat.le_of_ble_eq_true rfl) ?_
  intro p e s m args below meth c A Z H0 ls e0 hx hb hml hts hown hnm hG hP hD hS hA hl fin
  have hK := hG.1
  have hl : lv_has ls 2 [(0, .ref (a 0)), (1, .int v1)] := hl
  have hiX1 : ∀ w ∈ wsX10, w ∈ wsX1_tally := by decide +kernel
  refine lv_iload_n hx hb dX1_tally_0 rfl (lv_at hl 1 rfl) ?_
  by_cases s_0 : v1 = 0
  · subst s_0
    refine lv_tableIn (off := 43) (tgt := 44) hx hb dX1_tally_1 (by decide) (by decide) (by decide) (by decide) ?_
    refine lv_aload_n hx hb dX1_tally_44 rfl (lv_at hl 0 rfl) ?_
    refine va_get (D := D) (ci := 1) (v := .int mn) (C := RX1) (T := TX1) (N := 4) hx hb hts hiX1 hown hK hP 0 rfl rfl 3 (by decide) (hts (.fieldLink RX1 23 "CuckooShop" "minute" "I") (by decide +kernel)) (fun _ h9 => h9) rfl dX1_tally_45 ?_
    exact fin _ _ _ _ _ rfl (by simp only [k_tally, reduceIte]) hP hS dX1_tally_48
  by_cases s_1 : v1 = 1
  · subst s_1
    refine lv_tableIn (off := 48) (tgt := 49) hx hb dX1_tally_1 (by decide) (by decide) (by decide) (by decide) ?_
    refine lv_aload_n hx hb dX1_tally_49 rfl (lv_at hl 0 rfl) ?_
    refine va_get (D := D) (ci := 1) (v := .int mn) (C := RX1) (T := TX1) (N := 4) hx hb hts hiX1 hown hK hP 0 rfl rfl 3 (by decide) (hts (.fieldLink RX1 23 "CuckooShop" "minute" "I") (by decide +kernel)) (fun _ h9 => h9) rfl dX1_tally_50 ?_
    have sp := cu_sp.nil (W0 := (cu_cw C a (nI N) mn K P))
    refine cu_callI (va_runS (As := [.int mn]) (rest := []) ⟨hx, hb, hml, hown, hts⟩ ((m_X1_trueTime l D C mn) H0.size) (va_cwS 1 hts gX1_tally_X1_trueTime rfl rfl rfl (by decide +kernel) ⟨Nat.le_of_ble_eq_true rfl, Nat.le_of_ble_eq_true rfl⟩) (cu_preS sp hG hP hD) rfl rfl hl.1 rfl (lv_room (Nat.le_of_ble_eq_true rfl)) dX1_tally_53 ⟨Nat.le_of_ble_eq_true rfl, Nat.le_of_ble_eq_true rfl⟩) sp hP hD hS hA (fun H locs hP hD hS => ?_)
    exact fin _ _ _ _ _ rfl (by simp only [k_tally, if_neg s_0, reduceIte]) hP hS dX1_tally_56
  by_cases s_2 : v1 = 2
  · subst s_2
    refine lv_tableIn (off := 56) (tgt := 57) hx hb dX1_tally_1 (by decide) (by decide) (by decide) (by decide) ?_
    refine lv_aload_n hx hb dX1_tally_57 rfl (lv_at hl 0 rfl) ?_
    refine va_get (D := D) (ci := 1) (v := .int (nI N)) (C := RX1) (T := TX1) (N := 4) hx hb hts hiX1 hown hK hP 0 rfl rfl 2 (by decide) (hts (.fieldLink RX1 19 "CuckooShop" "present" "I") (by decide +kernel)) (fun _ h9 => h9) rfl dX1_tally_58 ?_
    exact fin _ _ _ _ _ rfl (by simp only [k_tally, if_neg s_0, if_neg s_1, reduceIte]) hP hS dX1_tally_61
  by_cases s_3 : v1 = 3
  · subst s_3
    refine lv_tableIn (off := 61) (tgt := 62) hx hb dX1_tally_1 (by decide) (by decide) (by decide) (by decide) ?_
    refine lv_aload_n hx hb dX1_tally_62 rfl (lv_at hl 0 rfl) ?_
    refine lv_aload_n hx hb dX1_tally_63 rfl (lv_at hl 0 rfl) ?_
    refine va_get (D := D) (ci := 1) (v := .ref (a 1)) (C := RX1) (T := TX1) (N := 4) hx hb hts hiX1 hown hK hP 0 rfl rfl 0 (by decide) (hts (.fieldLink RX1 11 "CuckooShop" "clocks" "[LCuckooShop$Clock;") (by decide +kernel)) (fun _ h9 => h9) rfl dX1_tally_64 ?_
    refine lv_iconst (v := 5) hx hb dX1_tally_67 (by decide) ?_
    have sp := cu_sp.all (W0 := (cu_cw C a (nI N) mn K P)) (W1 := (cu_cw C a (nI N) mn K P)) rfl
    refine cu_callI (va_runV (As := [.ref (a 1), .int 5]) (rest := []) ⟨hx, hb, hml, hown, hts⟩ ((m_X1_sumOf l D C a N hN mn K P 5) H0.size) (cwV 2 hts gX1_tally_X1_sumOf rfl rfl rfl (by decide +kernel) ⟨Nat.le_of_ble_eq_true rfl, Nat.le_of_ble_eq_true rfl⟩) (cu_preV (ci := 1) sp hG hP hD rfl rfl) rfl rfl hl.1 rfl (lv_room (Nat.le_of_ble_eq_true rfl)) dX1_tally_68 ⟨Nat.le_of_ble_eq_true rfl, Nat.le_of_ble_eq_true rfl⟩) sp hP hD hS hA (fun H locs hP hD hS => ?_)
    have hP : va_P D vwCl (cu_cw C a (nI N) mn K P) H := hP
    have hD : va_D A (cu_cw C a (nI N) mn K P) := hD
    exact fin _ _ _ _ _ rfl (by simp only [k_tally, if_neg s_0, if_neg s_1, if_neg s_2, reduceIte]) hP hS dX1_tally_71
  by_cases s_4 : v1 = 4
  · subst s_4
    refine lv_tableIn (off := 71) (tgt := 72) hx hb dX1_tally_1 (by decide) (by decide) (by decide) (by decide) ?_
    refine lv_aload_n hx hb dX1_tally_72 rfl (lv_at hl 0 rfl) ?_
    refine lv_aload_n hx hb dX1_tally_73 rfl (lv_at hl 0 rfl) ?_
    refine va_get (D := D) (ci := 1) (v := .ref (a 1)) (C := RX1) (T := TX1) (N := 4) hx hb hts hiX1 hown hK hP 0 rfl rfl 0 (by decide) (hts (.fieldLink RX1 11 "CuckooShop" "clocks" "[LCuckooShop$Clock;") (by decide +kernel)) (fun _ h9 => h9) rfl dX1_tally_74 ?_
    refine lv_bipush (v := 7) hx hb dX1_tally_77 (by decide) ?_
    have sp := cu_sp.all (W0 := (cu_cw C a (nI N) mn K P)) (W1 := (cu_cw C a (nI N) mn K P)) rfl
    refine cu_callI (va_runV (As := [.ref (a 1), .int 7]) (rest := []) ⟨hx, hb, hml, hown, hts⟩ ((m_X1_sumOf l D C a N hN mn K P 7) H0.size) (cwV 2 hts gX1_tally_X1_sumOf rfl rfl rfl (by decide +kernel) ⟨Nat.le_of_ble_eq_true rfl, Nat.le_of_ble_eq_true rfl⟩) (cu_preV (ci := 1) sp hG hP hD rfl rfl) rfl rfl hl.1 rfl (lv_room (Nat.le_of_ble_eq_true rfl)) dX1_tally_79 ⟨Nat.le_of_ble_eq_true rfl, Nat.le_of_ble_eq_true rfl⟩) sp hP hD hS hA (fun H locs hP hD hS => ?_)
    have hP : va_P D vwCl (cu_cw C a (nI N) mn K P) H := hP
    have hD : va_D A (cu_cw C a (nI N) mn K P) := hD
    exact fin _ _ _ _ _ rfl (by simp only [k_tally, if_neg s_0, if_neg s_1, if_neg s_2, if_neg s_3, reduceIte]) hP hS dX1_tally_82
  by_cases s_5 : v1 = 5
  · subst s_5
    refine lv_tableIn (off := 82) (tgt := 83) hx hb dX1_tally_1 (by decide) (by decide) (by decide) (by decide) ?_
    refine lv_aload_n hx hb dX1_tally_83 rfl (lv_at hl 0 rfl) ?_
    refine lv_aload_n hx hb dX1_tally_84 rfl (lv_at hl 0 rfl) ?_
    refine va_get (D := D) (ci := 1) (v := .ref (a 1)) (C := RX1) (T := TX1) (N := 4) hx hb hts hiX1 hown hK hP 0 rfl rfl 0 (by decide) (hts (.fieldLink RX1 11 "CuckooShop" "clocks" "[LCuckooShop$Clock;") (by decide +kernel)) (fun _ h9 => h9) rfl dX1_tally_85 ?_
    refine lv_bipush (v := 9) hx hb dX1_tally_88 (by decide) ?_
    have sp := cu_sp.all (W0 := (cu_cw C a (nI N) mn K P)) (W1 := (cu_cw C a (nI N) mn K P)) rfl
    refine cu_callI (va_runV (As := [.ref (a 1), .int 9]) (rest := []) ⟨hx, hb, hml, hown, hts⟩ ((m_X1_sumOf l D C a N hN mn K P 9) H0.size) (cwV 2 hts gX1_tally_X1_sumOf rfl rfl rfl (by decide +kernel) ⟨Nat.le_of_ble_eq_true rfl, Nat.le_of_ble_eq_true rfl⟩) (cu_preV (ci := 1) sp hG hP hD rfl rfl) rfl rfl hl.1 rfl (lv_room (Nat.le_of_ble_eq_true rfl)) dX1_tally_90 ⟨Nat.le_of_ble_eq_true rfl, Nat.le_of_ble_eq_true rfl⟩) sp hP hD hS hA (fun H locs hP hD hS => ?_)
    have hP : va_P D vwCl (cu_cw C a (nI N) mn K P) H := hP
    have hD : va_D A (cu_cw C a (nI N) mn K P) := hD
    exact fin _ _ _ _ _ rfl (by simp only [k_tally, if_neg s_0, if_neg s_1, if_neg s_2, if_neg s_3, if_neg s_4, reduceIte]) hP hS dX1_tally_93
  by_cases s_6 : v1 = 6
  · subst s_6
    refine lv_tableIn (off := 93) (tgt := 94) hx hb dX1_tally_1 (by decide) (by decide) (by decide) (by decide) ?_
    refine lv_aload_n hx hb dX1_tally_94 rfl (lv_at hl 0 rfl) ?_
    have sp := cu_sp.all (W0 := (cu_cw C a (nI N) mn K P)) (W1 := (cu_cw C a (nI N) mn K P)) rfl
    refine cu_callI (va_runV (As := []) (rest := []) ⟨hx, hb, hml, hown, hts⟩ ((m_X1_trueClocks l D C a N hN mn K P ) H0.size) (cwV 0 hts gX1_tally_X1_trueClocks rfl rfl rfl (by decide +kernel) ⟨Nat.le_of_ble_eq_true rfl, Nat.le_of_ble_eq_true rfl⟩) (cu_preV (ci := 1) sp hG hP hD rfl rfl) rfl rfl hl.1 rfl (lv_room (Nat.le_of_ble_eq_true rfl)) dX1_tally_95 ⟨Nat.le_of_ble_eq_true rfl, Nat.le_of_ble_eq_true rfl⟩) sp hP hD hS hA (fun H locs hP hD hS => ?_)
    have hP : va_P D vwCl (cu_cw C a (nI N) mn K P) H := hP
    have hD : va_D A (cu_cw C a (nI N) mn K P) := hD
    exact fin _ _ _ _ _ rfl (by simp only [k_tally, if_neg s_0, if_neg s_1, if_neg s_2, if_neg s_3, if_neg s_4, if_neg s_5, reduceIte]) hP hS dX1_tally_98
  refine lv_tableOut (tgt := 99) hx hb dX1_tally_1 (by have q_0 := cu_ne s_0 0 (by decide); have q_1 := cu_ne s_1 1 (by decide); have q_2 := cu_ne s_2 2 (by decide); have q_3 := cu_ne s_3 3 (by decide); have q_4 := cu_ne s_4 4 (by decide); have q_5 := cu_ne s_5 5 (by decide); have q_6 := cu_ne s_6 6 (by decide); omega) (by decide) ?_
  refine lv_aload_n hx hb dX1_tally_99 rfl (lv_at hl 0 rfl) ?_
  refine lv_aload_n hx hb dX1_tally_100 rfl (lv_at hl 0 rfl) ?_
  refine va_get (D := D) (ci := 1) (v := .ref (a 1)) (C := RX1) (T := TX1) (N := 4) hx hb hts hiX1 hown hK hP 0 rfl rfl 0 (by decide) (hts (.fieldLink RX1 11 "CuckooShop" "clocks" "[LCuckooShop$Clock;") (by decide +kernel)) (fun _ h9 => h9) rfl dX1_tally_101 ?_
  refine lv_aload_n hx hb dX1_tally_104 rfl (lv_at hl 0 rfl) ?_
  refine va_get (D := D) (ci := 1) (v := .int mn) (C := RX1) (T := TX1) (N := 4) hx hb hts hiX1 hown hK hP 0 rfl rfl 3 (by decide) (hts (.fieldLink RX1 23 "CuckooShop" "minute" "I") (by decide +kernel)) (fun _ h9 => h9) rfl dX1_tally_105 ?_
  have sp := cu_sp.all (W0 := (cu_cw C a (nI N) mn K P)) (W1 := (cu_cw C a (nI N) mn K P)) rfl
  refine cu_callI (va_runV (As := [.ref (a 1), .int mn]) (rest := []) ⟨hx, hb, hml, hown, hts⟩ ((m_X1_offOfAll l D C a N hN mn K P mn) H0.size) (cwV 2 hts gX1_tally_X1_offOfAll rfl rfl rfl (by decide +kernel) ⟨Nat.le_of_ble_eq_true rfl, Nat.le_of_ble_eq_true rfl⟩) (cu_preV (ci := 1) sp hG hP hD rfl rfl) rfl rfl hl.1 rfl (lv_room (Nat.le_of_ble_eq_true rfl)) dX1_tally_108 ⟨Nat.le_of_ble_eq_true rfl, Nat.le_of_ble_eq_true rfl⟩) sp hP hD hS hA (fun H locs hP hD hS => ?_)
  have hP : va_P D vwCl (cu_cw C a (nI N) mn K P) H := hP
  have hD : va_D A (cu_cw C a (nI N) mn K P) := hD
  exact fin _ _ _ _ _ rfl (by simp only [k_tally, if_neg s_0, if_neg s_1, if_neg s_2, if_neg s_3, if_neg s_4, if_neg s_5, if_neg s_6, reduceIte]) hP hS dX1_tally_111
end
section
set_option maxHeartbeats 4000000 in
set_option maxRecDepth 100000 in
theorem m_X1_checkClock (l : Launch) (hlf : l.stackTraces = false) (D : va_G) (C : Nat → ClassId) (a : Nat → Nat) (N : Nat) (hN : N ≤ 10) (mn : Int32) (K P : Nat → Nat → Int32) (v1 : Int32) : cu_XV l D C yX1_checkClock wsX1_checkClock { frames := 6, cells := 1, slots := 6, locals := 82 } [.ref (a 0), .int v1] (cu_cw C a (nI N) mn K P) (cu_cw C a (nI N) mn K P) (k_oC N v1) 1 6 := by
  refine cu_openXV (cc := cX1_checkClock) (maxL := 2) hlf (by decide) rfl rfl (Nat.le_of_ble_eq_true rfl) ?_
  intro p e s m args below meth c A Z H0 ls e0 hx hb hml hts hown hnm hG hP hD hS hA hl hT fin thr prop
  have hK := hG.1
  have hl : lv_has ls 2 [(0, .ref (a 0)), (1, .int v1)] := hl
  have hiX1 : ∀ w ∈ wsX10, w ∈ wsX1_checkClock := by decide +kernel
  refine lv_iload_n hx hb dX1_checkClock_0 rfl (lv_at hl 1 rfl) ?_
  refine lv_if_lt (tgt := 12) hx hb dX1_checkClock_1 (by decide) (fun c_1 => ?_) (fun c_1 => ?_)
  · exact thr x_IOB "there is no such clock" 86 146 90 _ _ 12 _ _ _ _ cu_th_IOB (hts (.classLink RX1 86 x_IOB) (by decide +kernel)) (hts (.initialized x_IOB) (by decide +kernel)) (by decide +kernel) (by decide +kernel) hS hl.1 dX1_checkClock_12 dX1_checkClock_15 dX1_checkClock_16 dX1_checkClock_18 dX1_checkClock_21 (Nat.le_of_ble_eq_true rfl) (Nat.le_of_ble_eq_true rfl) (Nat.le_of_ble_eq_true rfl) (Nat.le_of_ble_eq_true rfl) (Nat.le_of_ble_eq_true rfl) (Nat.le_of_ble_eq_true rfl) (by simp only [k_oC, if_pos c_1, Option.none_or, Option.some_or, reduceIte]) hP
  · refine lv_iload_n hx hb dX1_checkClock_4 rfl (lv_at hl 1 rfl) ?_
    refine lv_aload_n hx hb dX1_checkClock_5 rfl (lv_at hl 0 rfl) ?_
    refine va_get (D := D) (ci := 1) (v := .int (nI N)) (C := RX1) (T := TX1) (N := 4) hx hb hts hiX1 hown hK hP 0 rfl rfl 2 (by decide) (hts (.fieldLink RX1 19 "CuckooShop" "present" "I") (by decide +kernel)) (fun _ h9 => h9) rfl dX1_checkClock_6 ?_
    refine lv_icmp_lt (tgt := 22) hx hb dX1_checkClock_9 (by decide) (fun c_9 => ?_) (fun c_9 => ?_)
    · refine W.widen (k := 1) (n := 6) (Nat.le_of_ble_eq_true rfl) (Nat.le_of_ble_eq_true rfl) ?_
      exact fin _ _ _ _ (by simp only [k_oC, if_neg c_1, if_pos c_9, Option.none_or, Option.some_or, reduceIte]) hP hS dX1_checkClock_22
    · exact thr x_IOB "there is no such clock" 86 146 90 _ _ 12 _ _ _ _ cu_th_IOB (hts (.classLink RX1 86 x_IOB) (by decide +kernel)) (hts (.initialized x_IOB) (by decide +kernel)) (by decide +kernel) (by decide +kernel) hS hl.1 dX1_checkClock_12 dX1_checkClock_15 dX1_checkClock_16 dX1_checkClock_18 dX1_checkClock_21 (Nat.le_of_ble_eq_true rfl) (Nat.le_of_ble_eq_true rfl) (Nat.le_of_ble_eq_true rfl) (Nat.le_of_ble_eq_true rfl) (Nat.le_of_ble_eq_true rfl) (Nat.le_of_ble_eq_true rfl) (by simp only [k_oC, if_neg c_1, if_neg c_9, Option.none_or, Option.some_or, reduceIte]) hP

set_option maxHeartbeats 4000000 in
set_option maxRecDepth 100000 in
theorem m_X1_checkTime (l : Launch) (hlf : l.stackTraces = false) (D : va_G) (C : Nat → ClassId) (v1 : Int32) : cu_XV l D C yX1_checkTime wsX1_checkTime { frames := 6, cells := 1, slots := 6, locals := 82 } [.int v1] ([] : va_W) ([] : va_W) (k_oT v1) 1 6 := by
  refine cu_openXV (cc := cX1_checkTime) (maxL := 1) hlf (by decide) rfl rfl (Nat.le_of_ble_eq_true rfl) ?_
  intro p e s m args below meth c A Z H0 ls e0 hx hb hml hts hown hnm hG hP hD hS hA hl hT fin thr prop
  have hK := hG.1
  have hl : lv_has ls 1 [(0, .int v1)] := hl
  refine lv_iload_n hx hb dX1_checkTime_0 rfl (lv_at hl 0 rfl) ?_
  refine lv_iconst (v := 0) hx hb dX1_checkTime_1 (by decide) ?_
  refine lv_sipush (v := 719) hx hb dX1_checkTime_2 (by decide) ?_
  have sp := cu_sp.nil (W0 := ([] : va_W))
  refine cu_callI (va_runS (As := [.int v1, .int 0, .int 719]) (rest := []) ⟨hx, hb, hml, hown, hts⟩ ((m_X1_isWithin l D C v1 0 719) H0.size) (va_cwS 3 hts gX1_checkTime_X1_isWithin rfl rfl rfl (by decide +kernel) ⟨Nat.le_of_ble_eq_true rfl, Nat.le_of_ble_eq_true rfl⟩) (cu_preS sp hG hP hD) rfl rfl hl.1 rfl (lv_room (Nat.le_of_ble_eq_true rfl)) dX1_checkTime_5 ⟨Nat.le_of_ble_eq_true rfl, Nat.le_of_ble_eq_true rfl⟩) sp hP hD hS hA (fun H locs hP hD hS => ?_)
  refine lv_if_ne (tgt := 21) hx hb dX1_checkTime_8 (by decide) (fun c_8 => ?_) (fun c_8 => ?_)
  · refine W.widen (k := 1) (n := 6) (Nat.le_of_ble_eq_true rfl) (Nat.le_of_ble_eq_true rfl) ?_
    exact fin _ _ _ _ (by simp only [k_oT, if_neg c_8, Option.none_or, Option.some_or, reduceIte]) hP hS dX1_checkTime_21
  · exact thr x_IAE "a time of the dial is 0 to 719" 47 148 51 _ _ 11 _ _ _ _ cu_th_IAE (hts (.classLink RX1 47 x_IAE) (by decide +kernel)) (hts (.initialized x_IAE) (by decide +kernel)) (by decide +kernel) (by decide +kernel) hS hl.1 dX1_checkTime_11 dX1_checkTime_14 dX1_checkTime_15 dX1_checkTime_17 dX1_checkTime_20 (Nat.le_of_ble_eq_true rfl) (Nat.le_of_ble_eq_true rfl) (Nat.le_of_ble_eq_true rfl) (Nat.le_of_ble_eq_true rfl) (Nat.le_of_ble_eq_true rfl) (Nat.le_of_ble_eq_true rfl) (by simp only [k_oT, if_pos c_8, Option.none_or, Option.some_or, reduceIte]) hP

set_option maxHeartbeats 4000000 in
set_option maxRecDepth 100000 in
theorem m_X1_checkMinutes (l : Launch) (hlf : l.stackTraces = false) (D : va_G) (C : Nat → ClassId) (v1 : Int32) : cu_XV l D C yX1_checkMinutes wsX1_checkMinutes { frames := 6, cells := 1, slots := 6, locals := 82 } [.int v1] ([] : va_W) ([] : va_W) (k_oM v1) 1 6 := by
  refine cu_openXV (cc := cX1_checkMinutes) (maxL := 1) hlf (by decide) rfl rfl (Nat.le_of_ble_eq_true rfl) ?_
  intro p e s m args below meth c A Z H0 ls e0 hx hb hml hts hown hnm hG hP hD hS hA hl hT fin thr prop
  have hK := hG.1
  have hl : lv_has ls 1 [(0, .int v1)] := hl
  refine lv_iload_n hx hb dX1_checkMinutes_0 rfl (lv_at hl 0 rfl) ?_
  refine lv_iconst (v := 1) hx hb dX1_checkMinutes_1 (by decide) ?_
  refine lv_sipush (v := 720) hx hb dX1_checkMinutes_2 (by decide) ?_
  have sp := cu_sp.nil (W0 := ([] : va_W))
  refine cu_callI (va_runS (As := [.int v1, .int 1, .int 720]) (rest := []) ⟨hx, hb, hml, hown, hts⟩ ((m_X1_isWithin l D C v1 1 720) H0.size) (va_cwS 3 hts gX1_checkMinutes_X1_isWithin rfl rfl rfl (by decide +kernel) ⟨Nat.le_of_ble_eq_true rfl, Nat.le_of_ble_eq_true rfl⟩) (cu_preS sp hG hP hD) rfl rfl hl.1 rfl (lv_room (Nat.le_of_ble_eq_true rfl)) dX1_checkMinutes_5 ⟨Nat.le_of_ble_eq_true rfl, Nat.le_of_ble_eq_true rfl⟩) sp hP hD hS hA (fun H locs hP hD hS => ?_)
  refine lv_if_ne (tgt := 21) hx hb dX1_checkMinutes_8 (by decide) (fun c_8 => ?_) (fun c_8 => ?_)
  · refine W.widen (k := 1) (n := 6) (Nat.le_of_ble_eq_true rfl) (Nat.le_of_ble_eq_true rfl) ?_
    exact fin _ _ _ _ (by simp only [k_oM, if_neg c_8, Option.none_or, Option.some_or, reduceIte]) hP hS dX1_checkMinutes_21
  · exact thr x_IAE "minutes are 1 to 720" 47 150 51 _ _ 11 _ _ _ _ cu_th_IAE (hts (.classLink RX1 47 x_IAE) (by decide +kernel)) (hts (.initialized x_IAE) (by decide +kernel)) (by decide +kernel) (by decide +kernel) hS hl.1 dX1_checkMinutes_11 dX1_checkMinutes_14 dX1_checkMinutes_15 dX1_checkMinutes_17 dX1_checkMinutes_20 (Nat.le_of_ble_eq_true rfl) (Nat.le_of_ble_eq_true rfl) (Nat.le_of_ble_eq_true rfl) (Nat.le_of_ble_eq_true rfl) (Nat.le_of_ble_eq_true rfl) (Nat.le_of_ble_eq_true rfl) (by simp only [k_oM, if_pos c_8, Option.none_or, Option.some_or, reduceIte]) hP

set_option maxHeartbeats 4000000 in
set_option maxRecDepth 100000 in
theorem m_X1_wind (l : Launch) (hlf : l.stackTraces = false) (D : va_G) (C : Nat → ClassId) (a : Nat → Nat) (N : Nat) (hN : N ≤ 10) (mn : Int32) (K P : Nat → Nat → Int32) (v1 : Int32) : cu_XI l D C yX1_wind wsX1_wind { frames := 7, cells := 1, slots := 6, locals := 103 } [.ref (a 0), .int v1] (cu_cw C a (nI N) mn K P) (cu_cw C a (nI N) mn (va_up K v1.toNatClampNeg (upd (upd (K v1.toNatClampNeg) 2 600) 5 1)) P) (k_oC N v1) (600 - K v1.toNatClampNeg 2) 1 6 := by
  refine cu_openXI (cc := cX1_wind) (maxL := 2) (ty := .int) hlf (by decide) rfl rfl (Nat.le_of_ble_eq_true rfl) ?_
  intro p e s m args below meth c A Z H0 ls e0 hx hb hml hts hown hnm hG hP hD hS hA hl hT fin thr prop
  have hK := hG.1
  have hl : lv_has ls 2 [(0, .ref (a 0)), (1, .int v1)] := hl
  have hiX1 : ∀ w ∈ wsX10, w ∈ wsX1_wind := by decide +kernel
  refine lv_aload_n hx hb dX1_wind_0 rfl (lv_at hl 0 rfl) ?_
  refine lv_iload_n hx hb dX1_wind_1 rfl (lv_at hl 1 rfl) ?_
  have sp := cu_sp.all (W0 := (cu_cw C a (nI N) mn K P)) (W1 := (cu_cw C a (nI N) mn K P)) rfl
  refine cu_callXV (vx_runV (As := [.int v1]) (rest := []) ⟨hx, hb, hml, hown, hts⟩ ((m_X1_checkClock l hlf D C a N hN mn K P v1) H0.size) (cwV 1 hts gX1_wind_X1_checkClock rfl rfl rfl (by decide +kernel) ⟨Nat.le_of_ble_eq_true rfl, Nat.le_of_ble_eq_true rfl⟩) (cu_preXV (ci := 1) sp hG hP hD hT hS hA rfl rfl) rfl rfl hl.1 rfl (lv_room (Nat.le_of_ble_eq_true rfl)) dX1_wind_2 ⟨Nat.le_of_ble_eq_true rfl, Nat.le_of_ble_eq_true rfl⟩) sp hP hD hS hA (fun E ce q9 H locs hoE hP hS hce hcv hcl => prop E ce q9 H locs _ _ _ _ _ (by simp only [hoE, Option.none_or, Option.some_or, reduceIte]) hP hS hce hcv hcl (Nat.le_of_ble_eq_true rfl) (Nat.le_of_ble_eq_true rfl)) (fun H locs ho_2 hP hD hS => ?_)
  obtain ⟨i, hiN, rfl⟩ := k_oC_in hN ho_2
  have hi : i < 10 := by omega
  have hcl9 : (nI i).toNatClampNeg = i := nI_clamp (by omega)
  have hP : va_P D vwCl (cu_cw C a (nI N) mn K P) H := hP
  have hD : va_D A (cu_cw C a (nI N) mn K P) := hD
  refine lv_aload_n hx hb dX1_wind_5 rfl (lv_at hl 0 rfl) ?_
  refine va_get (D := D) (ci := 1) (v := .ref (a 1)) (C := RX1) (T := TX1) (N := 4) hx hb hts hiX1 hown hK hP 0 rfl rfl 0 (by decide) (hts (.fieldLink RX1 11 "CuckooShop" "clocks" "[LCuckooShop$Clock;") (by decide +kernel)) (fun _ h9 => h9) rfl dX1_wind_6 ?_
  refine lv_iload_n hx hb dX1_wind_9 rfl (lv_at hl 1 rfl) ?_
  refine cu_aaldK hi hx hb hK hP dX1_wind_10 ?_
  have sp := cu_spK (C := C) (a := a) (n := (nI N)) (m := mn) (K := K) (P := P) hi (upd (upd (K i) 2 600) 5 1)
  refine cu_callI (va_runVN (As := []) (rest := []) ⟨hx, hb, hml, hown, hts⟩ ((m_X0_drawUp l D C (a (3 + i)) (K i)) H.size) ⟨(va_cnB 0 hts gX1_wind_X0_drawUp_n66 rfl rfl rfl (hG.2.1 (66, yX0_drawUp) (by decide +kernel)) (hts (.initialized RX0) (by decide +kernel)) (by decide +kernel) ⟨Nat.le_of_ble_eq_true rfl, Nat.le_of_ble_eq_true rfl⟩), hts (.instanceMethod yX0_drawUp) (by decide +kernel), hts (.selects RX0 yX0_drawUp yX0_drawUp) (by decide +kernel)⟩ (cu_preV (ci := 0) sp hG hP hD rfl rfl) rfl rfl hl.1 rfl (lv_room (Nat.le_of_ble_eq_true rfl)) dX1_wind_11 ⟨Nat.le_of_ble_eq_true rfl, Nat.le_of_ble_eq_true rfl⟩) sp hP hD hS hA (fun H locs hP hD hS => ?_)
  have hP : va_P D vwCl (cu_cw C a (nI N) mn (va_up K i (upd (upd (K i) 2 600) 5 1)) P) H := hP
  have hD : va_D A (cu_cw C a (nI N) mn (va_up K i (upd (upd (K i) 2 600) 5 1)) P) := hD
  refine W.widen (k := 1) (n := 6) (Nat.le_of_ble_eq_true rfl) (Nat.le_of_ble_eq_true rfl) ?_
  exact fin _ _ _ _ _ rfl (by simp only [ho_2, Option.none_or, Option.some_or, reduceIte]) (by simp only [hcl9]) (by rw [hcl9]; exact hP) hS dX1_wind_14

set_option maxHeartbeats 4000000 in
set_option maxRecDepth 100000 in
theorem m_X1_stands (l : Launch) (hlf : l.stackTraces = false) (D : va_G) (C : Nat → ClassId) (a : Nat → Nat) (N : Nat) (hN : N ≤ 10) (mn : Int32) (K P : Nat → Nat → Int32) (v1 : Int32) : cu_XI l D C yX1_stands wsX1_stands { frames := 7, cells := 1, slots := 6, locals := 103 } [.ref (a 0), .int v1] (cu_cw C a (nI N) mn K P) (cu_cw C a (nI N) mn K P) (k_oC N v1) (k_stand (K v1.toNatClampNeg)) 1 6 := by
  refine cu_openXI (cc := cX1_stands) (maxL := 2) (ty := .int) hlf (by decide) rfl rfl (Nat.le_of_ble_eq_true rfl) ?_
  intro p e s m args below meth c A Z H0 ls e0 hx hb hml hts hown hnm hG hP hD hS hA hl hT fin thr prop
  have hK := hG.1
  have hl : lv_has ls 2 [(0, .ref (a 0)), (1, .int v1)] := hl
  have hiX1 : ∀ w ∈ wsX10, w ∈ wsX1_stands := by decide +kernel
  refine lv_aload_n hx hb dX1_stands_0 rfl (lv_at hl 0 rfl) ?_
  refine lv_iload_n hx hb dX1_stands_1 rfl (lv_at hl 1 rfl) ?_
  have sp := cu_sp.all (W0 := (cu_cw C a (nI N) mn K P)) (W1 := (cu_cw C a (nI N) mn K P)) rfl
  refine cu_callXV (vx_runV (As := [.int v1]) (rest := []) ⟨hx, hb, hml, hown, hts⟩ ((m_X1_checkClock l hlf D C a N hN mn K P v1) H0.size) (cwV 1 hts gX1_stands_X1_checkClock rfl rfl rfl (by decide +kernel) ⟨Nat.le_of_ble_eq_true rfl, Nat.le_of_ble_eq_true rfl⟩) (cu_preXV (ci := 1) sp hG hP hD hT hS hA rfl rfl) rfl rfl hl.1 rfl (lv_room (Nat.le_of_ble_eq_true rfl)) dX1_stands_2 ⟨Nat.le_of_ble_eq_true rfl, Nat.le_of_ble_eq_true rfl⟩) sp hP hD hS hA (fun E ce q9 H locs hoE hP hS hce hcv hcl => prop E ce q9 H locs _ _ _ _ _ (by simp only [hoE, Option.none_or, Option.some_or, reduceIte]) hP hS hce hcv hcl (Nat.le_of_ble_eq_true rfl) (Nat.le_of_ble_eq_true rfl)) (fun H locs ho_2 hP hD hS => ?_)
  obtain ⟨i, hiN, rfl⟩ := k_oC_in hN ho_2
  have hi : i < 10 := by omega
  have hcl9 : (nI i).toNatClampNeg = i := nI_clamp (by omega)
  have hP : va_P D vwCl (cu_cw C a (nI N) mn K P) H := hP
  have hD : va_D A (cu_cw C a (nI N) mn K P) := hD
  refine lv_aload_n hx hb dX1_stands_5 rfl (lv_at hl 0 rfl) ?_
  refine va_get (D := D) (ci := 1) (v := .ref (a 1)) (C := RX1) (T := TX1) (N := 4) hx hb hts hiX1 hown hK hP 0 rfl rfl 0 (by decide) (hts (.fieldLink RX1 11 "CuckooShop" "clocks" "[LCuckooShop$Clock;") (by decide +kernel)) (fun _ h9 => h9) rfl dX1_stands_6 ?_
  refine lv_iload_n hx hb dX1_stands_9 rfl (lv_at hl 1 rfl) ?_
  refine cu_aaldK hi hx hb hK hP dX1_stands_10 ?_
  have sp := cu_sp.rd (cu_cw_K (C := C) (a := a) (n := (nI N)) (m := mn) (K := K) (P := P) hi)
  refine cu_callI (va_runVN (As := []) (rest := []) ⟨hx, hb, hml, hown, hts⟩ ((m_X0_minutesToStand l D C (a (3 + i)) (K i)) H.size) ⟨(va_cnB 0 hts gX1_stands_X0_minutesToStand_n117 rfl rfl rfl (hG.2.1 (117, yX0_minutesToStand) (by decide +kernel)) (hts (.initialized RX0) (by decide +kernel)) (by decide +kernel) ⟨Nat.le_of_ble_eq_true rfl, Nat.le_of_ble_eq_true rfl⟩), hts (.instanceMethod yX0_minutesToStand) (by decide +kernel), hts (.selects RX0 yX0_minutesToStand yX0_minutesToStand) (by decide +kernel)⟩ (cu_preV (ci := 0) sp hG hP hD rfl rfl) rfl rfl hl.1 rfl (lv_room (Nat.le_of_ble_eq_true rfl)) dX1_stands_11 ⟨Nat.le_of_ble_eq_true rfl, Nat.le_of_ble_eq_true rfl⟩) sp hP hD hS hA (fun H locs hP hD hS => ?_)
  have hP : va_P D vwCl (cu_cw C a (nI N) mn K P) H := hP
  have hD : va_D A (cu_cw C a (nI N) mn K P) := hD
  refine W.widen (k := 1) (n := 6) (Nat.le_of_ble_eq_true rfl) (Nat.le_of_ble_eq_true rfl) ?_
  exact fin _ _ _ _ _ rfl (by simp only [ho_2, Option.none_or, Option.some_or, reduceIte]) (by simp only [hcl9]) hP hS dX1_stands_14

set_option maxHeartbeats 4000000 in
set_option maxRecDepth 100000 in
theorem m_X1_advise (l : Launch) (hlf : l.stackTraces = false) (D : va_G) (C : Nat → ClassId) (a : Nat → Nat) (N : Nat) (hN : N ≤ 10) (mn : Int32) (K P : Nat → Nat → Int32) (v1 : Int32) : cu_XI l D C yX1_advise wsX1_advise { frames := 7, cells := 1, slots := 6, locals := 103 } [.ref (a 0), .int v1] (cu_cw C a (nI N) mn K P) (cu_cw C a (nI N) mn K P) (k_oC N v1) (k_true (K v1.toNatClampNeg)) 1 6 := by
  refine cu_openXI (cc := cX1_advise) (maxL := 2) (ty := .int) hlf (by decide) rfl rfl (Nat.le_of_ble_eq_true rfl) ?_
  intro p e s m args below meth c A Z H0 ls e0 hx hb hml hts hown hnm hG hP hD hS hA hl hT fin thr prop
  have hK := hG.1
  have hl : lv_has ls 2 [(0, .ref (a 0)), (1, .int v1)] := hl
  have hiX1 : ∀ w ∈ wsX10, w ∈ wsX1_advise := by decide +kernel
  refine lv_aload_n hx hb dX1_advise_0 rfl (lv_at hl 0 rfl) ?_
  refine lv_iload_n hx hb dX1_advise_1 rfl (lv_at hl 1 rfl) ?_
  have sp := cu_sp.all (W0 := (cu_cw C a (nI N) mn K P)) (W1 := (cu_cw C a (nI N) mn K P)) rfl
  refine cu_callXV (vx_runV (As := [.int v1]) (rest := []) ⟨hx, hb, hml, hown, hts⟩ ((m_X1_checkClock l hlf D C a N hN mn K P v1) H0.size) (cwV 1 hts gX1_advise_X1_checkClock rfl rfl rfl (by decide +kernel) ⟨Nat.le_of_ble_eq_true rfl, Nat.le_of_ble_eq_true rfl⟩) (cu_preXV (ci := 1) sp hG hP hD hT hS hA rfl rfl) rfl rfl hl.1 rfl (lv_room (Nat.le_of_ble_eq_true rfl)) dX1_advise_2 ⟨Nat.le_of_ble_eq_true rfl, Nat.le_of_ble_eq_true rfl⟩) sp hP hD hS hA (fun E ce q9 H locs hoE hP hS hce hcv hcl => prop E ce q9 H locs _ _ _ _ _ (by simp only [hoE, Option.none_or, Option.some_or, reduceIte]) hP hS hce hcv hcl (Nat.le_of_ble_eq_true rfl) (Nat.le_of_ble_eq_true rfl)) (fun H locs ho_2 hP hD hS => ?_)
  obtain ⟨i, hiN, rfl⟩ := k_oC_in hN ho_2
  have hi : i < 10 := by omega
  have hcl9 : (nI i).toNatClampNeg = i := nI_clamp (by omega)
  have hP : va_P D vwCl (cu_cw C a (nI N) mn K P) H := hP
  have hD : va_D A (cu_cw C a (nI N) mn K P) := hD
  refine lv_aload_n hx hb dX1_advise_5 rfl (lv_at hl 0 rfl) ?_
  refine va_get (D := D) (ci := 1) (v := .ref (a 1)) (C := RX1) (T := TX1) (N := 4) hx hb hts hiX1 hown hK hP 0 rfl rfl 0 (by decide) (hts (.fieldLink RX1 11 "CuckooShop" "clocks" "[LCuckooShop$Clock;") (by decide +kernel)) (fun _ h9 => h9) rfl dX1_advise_6 ?_
  refine lv_iload_n hx hb dX1_advise_9 rfl (lv_at hl 1 rfl) ?_
  refine cu_aaldK hi hx hb hK hP dX1_advise_10 ?_
  have sp := cu_sp.rd (cu_cw_K (C := C) (a := a) (n := (nI N)) (m := mn) (K := K) (P := P) hi)
  refine cu_callI (va_runVN (As := []) (rest := []) ⟨hx, hb, hml, hown, hts⟩ ((m_X0_truestGears l D C (a (3 + i)) (K i)) H.size) ⟨(va_cnB 0 hts gX1_advise_X0_truestGears_n131 rfl rfl rfl (hG.2.1 (131, yX0_truestGears) (by decide +kernel)) (hts (.initialized RX0) (by decide +kernel)) (by decide +kernel) ⟨Nat.le_of_ble_eq_true rfl, Nat.le_of_ble_eq_true rfl⟩), hts (.instanceMethod yX0_truestGears) (by decide +kernel), hts (.selects RX0 yX0_truestGears yX0_truestGears) (by decide +kernel)⟩ (cu_preV (ci := 0) sp hG hP hD rfl rfl) rfl rfl hl.1 rfl (lv_room (Nat.le_of_ble_eq_true rfl)) dX1_advise_11 ⟨Nat.le_of_ble_eq_true rfl, Nat.le_of_ble_eq_true rfl⟩) sp hP hD hS hA (fun H locs hP hD hS => ?_)
  have hP : va_P D vwCl (cu_cw C a (nI N) mn K P) H := hP
  have hD : va_D A (cu_cw C a (nI N) mn K P) := hD
  refine W.widen (k := 1) (n := 6) (Nat.le_of_ble_eq_true rfl) (Nat.le_of_ble_eq_true rfl) ?_
  exact fin _ _ _ _ _ rfl (by simp only [ho_2, Option.none_or, Option.some_or, reduceIte]) (by simp only [hcl9]) hP hS dX1_advise_14

set_option maxHeartbeats 4000000 in
set_option maxRecDepth 100000 in
theorem m_X1_off (l : Launch) (hlf : l.stackTraces = false) (D : va_G) (C : Nat → ClassId) (a : Nat → Nat) (N : Nat) (hN : N ≤ 10) (mn : Int32) (K P : Nat → Nat → Int32) (v1 : Int32) : cu_XI l D C yX1_off wsX1_off { frames := 7, cells := 1, slots := 6, locals := 103 } [.ref (a 0), .int v1] (cu_cw C a (nI N) mn K P) (cu_cw C a (nI N) mn K P) (k_oC N v1) (k_off (K v1.toNatClampNeg) mn) 1 6 := by
  refine cu_openXI (cc := cX1_off) (maxL := 2) (ty := .int) hlf (by decide) rfl rfl (Nat.le_of_ble_eq_true rfl) ?_
  intro p e s m args below meth c A Z H0 ls e0 hx hb hml hts hown hnm hG hP hD hS hA hl hT fin thr prop
  have hK := hG.1
  have hl : lv_has ls 2 [(0, .ref (a 0)), (1, .int v1)] := hl
  have hiX1 : ∀ w ∈ wsX10, w ∈ wsX1_off := by decide +kernel
  refine lv_aload_n hx hb dX1_off_0 rfl (lv_at hl 0 rfl) ?_
  refine lv_iload_n hx hb dX1_off_1 rfl (lv_at hl 1 rfl) ?_
  have sp := cu_sp.all (W0 := (cu_cw C a (nI N) mn K P)) (W1 := (cu_cw C a (nI N) mn K P)) rfl
  refine cu_callXV (vx_runV (As := [.int v1]) (rest := []) ⟨hx, hb, hml, hown, hts⟩ ((m_X1_checkClock l hlf D C a N hN mn K P v1) H0.size) (cwV 1 hts gX1_off_X1_checkClock rfl rfl rfl (by decide +kernel) ⟨Nat.le_of_ble_eq_true rfl, Nat.le_of_ble_eq_true rfl⟩) (cu_preXV (ci := 1) sp hG hP hD hT hS hA rfl rfl) rfl rfl hl.1 rfl (lv_room (Nat.le_of_ble_eq_true rfl)) dX1_off_2 ⟨Nat.le_of_ble_eq_true rfl, Nat.le_of_ble_eq_true rfl⟩) sp hP hD hS hA (fun E ce q9 H locs hoE hP hS hce hcv hcl => prop E ce q9 H locs _ _ _ _ _ (by simp only [hoE, Option.none_or, Option.some_or, reduceIte]) hP hS hce hcv hcl (Nat.le_of_ble_eq_true rfl) (Nat.le_of_ble_eq_true rfl)) (fun H locs ho_2 hP hD hS => ?_)
  obtain ⟨i, hiN, rfl⟩ := k_oC_in hN ho_2
  have hi : i < 10 := by omega
  have hcl9 : (nI i).toNatClampNeg = i := nI_clamp (by omega)
  have hP : va_P D vwCl (cu_cw C a (nI N) mn K P) H := hP
  have hD : va_D A (cu_cw C a (nI N) mn K P) := hD
  refine lv_aload_n hx hb dX1_off_5 rfl (lv_at hl 0 rfl) ?_
  refine va_get (D := D) (ci := 1) (v := .ref (a 1)) (C := RX1) (T := TX1) (N := 4) hx hb hts hiX1 hown hK hP 0 rfl rfl 0 (by decide) (hts (.fieldLink RX1 11 "CuckooShop" "clocks" "[LCuckooShop$Clock;") (by decide +kernel)) (fun _ h9 => h9) rfl dX1_off_6 ?_
  refine lv_iload_n hx hb dX1_off_9 rfl (lv_at hl 1 rfl) ?_
  refine cu_aaldK hi hx hb hK hP dX1_off_10 ?_
  refine lv_aload_n hx hb dX1_off_11 rfl (lv_at hl 0 rfl) ?_
  refine va_get (D := D) (ci := 1) (v := .int mn) (C := RX1) (T := TX1) (N := 4) hx hb hts hiX1 hown hK hP 0 rfl rfl 3 (by decide) (hts (.fieldLink RX1 23 "CuckooShop" "minute" "I") (by decide +kernel)) (fun _ h9 => h9) rfl dX1_off_12 ?_
  have sp := cu_sp.rd (cu_cw_K (C := C) (a := a) (n := (nI N)) (m := mn) (K := K) (P := P) hi)
  refine cu_callI (va_runS (As := [.ref (a (3 + i)), .int mn]) (rest := []) ⟨hx, hb, hml, hown, hts⟩ ((m_X1_offOf l D C (a (3 + i)) (K i) mn) H.size) (va_cwS 2 hts gX1_off_X1_offOf rfl rfl rfl (by decide +kernel) ⟨Nat.le_of_ble_eq_true rfl, Nat.le_of_ble_eq_true rfl⟩) (cu_preS sp hG hP hD) rfl rfl hl.1 rfl (lv_room (Nat.le_of_ble_eq_true rfl)) dX1_off_15 ⟨Nat.le_of_ble_eq_true rfl, Nat.le_of_ble_eq_true rfl⟩) sp hP hD hS hA (fun H locs hP hD hS => ?_)
  refine W.widen (k := 1) (n := 6) (Nat.le_of_ble_eq_true rfl) (Nat.le_of_ble_eq_true rfl) ?_
  exact fin _ _ _ _ _ rfl (by simp only [ho_2, Option.none_or, Option.some_or, reduceIte]) (by simp only [hcl9]) hP hS dX1_off_18

set_option maxHeartbeats 4000000 in
set_option maxRecDepth 100000 in
theorem m_X1_clock (l : Launch) (hlf : l.stackTraces = false) (D : va_G) (C : Nat → ClassId) (a : Nat → Nat) (N : Nat) (hN : N ≤ 10) (mn : Int32) (K P : Nat → Nat → Int32) (v1 : Int32) (v2 : Int32) : cu_XI l D C yX1_clock wsX1_clock { frames := 7, cells := 2, slots := 12, locals := 103 } [.ref (a 0), .int v1, .int v2] (cu_cw C a (nI N) mn K P) (cu_cw C a (nI N) mn K P) ((k_oC N v1).or (k_oR v2)) (k_read (K v1.toNatClampNeg) v2) 2 12 := by
  refine cu_openXI (cc := cX1_clock) (maxL := 3) (ty := .int) hlf (by decide) rfl rfl (Nat.le_of_ble_eq_true rfl) ?_
  intro p e s m args below meth c A Z H0 ls e0 hx hb hml hts hown hnm hG hP hD hS hA hl hT fin thr prop
  have hK := hG.1
  have hl : lv_has ls 3 [(0, .ref (a 0)), (1, .int v1), (2, .int v2)] := hl
  have hiX1 : ∀ w ∈ wsX10, w ∈ wsX1_clock := by decide +kernel
  refine lv_aload_n hx hb dX1_clock_0 rfl (lv_at hl 0 rfl) ?_
  refine lv_iload_n hx hb dX1_clock_1 rfl (lv_at hl 1 rfl) ?_
  have sp := cu_sp.all (W0 := (cu_cw C a (nI N) mn K P)) (W1 := (cu_cw C a (nI N) mn K P)) rfl
  refine cu_callXV (vx_runV (As := [.int v1]) (rest := []) ⟨hx, hb, hml, hown, hts⟩ ((m_X1_checkClock l hlf D C a N hN mn K P v1) H0.size) (cwV 1 hts gX1_clock_X1_checkClock rfl rfl rfl (by decide +kernel) ⟨Nat.le_of_ble_eq_true rfl, Nat.le_of_ble_eq_true rfl⟩) (cu_preXV (ci := 1) sp hG hP hD hT hS hA rfl rfl) rfl rfl hl.1 rfl (lv_room (Nat.le_of_ble_eq_true rfl)) dX1_clock_2 ⟨Nat.le_of_ble_eq_true rfl, Nat.le_of_ble_eq_true rfl⟩) sp hP hD hS hA (fun E ce q9 H locs hoE hP hS hce hcv hcl => prop E ce q9 H locs _ _ _ _ _ (by simp only [k_oR, hoE, Option.none_or, Option.some_or, reduceIte]) hP hS hce hcv hcl (Nat.le_of_ble_eq_true rfl) (Nat.le_of_ble_eq_true rfl)) (fun H locs ho_2 hP hD hS => ?_)
  obtain ⟨i, hiN, rfl⟩ := k_oC_in hN ho_2
  have hi : i < 10 := by omega
  have hcl9 : (nI i).toNatClampNeg = i := nI_clamp (by omega)
  have hP : va_P D vwCl (cu_cw C a (nI N) mn K P) H := hP
  have hD : va_D A (cu_cw C a (nI N) mn K P) := hD
  refine lv_iload_n hx hb dX1_clock_5 rfl (lv_at hl 2 rfl) ?_
  refine lv_iconst (v := 0) hx hb dX1_clock_6 (by decide) ?_
  refine lv_bipush (v := 10) hx hb dX1_clock_7 (by decide) ?_
  have sp := cu_sp.nil (W0 := (cu_cw C a (nI N) mn K P))
  refine cu_callI (va_runS (As := [.int v2, .int 0, .int 10]) (rest := []) ⟨hx, hb, hml, hown, hts⟩ ((m_X1_isWithin l D C v2 0 10) H.size) (va_cwS 3 hts gX1_clock_X1_isWithin rfl rfl rfl (by decide +kernel) ⟨Nat.le_of_ble_eq_true rfl, Nat.le_of_ble_eq_true rfl⟩) (cu_preS sp hG hP hD) rfl rfl hl.1 rfl (lv_room (Nat.le_of_ble_eq_true rfl)) dX1_clock_9 ⟨Nat.le_of_ble_eq_true rfl, Nat.le_of_ble_eq_true rfl⟩) sp hP hD hS hA (fun H locs hP hD hS => ?_)
  refine lv_if_ne (tgt := 25) hx hb dX1_clock_12 (by decide) (fun c_12 => ?_) (fun c_12 => ?_)
  · refine lv_aload_n hx hb dX1_clock_25 rfl (lv_at hl 0 rfl) ?_
    refine va_get (D := D) (ci := 1) (v := .ref (a 1)) (C := RX1) (T := TX1) (N := 4) hx hb hts hiX1 hown hK hP 0 rfl rfl 0 (by decide) (hts (.fieldLink RX1 11 "CuckooShop" "clocks" "[LCuckooShop$Clock;") (by decide +kernel)) (fun _ h9 => h9) rfl dX1_clock_26 ?_
    refine lv_iload_n hx hb dX1_clock_29 rfl (lv_at hl 1 rfl) ?_
    refine cu_aaldK hi hx hb hK hP dX1_clock_30 ?_
    refine lv_iload_n hx hb dX1_clock_31 rfl (lv_at hl 2 rfl) ?_
    have sp := cu_sp.rd (cu_cw_K (C := C) (a := a) (n := (nI N)) (m := mn) (K := K) (P := P) hi)
    refine cu_callI (va_runVN (As := [.int v2]) (rest := []) ⟨hx, hb, hml, hown, hts⟩ ((m_X0_reading l D C (a (3 + i)) (K i) v2) H.size) ⟨(va_cnB 1 hts gX1_clock_X0_reading_n91 rfl rfl rfl (hG.2.1 (91, yX0_reading) (by decide +kernel)) (hts (.initialized RX0) (by decide +kernel)) (by decide +kernel) ⟨Nat.le_of_ble_eq_true rfl, Nat.le_of_ble_eq_true rfl⟩), hts (.instanceMethod yX0_reading) (by decide +kernel), hts (.selects RX0 yX0_reading yX0_reading) (by decide +kernel)⟩ (cu_preV (ci := 0) sp hG hP hD rfl rfl) rfl rfl hl.1 rfl (lv_room (Nat.le_of_ble_eq_true rfl)) dX1_clock_32 ⟨Nat.le_of_ble_eq_true rfl, Nat.le_of_ble_eq_true rfl⟩) sp hP hD hS hA (fun H locs hP hD hS => ?_)
    have hP : va_P D vwCl (cu_cw C a (nI N) mn K P) H := hP
    have hD : va_D A (cu_cw C a (nI N) mn K P) := hD
    refine W.widen (k := 2) (n := 12) (Nat.le_of_ble_eq_true rfl) (Nat.le_of_ble_eq_true rfl) ?_
    exact fin _ _ _ _ _ rfl (by simp only [k_oR, ho_2, if_neg c_12, Option.none_or, Option.some_or, reduceIte]) (by simp only [hcl9]) hP hS dX1_clock_35
  · exact thr x_IOB "what is told of a clock is 0 to 10" 86 88 90 _ _ 15 _ _ _ _ cu_th_IOB (hts (.classLink RX1 86 x_IOB) (by decide +kernel)) (hts (.initialized x_IOB) (by decide +kernel)) (by decide +kernel) (by decide +kernel) hS hl.1 dX1_clock_15 dX1_clock_18 dX1_clock_19 dX1_clock_21 dX1_clock_24 (Nat.le_of_ble_eq_true rfl) (Nat.le_of_ble_eq_true rfl) (Nat.le_of_ble_eq_true rfl) (Nat.le_of_ble_eq_true rfl) (Nat.le_of_ble_eq_true rfl) (Nat.le_of_ble_eq_true rfl) (by simp only [k_oR, ho_2, if_pos c_12, Option.none_or, Option.some_or, reduceIte]) hP

set_option maxHeartbeats 4000000 in
set_option maxRecDepth 100000 in
theorem m_X1_gear (l : Launch) (hlf : l.stackTraces = false) (D : va_G) (C : Nat → ClassId) (a : Nat → Nat) (N : Nat) (hN : N ≤ 10) (mn : Int32) (K P : Nat → Nat → Int32) (v1 : Int32) (v2 : Int32) (v3 : Int32) (v4 : Int32) : cu_XI l D C yX1_gear wsX1_gear { frames := 7, cells := 2, slots := 12, locals := 103 } [.ref (a 0), .int v1, .int v2, .int v3, .int v4] (cu_cw C a (nI N) mn K P) (cu_cw C a (nI N) mn (va_up K v1.toNatClampNeg (upd (upd (upd (K v1.toNatClampNeg) 9 v2) 10 v3) 11 v4)) P) ((k_oC N v1).or (k_oG v2 v3 v4)) (k_adv (upd (upd (upd (K v1.toNatClampNeg) 9 v2) 10 v3) 11 v4)) 2 12 := by
  refine cu_openXI (cc := cX1_gear) (maxL := 5) (ty := .int) hlf (by decide) rfl rfl (Nat.le_of_ble_eq_true rfl) ?_
  intro p e s m args below meth c A Z H0 ls e0 hx hb hml hts hown hnm hG hP hD hS hA hl hT fin thr prop
  have hK := hG.1
  have hl : lv_has ls 5 [(0, .ref (a 0)), (1, .int v1), (2, .int v2), (3, .int v3), (4, .int v4)] := hl
  have hiX1 : ∀ w ∈ wsX10, w ∈ wsX1_gear := by decide +kernel
  refine lv_aload_n hx hb dX1_gear_0 rfl (lv_at hl 0 rfl) ?_
  refine lv_iload_n hx hb dX1_gear_1 rfl (lv_at hl 1 rfl) ?_
  have sp := cu_sp.all (W0 := (cu_cw C a (nI N) mn K P)) (W1 := (cu_cw C a (nI N) mn K P)) rfl
  refine cu_callXV (vx_runV (As := [.int v1]) (rest := []) ⟨hx, hb, hml, hown, hts⟩ ((m_X1_checkClock l hlf D C a N hN mn K P v1) H0.size) (cwV 1 hts gX1_gear_X1_checkClock rfl rfl rfl (by decide +kernel) ⟨Nat.le_of_ble_eq_true rfl, Nat.le_of_ble_eq_true rfl⟩) (cu_preXV (ci := 1) sp hG hP hD hT hS hA rfl rfl) rfl rfl hl.1 rfl (lv_room (Nat.le_of_ble_eq_true rfl)) dX1_gear_2 ⟨Nat.le_of_ble_eq_true rfl, Nat.le_of_ble_eq_true rfl⟩) sp hP hD hS hA (fun E ce q9 H locs hoE hP hS hce hcv hcl => prop E ce q9 H locs _ _ _ _ _ (by simp only [k_oG, hoE, Option.none_or, Option.some_or, reduceIte]) hP hS hce hcv hcl (Nat.le_of_ble_eq_true rfl) (Nat.le_of_ble_eq_true rfl)) (fun H locs ho_2 hP hD hS => ?_)
  obtain ⟨i, hiN, rfl⟩ := k_oC_in hN ho_2
  have hi : i < 10 := by omega
  have hcl9 : (nI i).toNatClampNeg = i := nI_clamp (by omega)
  have hP : va_P D vwCl (cu_cw C a (nI N) mn K P) H := hP
  have hD : va_D A (cu_cw C a (nI N) mn K P) := hD
  refine lv_iload_n hx hb dX1_gear_5 rfl (lv_at hl 2 rfl) ?_
  refine lv_bipush (v := 20) hx hb dX1_gear_6 (by decide) ?_
  refine lv_bipush (v := 40) hx hb dX1_gear_8 (by decide) ?_
  have sp := cu_sp.nil (W0 := (cu_cw C a (nI N) mn K P))
  refine cu_callI (va_runS (As := [.int v2, .int 20, .int 40]) (rest := []) ⟨hx, hb, hml, hown, hts⟩ ((m_X1_isWithin l D C v2 20 40) H.size) (va_cwS 3 hts gX1_gear_X1_isWithin rfl rfl rfl (by decide +kernel) ⟨Nat.le_of_ble_eq_true rfl, Nat.le_of_ble_eq_true rfl⟩) (cu_preS sp hG hP hD) rfl rfl hl.1 rfl (lv_room (Nat.le_of_ble_eq_true rfl)) dX1_gear_10 ⟨Nat.le_of_ble_eq_true rfl, Nat.le_of_ble_eq_true rfl⟩) sp hP hD hS hA (fun H locs hP hD hS => ?_)
  refine lv_if_eq (tgt := 27) hx hb dX1_gear_13 (by decide) (fun c_13 => ?_) (fun c_13 => ?_)
  · exact thr x_IAE "a gear has 20 to 40 teeth" 47 49 51 _ _ 27 _ _ _ _ cu_th_IAE (hts (.classLink RX1 47 x_IAE) (by decide +kernel)) (hts (.initialized x_IAE) (by decide +kernel)) (by decide +kernel) (by decide +kernel) hS hl.1 dX1_gear_27 dX1_gear_30 dX1_gear_31 dX1_gear_33 dX1_gear_36 (Nat.le_of_ble_eq_true rfl) (Nat.le_of_ble_eq_true rfl) (Nat.le_of_ble_eq_true rfl) (Nat.le_of_ble_eq_true rfl) (Nat.le_of_ble_eq_true rfl) (Nat.le_of_ble_eq_true rfl) (by simp only [k_oG, ho_2, if_pos c_13, Option.none_or, Option.some_or, reduceIte]) hP
  · refine lv_iload_n hx hb dX1_gear_16 rfl (lv_at hl 3 rfl) ?_
    refine lv_bipush (v := 20) hx hb dX1_gear_17 (by decide) ?_
    refine lv_bipush (v := 40) hx hb dX1_gear_19 (by decide) ?_
    have sp := cu_sp.nil (W0 := (cu_cw C a (nI N) mn K P))
    refine cu_callI (va_runS (As := [.int v3, .int 20, .int 40]) (rest := []) ⟨hx, hb, hml, hown, hts⟩ ((m_X1_isWithin l D C v3 20 40) H.size) (va_cwS 3 hts gX1_gear_X1_isWithin rfl rfl rfl (by decide +kernel) ⟨Nat.le_of_ble_eq_true rfl, Nat.le_of_ble_eq_true rfl⟩) (cu_preS sp hG hP hD) rfl rfl hl.1 rfl (lv_room (Nat.le_of_ble_eq_true rfl)) dX1_gear_21 ⟨Nat.le_of_ble_eq_true rfl, Nat.le_of_ble_eq_true rfl⟩) sp hP hD hS hA (fun H locs hP hD hS => ?_)
    refine lv_if_ne (tgt := 37) hx hb dX1_gear_24 (by decide) (fun c_24 => ?_) (fun c_24 => ?_)
    · refine lv_iload hx hb dX1_gear_37 (lv_at hl 4 rfl) ?_
      refine lv_bipush (v := -20) hx hb dX1_gear_39 (by decide) ?_
      refine lv_bipush (v := 20) hx hb dX1_gear_41 (by decide) ?_
      have sp := cu_sp.nil (W0 := (cu_cw C a (nI N) mn K P))
      refine cu_callI (va_runS (As := [.int v4, .int (-20), .int 20]) (rest := []) ⟨hx, hb, hml, hown, hts⟩ ((m_X1_isWithin l D C v4 (-20) 20) H.size) (va_cwS 3 hts gX1_gear_X1_isWithin rfl rfl rfl (by decide +kernel) ⟨Nat.le_of_ble_eq_true rfl, Nat.le_of_ble_eq_true rfl⟩) (cu_preS sp hG hP hD) rfl rfl hl.1 rfl (lv_room (Nat.le_of_ble_eq_true rfl)) dX1_gear_43 ⟨Nat.le_of_ble_eq_true rfl, Nat.le_of_ble_eq_true rfl⟩) sp hP hD hS hA (fun H locs hP hD hS => ?_)
      refine lv_if_ne (tgt := 59) hx hb dX1_gear_46 (by decide) (fun c_46 => ?_) (fun c_46 => ?_)
      · refine lv_aload_n hx hb dX1_gear_59 rfl (lv_at hl 0 rfl) ?_
        refine va_get (D := D) (ci := 1) (v := .ref (a 1)) (C := RX1) (T := TX1) (N := 4) hx hb hts hiX1 hown hK hP 0 rfl rfl 0 (by decide) (hts (.fieldLink RX1 11 "CuckooShop" "clocks" "[LCuckooShop$Clock;") (by decide +kernel)) (fun _ h9 => h9) rfl dX1_gear_60 ?_
        refine lv_iload_n hx hb dX1_gear_63 rfl (lv_at hl 1 rfl) ?_
        refine cu_aaldK hi hx hb hK hP dX1_gear_64 ?_
        refine lv_iload_n hx hb dX1_gear_65 rfl (lv_at hl 2 rfl) ?_
        refine lv_iload_n hx hb dX1_gear_66 rfl (lv_at hl 3 rfl) ?_
        refine lv_iload hx hb dX1_gear_67 (lv_at hl 4 rfl) ?_
        have sp := cu_spK (C := C) (a := a) (n := (nI N)) (m := mn) (K := K) (P := P) hi (upd (upd (upd (K i) 9 v2) 10 v3) 11 v4)
        refine cu_callV (va_runVN (As := [.int v2, .int v3, .int v4]) (rest := []) ⟨hx, hb, hml, hown, hts⟩ ((m_X0_fitTrain l D C (a (3 + i)) (K i) v2 v3 v4) H.size) ⟨(va_cnB 3 hts gX1_gear_X0_fitTrain_n54 rfl rfl rfl (hG.2.1 (54, yX0_fitTrain) (by decide +kernel)) (hts (.initialized RX0) (by decide +kernel)) (by decide +kernel) ⟨Nat.le_of_ble_eq_true rfl, Nat.le_of_ble_eq_true rfl⟩), hts (.instanceMethod yX0_fitTrain) (by decide +kernel), hts (.selects RX0 yX0_fitTrain yX0_fitTrain) (by decide +kernel)⟩ (cu_preV (ci := 0) sp hG hP hD rfl rfl) rfl rfl hl.1 rfl (lv_room (Nat.le_of_ble_eq_true rfl)) dX1_gear_69 ⟨Nat.le_of_ble_eq_true rfl, Nat.le_of_ble_eq_true rfl⟩) sp hP hD hS hA (fun H locs hP hD hS => ?_)
        have hP : va_P D vwCl (cu_cw C a (nI N) mn (va_up K i (upd (upd (upd (K i) 9 v2) 10 v3) 11 v4)) P) H := hP
        have hD : va_D A (cu_cw C a (nI N) mn (va_up K i (upd (upd (upd (K i) 9 v2) 10 v3) 11 v4)) P) := hD
        refine lv_aload_n hx hb dX1_gear_72 rfl (lv_at hl 0 rfl) ?_
        refine va_get (D := D) (ci := 1) (v := .ref (a 1)) (C := RX1) (T := TX1) (N := 4) hx hb hts hiX1 hown hK hP 0 rfl rfl 0 (by decide) (hts (.fieldLink RX1 11 "CuckooShop" "clocks" "[LCuckooShop$Clock;") (by decide +kernel)) (fun _ h9 => h9) rfl dX1_gear_73 ?_
        refine lv_iload_n hx hb dX1_gear_76 rfl (lv_at hl 1 rfl) ?_
        refine cu_aaldK hi hx hb hK hP dX1_gear_77 ?_
        have sp := cu_sp.rd (cu_cw_K (C := C) (a := a) (n := (nI N)) (m := mn) (K := (va_up K i (upd (upd (upd (K i) 9 v2) 10 v3) 11 v4))) (P := P) hi)
        refine cu_callI (va_runVN (As := []) (rest := []) ⟨hx, hb, hml, hown, hts⟩ ((m_X0_advance l D C (a (3 + i)) ((va_up K i (upd (upd (upd (K i) 9 v2) 10 v3) 11 v4)) i)) H.size) ⟨(va_cnB 0 hts gX1_gear_X0_advance_n58 rfl rfl rfl (hG.2.1 (58, yX0_advance) (by decide +kernel)) (hts (.initialized RX0) (by decide +kernel)) (by decide +kernel) ⟨Nat.le_of_ble_eq_true rfl, Nat.le_of_ble_eq_true rfl⟩), hts (.instanceMethod yX0_advance) (by decide +kernel), hts (.selects RX0 yX0_advance yX0_advance) (by decide +kernel)⟩ (cu_preV (ci := 0) sp hG hP hD rfl rfl) rfl rfl hl.1 rfl (lv_room (Nat.le_of_ble_eq_true rfl)) dX1_gear_78 ⟨Nat.le_of_ble_eq_true rfl, Nat.le_of_ble_eq_true rfl⟩) sp hP hD hS hA (fun H locs hP hD hS => ?_)
        have hP : va_P D vwCl (cu_cw C a (nI N) mn (va_up K i (upd (upd (upd (K i) 9 v2) 10 v3) 11 v4)) P) H := hP
        have hD : va_D A (cu_cw C a (nI N) mn (va_up K i (upd (upd (upd (K i) 9 v2) 10 v3) 11 v4)) P) := hD
        refine W.widen (k := 2) (n := 12) (Nat.le_of_ble_eq_true rfl) (Nat.le_of_ble_eq_true rfl) ?_
        exact fin _ _ _ _ _ rfl (by simp only [k_oG, ho_2, if_neg c_13, if_neg c_24, if_neg c_46, Option.none_or, Option.some_or, reduceIte]) (by simp only [hcl9]; rw [va_up_self]) (by rw [hcl9]; exact hP) hS dX1_gear_81
      · exact thr x_IAE "a pendulum is -20 to 20" 47 52 51 _ _ 49 _ _ _ _ cu_th_IAE (hts (.classLink RX1 47 x_IAE) (by decide +kernel)) (hts (.initialized x_IAE) (by decide +kernel)) (by decide +kernel) (by decide +kernel) hS hl.1 dX1_gear_49 dX1_gear_52 dX1_gear_53 dX1_gear_55 dX1_gear_58 (Nat.le_of_ble_eq_true rfl) (Nat.le_of_ble_eq_true rfl) (Nat.le_of_ble_eq_true rfl) (Nat.le_of_ble_eq_true rfl) (Nat.le_of_ble_eq_true rfl) (Nat.le_of_ble_eq_true rfl) (by simp only [k_oG, ho_2, if_neg c_13, if_neg c_24, if_pos c_46, Option.none_or, Option.some_or, reduceIte]) hP
    · exact thr x_IAE "a gear has 20 to 40 teeth" 47 49 51 _ _ 27 _ _ _ _ cu_th_IAE (hts (.classLink RX1 47 x_IAE) (by decide +kernel)) (hts (.initialized x_IAE) (by decide +kernel)) (by decide +kernel) (by decide +kernel) hS hl.1 dX1_gear_27 dX1_gear_30 dX1_gear_31 dX1_gear_33 dX1_gear_36 (Nat.le_of_ble_eq_true rfl) (Nat.le_of_ble_eq_true rfl) (Nat.le_of_ble_eq_true rfl) (Nat.le_of_ble_eq_true rfl) (Nat.le_of_ble_eq_true rfl) (Nat.le_of_ble_eq_true rfl) (by simp only [k_oG, ho_2, if_neg c_13, if_pos c_24, Option.none_or, Option.some_or, reduceIte]) hP

set_option maxHeartbeats 4000000 in
set_option maxRecDepth 100000 in
theorem m_X1_set (l : Launch) (hlf : l.stackTraces = false) (D : va_G) (C : Nat → ClassId) (a : Nat → Nat) (N : Nat) (hN : N ≤ 10) (mn : Int32) (K P : Nat → Nat → Int32) (v1 : Int32) (v2 : Int32) : cu_XI l D C yX1_set wsX1_set { frames := 7, cells := 2, slots := 12, locals := 103 } [.ref (a 0), .int v1, .int v2] (cu_cw C a (nI N) mn K P) (cu_cw C a (nI N) mn (va_up K v1.toNatClampNeg (upd (upd (K v1.toNatClampNeg) 0 v2) 1 0)) P) ((k_oC N v1).or (k_oT v2)) (k_off (K v1.toNatClampNeg) mn) 2 12 := by
  refine cu_openXI (cc := cX1_set) (maxL := 4) (ty := .int) hlf (by decide) rfl rfl (Nat.le_of_ble_eq_true rfl) ?_
  intro p e s m args below meth c A Z H0 ls e0 hx hb hml hts hown hnm hG hP hD hS hA hl hT fin thr prop
  have hK := hG.1
  have hl : lv_has ls 4 [(0, .ref (a 0)), (1, .int v1), (2, .int v2)] := hl
  have hiX1 : ∀ w ∈ wsX10, w ∈ wsX1_set := by decide +kernel
  refine lv_aload_n hx hb dX1_set_0 rfl (lv_at hl 0 rfl) ?_
  refine lv_iload_n hx hb dX1_set_1 rfl (lv_at hl 1 rfl) ?_
  have sp := cu_sp.all (W0 := (cu_cw C a (nI N) mn K P)) (W1 := (cu_cw C a (nI N) mn K P)) rfl
  refine cu_callXV (vx_runV (As := [.int v1]) (rest := []) ⟨hx, hb, hml, hown, hts⟩ ((m_X1_checkClock l hlf D C a N hN mn K P v1) H0.size) (cwV 1 hts gX1_set_X1_checkClock rfl rfl rfl (by decide +kernel) ⟨Nat.le_of_ble_eq_true rfl, Nat.le_of_ble_eq_true rfl⟩) (cu_preXV (ci := 1) sp hG hP hD hT hS hA rfl rfl) rfl rfl hl.1 rfl (lv_room (Nat.le_of_ble_eq_true rfl)) dX1_set_2 ⟨Nat.le_of_ble_eq_true rfl, Nat.le_of_ble_eq_true rfl⟩) sp hP hD hS hA (fun E ce q9 H locs hoE hP hS hce hcv hcl => prop E ce q9 H locs _ _ _ _ _ (by simp only [hoE, Option.none_or, Option.some_or, reduceIte]) hP hS hce hcv hcl (Nat.le_of_ble_eq_true rfl) (Nat.le_of_ble_eq_true rfl)) (fun H locs ho_2 hP hD hS => ?_)
  obtain ⟨i, hiN, rfl⟩ := k_oC_in hN ho_2
  have hi : i < 10 := by omega
  have hcl9 : (nI i).toNatClampNeg = i := nI_clamp (by omega)
  have hP : va_P D vwCl (cu_cw C a (nI N) mn K P) H := hP
  have hD : va_D A (cu_cw C a (nI N) mn K P) := hD
  refine lv_iload_n hx hb dX1_set_5 rfl (lv_at hl 2 rfl) ?_
  have sp := cu_sp.nil (W0 := (cu_cw C a (nI N) mn K P))
  refine cu_callXV (vx_runS (As := [.int v2]) (rest := []) ⟨hx, hb, hml, hown, hts⟩ ((m_X1_checkTime l hlf D C v2) H.size) (va_cwS 1 hts gX1_set_X1_checkTime rfl rfl rfl (by decide +kernel) ⟨Nat.le_of_ble_eq_true rfl, Nat.le_of_ble_eq_true rfl⟩) (cu_preXS sp hG hP hD hT hS hA) rfl rfl hl.1 rfl (lv_room (Nat.le_of_ble_eq_true rfl)) dX1_set_6 ⟨Nat.le_of_ble_eq_true rfl, Nat.le_of_ble_eq_true rfl⟩) sp hP hD hS hA (fun E ce q9 H locs hoE hP hS hce hcv hcl => prop E ce q9 H locs _ _ _ _ _ (by simp only [ho_2, hoE, Option.none_or, Option.some_or, reduceIte]) hP hS hce hcv hcl (Nat.le_of_ble_eq_true rfl) (Nat.le_of_ble_eq_true rfl)) (fun H locs ho_6 hP hD hS => ?_)
  refine lv_aload_n hx hb dX1_set_9 rfl (lv_at hl 0 rfl) ?_
  refine va_get (D := D) (ci := 1) (v := .ref (a 1)) (C := RX1) (T := TX1) (N := 4) hx hb hts hiX1 hown hK hP 0 rfl rfl 0 (by decide) (hts (.fieldLink RX1 11 "CuckooShop" "clocks" "[LCuckooShop$Clock;") (by decide +kernel)) (fun _ h9 => h9) rfl dX1_set_10 ?_
  refine lv_iload_n hx hb dX1_set_13 rfl (lv_at hl 1 rfl) ?_
  refine cu_aaldK hi hx hb hK hP dX1_set_14 ?_
  refine lv_aload_n hx hb dX1_set_15 rfl (lv_at hl 0 rfl) ?_
  refine va_get (D := D) (ci := 1) (v := .int mn) (C := RX1) (T := TX1) (N := 4) hx hb hts hiX1 hown hK hP 0 rfl rfl 3 (by decide) (hts (.fieldLink RX1 23 "CuckooShop" "minute" "I") (by decide +kernel)) (fun _ h9 => h9) rfl dX1_set_16 ?_
  have sp := cu_sp.rd (cu_cw_K (C := C) (a := a) (n := (nI N)) (m := mn) (K := K) (P := P) hi)
  refine cu_callI (va_runS (As := [.ref (a (3 + i)), .int mn]) (rest := []) ⟨hx, hb, hml, hown, hts⟩ ((m_X1_offOf l D C (a (3 + i)) (K i) mn) H.size) (va_cwS 2 hts gX1_set_X1_offOf rfl rfl rfl (by decide +kernel) ⟨Nat.le_of_ble_eq_true rfl, Nat.le_of_ble_eq_true rfl⟩) (cu_preS sp hG hP hD) rfl rfl hl.1 rfl (lv_room (Nat.le_of_ble_eq_true rfl)) dX1_set_19 ⟨Nat.le_of_ble_eq_true rfl, Nat.le_of_ble_eq_true rfl⟩) sp hP hD hS hA (fun H locs hP hD hS => ?_)
  refine lv_istore_n (lv' := [(3, .int (k_off (K i) mn)), (0, .ref (a 0)), (1, .int (nI i)), (2, .int v2)]) hx hb dX1_set_22 rfl hl (by decide) rfl (fun ls hl => ?_)
  refine lv_aload_n hx hb dX1_set_23 rfl (lv_at hl 1 rfl) ?_
  refine va_get (D := D) (ci := 1) (v := .ref (a 1)) (C := RX1) (T := TX1) (N := 4) hx hb hts hiX1 hown hK hP 0 rfl rfl 0 (by decide) (hts (.fieldLink RX1 11 "CuckooShop" "clocks" "[LCuckooShop$Clock;") (by decide +kernel)) (fun _ h9 => h9) rfl dX1_set_24 ?_
  refine lv_iload_n hx hb dX1_set_27 rfl (lv_at hl 2 rfl) ?_
  refine cu_aaldK hi hx hb hK hP dX1_set_28 ?_
  refine lv_iload_n hx hb dX1_set_29 rfl (lv_at hl 3 rfl) ?_
  have sp := cu_spK (C := C) (a := a) (n := (nI N)) (m := mn) (K := K) (P := P) hi (upd (upd (K i) 0 v2) 1 0)
  refine cu_callV (va_runVN (As := [.int v2]) (rest := []) ⟨hx, hb, hml, hown, hts⟩ ((m_X0_putHands l D C (a (3 + i)) (K i) v2) H.size) ⟨(va_cnB 1 hts gX1_set_X0_putHands_n37 rfl rfl rfl (hG.2.1 (37, yX0_putHands) (by decide +kernel)) (hts (.initialized RX0) (by decide +kernel)) (by decide +kernel) ⟨Nat.le_of_ble_eq_true rfl, Nat.le_of_ble_eq_true rfl⟩), hts (.instanceMethod yX0_putHands) (by decide +kernel), hts (.selects RX0 yX0_putHands yX0_putHands) (by decide +kernel)⟩ (cu_preV (ci := 0) sp hG hP hD rfl rfl) rfl rfl hl.1 rfl (lv_room (Nat.le_of_ble_eq_true rfl)) dX1_set_30 ⟨Nat.le_of_ble_eq_true rfl, Nat.le_of_ble_eq_true rfl⟩) sp hP hD hS hA (fun H locs hP hD hS => ?_)
  have hP : va_P D vwCl (cu_cw C a (nI N) mn (va_up K i (upd (upd (K i) 0 v2) 1 0)) P) H := hP
  have hD : va_D A (cu_cw C a (nI N) mn (va_up K i (upd (upd (K i) 0 v2) 1 0)) P) := hD
  refine lv_iload_n hx hb dX1_set_33 rfl (lv_at hl 0 rfl) ?_
  refine W.widen (k := 2) (n := 12) (Nat.le_of_ble_eq_true rfl) (Nat.le_of_ble_eq_true rfl) ?_
  exact fin _ _ _ _ _ rfl (by simp only [ho_2, ho_6, Option.none_or, Option.some_or, reduceIte]) (by simp only [hcl9]) (by rw [hcl9]; exact hP) hS dX1_set_34

set_option maxHeartbeats 4000000 in
set_option maxRecDepth 100000 in
theorem m_X1_shut (l : Launch) (hlf : l.stackTraces = false) (D : va_G) (C : Nat → ClassId) (a : Nat → Nat) (N : Nat) (hN : N ≤ 10) (mn : Int32) (K P : Nat → Nat → Int32) (v1 : Int32) (v2 : Int32) (v3 : Int32) : cu_XI l D C yX1_shut wsX1_shut { frames := 7, cells := 3, slots := 18, locals := 103 } [.ref (a 0), .int v1, .int v2, .int v3] (cu_cw C a (nI N) mn K P) (cu_cw C a (nI N) mn (va_up K v1.toNatClampNeg (upd (upd (K v1.toNatClampNeg) 12 v2) 13 v3)) P) ((k_oC N v1).or (k_oS v2 v3)) (K v1.toNatClampNeg 12) 3 18 := by
  refine cu_openXI (cc := cX1_shut) (maxL := 4) (ty := .int) hlf (by decide) rfl rfl (Nat.le_of_ble_eq_true rfl) ?_
  intro p e s m args below meth c A Z H0 ls e0 hx hb hml hts hown hnm hG hP hD hS hA hl hT fin thr prop
  have hK := hG.1
  have hl : lv_has ls 4 [(0, .ref (a 0)), (1, .int v1), (2, .int v2), (3, .int v3)] := hl
  have hiX1 : ∀ w ∈ wsX10, w ∈ wsX1_shut := by decide +kernel
  refine lv_aload_n hx hb dX1_shut_0 rfl (lv_at hl 0 rfl) ?_
  refine lv_iload_n hx hb dX1_shut_1 rfl (lv_at hl 1 rfl) ?_
  have sp := cu_sp.all (W0 := (cu_cw C a (nI N) mn K P)) (W1 := (cu_cw C a (nI N) mn K P)) rfl
  refine cu_callXV (vx_runV (As := [.int v1]) (rest := []) ⟨hx, hb, hml, hown, hts⟩ ((m_X1_checkClock l hlf D C a N hN mn K P v1) H0.size) (cwV 1 hts gX1_shut_X1_checkClock rfl rfl rfl (by decide +kernel) ⟨Nat.le_of_ble_eq_true rfl, Nat.le_of_ble_eq_true rfl⟩) (cu_preXV (ci := 1) sp hG hP hD hT hS hA rfl rfl) rfl rfl hl.1 rfl (lv_room (Nat.le_of_ble_eq_true rfl)) dX1_shut_2 ⟨Nat.le_of_ble_eq_true rfl, Nat.le_of_ble_eq_true rfl⟩) sp hP hD hS hA (fun E ce q9 H locs hoE hP hS hce hcv hcl => prop E ce q9 H locs _ _ _ _ _ (by simp only [k_oS, k_oS3, hoE, Option.none_or, Option.some_or, reduceIte]) hP hS hce hcv hcl (Nat.le_of_ble_eq_true rfl) (Nat.le_of_ble_eq_true rfl)) (fun H locs ho_2 hP hD hS => ?_)
  obtain ⟨i, hiN, rfl⟩ := k_oC_in hN ho_2
  have hi : i < 10 := by omega
  have hcl9 : (nI i).toNatClampNeg = i := nI_clamp (by omega)
  have hP : va_P D vwCl (cu_cw C a (nI N) mn K P) H := hP
  have hD : va_D A (cu_cw C a (nI N) mn K P) := hD
  refine lv_iload_n hx hb dX1_shut_5 rfl (lv_at hl 2 rfl) ?_
  refine lv_iconst (v := -1) hx hb dX1_shut_6 (by decide) ?_
  refine lv_icmp_eq (tgt := 14) hx hb dX1_shut_7 (by decide) (fun c_7 => ?_) (fun c_7 => ?_)
  · refine lv_iload_n hx hb dX1_shut_14 rfl (lv_at hl 3 rfl) ?_
    have sp := cu_sp.nil (W0 := (cu_cw C a (nI N) mn K P))
    refine cu_callXV (vx_runS (As := [.int v3]) (rest := []) ⟨hx, hb, hml, hown, hts⟩ ((m_X1_checkTime l hlf D C v3) H.size) (va_cwS 1 hts gX1_shut_X1_checkTime rfl rfl rfl (by decide +kernel) ⟨Nat.le_of_ble_eq_true rfl, Nat.le_of_ble_eq_true rfl⟩) (cu_preXS sp hG hP hD hT hS hA) rfl rfl hl.1 rfl (lv_room (Nat.le_of_ble_eq_true rfl)) dX1_shut_15 ⟨Nat.le_of_ble_eq_true rfl, Nat.le_of_ble_eq_true rfl⟩) sp hP hD hS hA (fun E ce q9 H locs hoE hP hS hce hcv hcl => prop E ce q9 H locs _ _ _ _ _ (by simp only [k_oS, k_oS3, ho_2, hoE, if_pos c_7, Option.none_or, Option.some_or, reduceIte]) hP hS hce hcv hcl (Nat.le_of_ble_eq_true rfl) (Nat.le_of_ble_eq_true rfl)) (fun H locs ho_15 hP hD hS => ?_)
    refine lv_iload_n hx hb dX1_shut_18 rfl (lv_at hl 2 rfl) ?_
    refine lv_iconst (v := -1) hx hb dX1_shut_19 (by decide) ?_
    refine lv_icmp_ne (tgt := 37) hx hb dX1_shut_20 (by decide) (fun c_20 => absurd c_7 c_20) (fun c_20 => ?_)
    refine lv_iload_n hx hb dX1_shut_23 rfl (lv_at hl 3 rfl) ?_
    refine lv_if_eq (tgt := 37) hx hb dX1_shut_24 (by decide) (fun c_24 => ?_) (fun c_24 => ?_)
    · refine lv_aload_n hx hb dX1_shut_37 rfl (lv_at hl 0 rfl) ?_
      refine va_get (D := D) (ci := 1) (v := .ref (a 1)) (C := RX1) (T := TX1) (N := 4) hx hb hts hiX1 hown hK hP 0 rfl rfl 0 (by decide) (hts (.fieldLink RX1 11 "CuckooShop" "clocks" "[LCuckooShop$Clock;") (by decide +kernel)) (fun _ h9 => h9) rfl dX1_shut_38 ?_
      refine lv_iload_n hx hb dX1_shut_41 rfl (lv_at hl 1 rfl) ?_
      refine cu_aaldK hi hx hb hK hP dX1_shut_42 ?_
      refine lv_iload_n hx hb dX1_shut_43 rfl (lv_at hl 2 rfl) ?_
      refine lv_iload_n hx hb dX1_shut_44 rfl (lv_at hl 3 rfl) ?_
      have sp := cu_spK (C := C) (a := a) (n := (nI N)) (m := mn) (K := K) (P := P) hi (upd (upd (K i) 12 v2) 13 v3)
      refine cu_callI (va_runVN (As := [.int v2, .int v3]) (rest := []) ⟨hx, hb, hml, hown, hts⟩ ((m_X0_silence l D C (a (3 + i)) (K i) v2 v3) H.size) ⟨(va_cnB 2 hts gX1_shut_X0_silence_n82 rfl rfl rfl (hG.2.1 (82, yX0_silence) (by decide +kernel)) (hts (.initialized RX0) (by decide +kernel)) (by decide +kernel) ⟨Nat.le_of_ble_eq_true rfl, Nat.le_of_ble_eq_true rfl⟩), hts (.instanceMethod yX0_silence) (by decide +kernel), hts (.selects RX0 yX0_silence yX0_silence) (by decide +kernel)⟩ (cu_preV (ci := 0) sp hG hP hD rfl rfl) rfl rfl hl.1 rfl (lv_room (Nat.le_of_ble_eq_true rfl)) dX1_shut_45 ⟨Nat.le_of_ble_eq_true rfl, Nat.le_of_ble_eq_true rfl⟩) sp hP hD hS hA (fun H locs hP hD hS => ?_)
      have hP : va_P D vwCl (cu_cw C a (nI N) mn (va_up K i (upd (upd (K i) 12 v2) 13 v3)) P) H := hP
      have hD : va_D A (cu_cw C a (nI N) mn (va_up K i (upd (upd (K i) 12 v2) 13 v3)) P) := hD
      refine W.widen (k := 3) (n := 18) (Nat.le_of_ble_eq_true rfl) (Nat.le_of_ble_eq_true rfl) ?_
      exact fin _ _ _ _ _ rfl (by simp only [k_oS, k_oS3, ho_2, ho_15, if_pos c_7, if_pos c_20, if_pos c_24, Option.none_or, Option.some_or, reduceIte]) (by simp only [hcl9]) (by rw [hcl9]; exact hP) hS dX1_shut_48
    · exact thr x_IAE "till is 0 if from is -1" 47 80 51 _ _ 27 _ _ _ _ cu_th_IAE (hts (.classLink RX1 47 x_IAE) (by decide +kernel)) (hts (.initialized x_IAE) (by decide +kernel)) (by decide +kernel) (by decide +kernel) hS hl.1 dX1_shut_27 dX1_shut_30 dX1_shut_31 dX1_shut_33 dX1_shut_36 (Nat.le_of_ble_eq_true rfl) (Nat.le_of_ble_eq_true rfl) (Nat.le_of_ble_eq_true rfl) (Nat.le_of_ble_eq_true rfl) (Nat.le_of_ble_eq_true rfl) (Nat.le_of_ble_eq_true rfl) (by simp only [k_oS, k_oS3, ho_2, ho_15, if_pos c_7, if_pos c_20, if_neg c_24, Option.none_or, Option.some_or, reduceIte]) hP
  · refine lv_iload_n hx hb dX1_shut_10 rfl (lv_at hl 2 rfl) ?_
    have sp := cu_sp.nil (W0 := (cu_cw C a (nI N) mn K P))
    refine cu_callXV (vx_runS (As := [.int v2]) (rest := []) ⟨hx, hb, hml, hown, hts⟩ ((m_X1_checkTime l hlf D C v2) H.size) (va_cwS 1 hts gX1_shut_X1_checkTime rfl rfl rfl (by decide +kernel) ⟨Nat.le_of_ble_eq_true rfl, Nat.le_of_ble_eq_true rfl⟩) (cu_preXS sp hG hP hD hT hS hA) rfl rfl hl.1 rfl (lv_room (Nat.le_of_ble_eq_true rfl)) dX1_shut_11 ⟨Nat.le_of_ble_eq_true rfl, Nat.le_of_ble_eq_true rfl⟩) sp hP hD hS hA (fun E ce q9 H locs hoE hP hS hce hcv hcl => prop E ce q9 H locs _ _ _ _ _ (by simp only [k_oS, k_oS3, ho_2, hoE, if_neg c_7, Option.none_or, Option.some_or, reduceIte]) hP hS hce hcv hcl (Nat.le_of_ble_eq_true rfl) (Nat.le_of_ble_eq_true rfl)) (fun H locs ho_11 hP hD hS => ?_)
    refine lv_iload_n hx hb dX1_shut_14 rfl (lv_at hl 3 rfl) ?_
    have sp := cu_sp.nil (W0 := (cu_cw C a (nI N) mn K P))
    refine cu_callXV (vx_runS (As := [.int v3]) (rest := []) ⟨hx, hb, hml, hown, hts⟩ ((m_X1_checkTime l hlf D C v3) H.size) (va_cwS 1 hts gX1_shut_X1_checkTime rfl rfl rfl (by decide +kernel) ⟨Nat.le_of_ble_eq_true rfl, Nat.le_of_ble_eq_true rfl⟩) (cu_preXS sp hG hP hD hT hS hA) rfl rfl hl.1 rfl (lv_room (Nat.le_of_ble_eq_true rfl)) dX1_shut_15 ⟨Nat.le_of_ble_eq_true rfl, Nat.le_of_ble_eq_true rfl⟩) sp hP hD hS hA (fun E ce q9 H locs hoE hP hS hce hcv hcl => prop E ce q9 H locs _ _ _ _ _ (by simp only [k_oS, k_oS3, ho_2, ho_11, hoE, if_neg c_7, Option.none_or, Option.some_or, reduceIte]) hP hS hce hcv hcl (Nat.le_of_ble_eq_true rfl) (Nat.le_of_ble_eq_true rfl)) (fun H locs ho_15 hP hD hS => ?_)
    refine lv_iload_n hx hb dX1_shut_18 rfl (lv_at hl 2 rfl) ?_
    refine lv_iconst (v := -1) hx hb dX1_shut_19 (by decide) ?_
    refine lv_icmp_ne (tgt := 37) hx hb dX1_shut_20 (by decide) (fun c_20 => ?_) (fun c_20 => absurd c_20 c_7)
    refine lv_aload_n hx hb dX1_shut_37 rfl (lv_at hl 0 rfl) ?_
    refine va_get (D := D) (ci := 1) (v := .ref (a 1)) (C := RX1) (T := TX1) (N := 4) hx hb hts hiX1 hown hK hP 0 rfl rfl 0 (by decide) (hts (.fieldLink RX1 11 "CuckooShop" "clocks" "[LCuckooShop$Clock;") (by decide +kernel)) (fun _ h9 => h9) rfl dX1_shut_38 ?_
    refine lv_iload_n hx hb dX1_shut_41 rfl (lv_at hl 1 rfl) ?_
    refine cu_aaldK hi hx hb hK hP dX1_shut_42 ?_
    refine lv_iload_n hx hb dX1_shut_43 rfl (lv_at hl 2 rfl) ?_
    refine lv_iload_n hx hb dX1_shut_44 rfl (lv_at hl 3 rfl) ?_
    have sp := cu_spK (C := C) (a := a) (n := (nI N)) (m := mn) (K := K) (P := P) hi (upd (upd (K i) 12 v2) 13 v3)
    refine cu_callI (va_runVN (As := [.int v2, .int v3]) (rest := []) ⟨hx, hb, hml, hown, hts⟩ ((m_X0_silence l D C (a (3 + i)) (K i) v2 v3) H.size) ⟨(va_cnB 2 hts gX1_shut_X0_silence_n82 rfl rfl rfl (hG.2.1 (82, yX0_silence) (by decide +kernel)) (hts (.initialized RX0) (by decide +kernel)) (by decide +kernel) ⟨Nat.le_of_ble_eq_true rfl, Nat.le_of_ble_eq_true rfl⟩), hts (.instanceMethod yX0_silence) (by decide +kernel), hts (.selects RX0 yX0_silence yX0_silence) (by decide +kernel)⟩ (cu_preV (ci := 0) sp hG hP hD rfl rfl) rfl rfl hl.1 rfl (lv_room (Nat.le_of_ble_eq_true rfl)) dX1_shut_45 ⟨Nat.le_of_ble_eq_true rfl, Nat.le_of_ble_eq_true rfl⟩) sp hP hD hS hA (fun H locs hP hD hS => ?_)
    have hP : va_P D vwCl (cu_cw C a (nI N) mn (va_up K i (upd (upd (K i) 12 v2) 13 v3)) P) H := hP
    have hD : va_D A (cu_cw C a (nI N) mn (va_up K i (upd (upd (K i) 12 v2) 13 v3)) P) := hD
    refine W.widen (k := 3) (n := 18) (Nat.le_of_ble_eq_true rfl) (Nat.le_of_ble_eq_true rfl) ?_
    exact fin _ _ _ _ _ rfl (by simp only [k_oS, k_oS3, ho_2, ho_11, ho_15, if_neg c_7, if_neg c_20, Option.none_or, Option.some_or, reduceIte]) (by simp only [hcl9]) (by rw [hcl9]; exact hP) hS dX1_shut_48

set_option maxHeartbeats 4000000 in
set_option maxRecDepth 100000 in
theorem m_X1_count (l : Launch) (hlf : l.stackTraces = false) (D : va_G) (C : Nat → ClassId) (a : Nat → Nat) (N : Nat) (hN : N ≤ 10) (mn : Int32) (K P : Nat → Nat → Int32) (v1 : Int32) : cu_XI l D C yX1_count wsX1_count { frames := 6, cells := 1, slots := 6, locals := 109 } [.ref (a 0), .int v1] (cu_cw C a (nI N) mn K P) (cu_cw C a (nI N) mn K P) (k_oY v1) (k_tally N K mn v1) 1 6 := by
  refine cu_openXI (cc := cX1_count) (maxL := 2) (ty := .int) hlf (by decide) rfl rfl (Nat.le_of_ble_eq_true rfl) ?_
  intro p e s m args below meth c A Z H0 ls e0 hx hb hml hts hown hnm hG hP hD hS hA hl hT fin thr prop
  have hK := hG.1
  have hl : lv_has ls 2 [(0, .ref (a 0)), (1, .int v1)] := hl
  refine lv_iload_n hx hb dX1_count_0 rfl (lv_at hl 1 rfl) ?_
  refine lv_iconst (v := 0) hx hb dX1_count_1 (by decide) ?_
  refine lv_bipush (v := 7) hx hb dX1_count_2 (by decide) ?_
  have sp := cu_sp.nil (W0 := (cu_cw C a (nI N) mn K P))
  refine cu_callI (va_runS (As := [.int v1, .int 0, .int 7]) (rest := []) ⟨hx, hb, hml, hown, hts⟩ ((m_X1_isWithin l D C v1 0 7) H0.size) (va_cwS 3 hts gX1_count_X1_isWithin rfl rfl rfl (by decide +kernel) ⟨Nat.le_of_ble_eq_true rfl, Nat.le_of_ble_eq_true rfl⟩) (cu_preS sp hG hP hD) rfl rfl hl.1 rfl (lv_room (Nat.le_of_ble_eq_true rfl)) dX1_count_4 ⟨Nat.le_of_ble_eq_true rfl, Nat.le_of_ble_eq_true rfl⟩) sp hP hD hS hA (fun H locs hP hD hS => ?_)
  refine lv_if_ne (tgt := 20) hx hb dX1_count_7 (by decide) (fun c_7 => ?_) (fun c_7 => ?_)
  · refine lv_aload_n hx hb dX1_count_20 rfl (lv_at hl 0 rfl) ?_
    refine lv_iload_n hx hb dX1_count_21 rfl (lv_at hl 1 rfl) ?_
    have sp := cu_sp.all (W0 := (cu_cw C a (nI N) mn K P)) (W1 := (cu_cw C a (nI N) mn K P)) rfl
    refine cu_callI (va_runV (As := [.int v1]) (rest := []) ⟨hx, hb, hml, hown, hts⟩ ((m_X1_tally l D C a N hN mn K P v1) H.size) (cwV 1 hts gX1_count_X1_tally rfl rfl rfl (by decide +kernel) ⟨Nat.le_of_ble_eq_true rfl, Nat.le_of_ble_eq_true rfl⟩) (cu_preV (ci := 1) sp hG hP hD rfl rfl) rfl rfl hl.1 rfl (lv_room (Nat.le_of_ble_eq_true rfl)) dX1_count_22 ⟨Nat.le_of_ble_eq_true rfl, Nat.le_of_ble_eq_true rfl⟩) sp hP hD hS hA (fun H locs hP hD hS => ?_)
    have hP : va_P D vwCl (cu_cw C a (nI N) mn K P) H := hP
    have hD : va_D A (cu_cw C a (nI N) mn K P) := hD
    refine W.widen (k := 1) (n := 6) (Nat.le_of_ble_eq_true rfl) (Nat.le_of_ble_eq_true rfl) ?_
    exact fin _ _ _ _ _ rfl (by simp only [k_oY, if_neg c_7, Option.none_or, Option.some_or, reduceIte]) (by rfl) hP hS dX1_count_25
  · exact thr x_IOB "what is counted is 0 to 7" 86 95 90 _ _ 10 _ _ _ _ cu_th_IOB (hts (.classLink RX1 86 x_IOB) (by decide +kernel)) (hts (.initialized x_IOB) (by decide +kernel)) (by decide +kernel) (by decide +kernel) hS hl.1 dX1_count_10 dX1_count_13 dX1_count_14 dX1_count_16 dX1_count_19 (Nat.le_of_ble_eq_true rfl) (Nat.le_of_ble_eq_true rfl) (Nat.le_of_ble_eq_true rfl) (Nat.le_of_ble_eq_true rfl) (Nat.le_of_ble_eq_true rfl) (Nat.le_of_ble_eq_true rfl) (by simp only [k_oY, if_pos c_7, Option.none_or, Option.some_or, reduceIte]) hP
end
section
set_option maxHeartbeats 4000000 in
set_option maxRecDepth 100000 in
theorem m_X1_come (l : Launch) (hlf : l.stackTraces = false) (D : va_G) (C : Nat → ClassId) (a : Nat → Nat) (N : Nat) (hN : N ≤ 10) (mn : Int32) (K P : Nat → Nat → Int32) (v1 : Int32) : cu_XI l D C yX1_come wsX1_come { frames := 7, cells := 2, slots := 12, locals := 102 } [.ref (a 0), .int v1] (cu_cw C a (nI N) mn K P) (cu_cw C a (nI (N + 1)) mn (va_up K N (upd (upd (K N) 0 v1) 1 0)) P) ((k_oT v1).or (k_oN N)) (nI N) 2 12 := by
  refine cu_openXI (cc := cX1_come) (maxL := 2) (ty := .int) hlf (by decide) rfl rfl (Nat.le_of_ble_eq_true rfl) ?_
  intro p e s m args below meth c A Z H0 ls e0 hx hb hml hts hown hnm hG hP hD hS hA hl hT fin thr prop
  have hK := hG.1
  have hl : lv_has ls 2 [(0, .ref (a 0)), (1, .int v1)] := hl
  have hiX1 : ∀ w ∈ wsX10, w ∈ wsX1_come := by decide +kernel
  refine lv_iload_n hx hb dX1_come_0 rfl (lv_at hl 1 rfl) ?_
  have sp := cu_sp.nil (W0 := (cu_cw C a (nI N) mn K P))
  refine cu_callXV (vx_runS (As := [.int v1]) (rest := []) ⟨hx, hb, hml, hown, hts⟩ ((m_X1_checkTime l hlf D C v1) H0.size) (va_cwS 1 hts gX1_come_X1_checkTime rfl rfl rfl (by decide +kernel) ⟨Nat.le_of_ble_eq_true rfl, Nat.le_of_ble_eq_true rfl⟩) (cu_preXS sp hG hP hD hT hS hA) rfl rfl hl.1 rfl (lv_room (Nat.le_of_ble_eq_true rfl)) dX1_come_1 ⟨Nat.le_of_ble_eq_true rfl, Nat.le_of_ble_eq_true rfl⟩) sp hP hD hS hA (fun E ce q9 H locs hoE hP hS hce hcv hcl => prop E ce q9 H locs _ _ _ _ _ (by simp only [k_oN, hoE, Option.none_or, Option.some_or, reduceIte]) hP hS hce hcv hcl (Nat.le_of_ble_eq_true rfl) (Nat.le_of_ble_eq_true rfl)) (fun H locs ho_1 hP hD hS => ?_)
  refine lv_aload_n hx hb dX1_come_4 rfl (lv_at hl 0 rfl) ?_
  refine va_get (D := D) (ci := 1) (v := .int (nI N)) (C := RX1) (T := TX1) (N := 4) hx hb hts hiX1 hown hK hP 0 rfl rfl 2 (by decide) (hts (.fieldLink RX1 19 "CuckooShop" "present" "I") (by decide +kernel)) (fun _ h9 => h9) rfl dX1_come_5 ?_
  refine lv_bipush (v := 10) hx hb dX1_come_8 (by decide) ?_
  refine lv_icmp_lt (tgt := 23) hx hb dX1_come_10 (by decide) (fun c_10 => ?_) (fun c_10 => ?_)
  · refine lv_aload_n hx hb dX1_come_23 rfl (lv_at hl 0 rfl) ?_
    refine va_get (D := D) (ci := 1) (v := .ref (a 1)) (C := RX1) (T := TX1) (N := 4) hx hb hts hiX1 hown hK hP 0 rfl rfl 0 (by decide) (hts (.fieldLink RX1 11 "CuckooShop" "clocks" "[LCuckooShop$Clock;") (by decide +kernel)) (fun _ h9 => h9) rfl dX1_come_24 ?_
    have hN : N < 10 := (nI_ltI (b := 10) (by omega) (by decide)).mp c_10
    refine lv_aload_n hx hb dX1_come_27 rfl (lv_at hl 0 rfl) ?_
    refine va_get (D := D) (ci := 1) (v := .int (nI N)) (C := RX1) (T := TX1) (N := 4) hx hb hts hiX1 hown hK hP 0 rfl rfl 2 (by decide) (hts (.fieldLink RX1 19 "CuckooShop" "present" "I") (by decide +kernel)) (fun _ h9 => h9) rfl dX1_come_28 ?_
    refine cu_aaldK hN hx hb hK hP dX1_come_31 ?_
    refine lv_iload_n hx hb dX1_come_32 rfl (lv_at hl 1 rfl) ?_
    have sp := cu_spK (C := C) (a := a) (n := (nI N)) (m := mn) (K := K) (P := P) hN (upd (upd (K N) 0 v1) 1 0)
    refine cu_callV (va_runVN (As := [.int v1]) (rest := []) ⟨hx, hb, hml, hown, hts⟩ ((m_X0_putHands l D C (a (3 + N)) (K N) v1) H.size) ⟨(va_cnB 1 hts gX1_come_X0_putHands_n37 rfl rfl rfl (hG.2.1 (37, yX0_putHands) (by decide +kernel)) (hts (.initialized RX0) (by decide +kernel)) (by decide +kernel) ⟨Nat.le_of_ble_eq_true rfl, Nat.le_of_ble_eq_true rfl⟩), hts (.instanceMethod yX0_putHands) (by decide +kernel), hts (.selects RX0 yX0_putHands yX0_putHands) (by decide +kernel)⟩ (cu_preV (ci := 0) sp hG hP hD rfl rfl) rfl rfl hl.1 rfl (lv_room (Nat.le_of_ble_eq_true rfl)) dX1_come_33 ⟨Nat.le_of_ble_eq_true rfl, Nat.le_of_ble_eq_true rfl⟩) sp hP hD hS hA (fun H locs hP hD hS => ?_)
    have hP : va_P D vwCl (cu_cw C a (nI N) mn (va_up K N (upd (upd (K N) 0 v1) 1 0)) P) H := hP
    have hD : va_D A (cu_cw C a (nI N) mn (va_up K N (upd (upd (K N) 0 v1) 1 0)) P) := hD
    refine lv_aload_n hx hb dX1_come_36 rfl (lv_at hl 0 rfl) ?_
    refine lv_dup hx hb dX1_come_37 rfl ?_
    refine va_get (D := D) (ci := 1) (v := .int (nI N)) (C := RX1) (T := TX1) (N := 4) hx hb hts hiX1 hown hK hP 0 rfl rfl 2 (by decide) (hts (.fieldLink RX1 19 "CuckooShop" "present" "I") (by decide +kernel)) (fun _ h9 => h9) rfl dX1_come_38 ?_
    refine lv_iconst (v := 1) hx hb dX1_come_41 (by decide) ?_
    refine lv_iadd hx hb dX1_come_42 ?_
    refine cu_top (x' := nI (N + 1)) (nI_1 N) ?_
    refine va_put (D := D) (ci := 1) (v := .int (nI (N + 1))) (ty := .int) (C := RX1) (T := TX1) (N := 4) hx hb hts hiX1 tyX1 tyX1_ok nmX1 hown hK hP hD hS 0 rfl rfl 2 (by decide) (hts (.fieldLink RX1 19 "CuckooShop" "present" "I") (by decide +kernel)) (fun _ h9 => h9) rfl (by decide +kernel) rfl rfl (Nat.le_of_ble_eq_true rfl) dX1_come_43 (fun H locs hP hD hS => ?_)
    have hP : va_P D vwCl (cu_cw C a (nI (N + 1)) mn (va_up K N (upd (upd (K N) 0 v1) 1 0)) P) H := hP
    have hD : va_D A (cu_cw C a (nI (N + 1)) mn (va_up K N (upd (upd (K N) 0 v1) 1 0)) P) := hD
    refine lv_aload_n hx hb dX1_come_46 rfl (lv_at hl 0 rfl) ?_
    refine va_get (D := D) (ci := 1) (v := .int (nI (N + 1))) (C := RX1) (T := TX1) (N := 4) hx hb hts hiX1 hown hK hP 0 rfl rfl 2 (by decide) (hts (.fieldLink RX1 19 "CuckooShop" "present" "I") (by decide +kernel)) (fun _ h9 => h9) rfl dX1_come_47 ?_
    refine lv_iconst (v := 1) hx hb dX1_come_50 (by decide) ?_
    refine lv_isub hx hb dX1_come_51 ?_
    refine W.widen (k := 2) (n := 12) (Nat.le_of_ble_eq_true rfl) (Nat.le_of_ble_eq_true rfl) ?_
    exact fin _ _ _ _ _ rfl (by simp only [k_oN, ho_1, if_pos c_10, Option.none_or, Option.some_or, reduceIte]) (by exact nI_pred N) hP hS dX1_come_52
  · exact thr x_ISE "there are 10 clocks" 30 32 34 _ _ 13 _ _ _ _ cu_th_ISE (hts (.classLink RX1 30 x_ISE) (by decide +kernel)) (hts (.initialized x_ISE) (by decide +kernel)) (by decide +kernel) (by decide +kernel) hS hl.1 dX1_come_13 dX1_come_16 dX1_come_17 dX1_come_19 dX1_come_22 (Nat.le_of_ble_eq_true rfl) (Nat.le_of_ble_eq_true rfl) (Nat.le_of_ble_eq_true rfl) (Nat.le_of_ble_eq_true rfl) (Nat.le_of_ble_eq_true rfl) (Nat.le_of_ble_eq_true rfl) (by simp only [k_oN, ho_1, if_neg c_10, Option.none_or, Option.some_or, reduceIte]) hP

set_option maxHeartbeats 4000000 in
set_option maxRecDepth 100000 in
theorem m_X1_mend (l : Launch) (hlf : l.stackTraces = false) (D : va_G) (C : Nat → ClassId) (a : Nat → Nat) (N : Nat) (hN : N ≤ 10) (mn : Int32) (K P : Nat → Nat → Int32) (v1 : Int32) (v2 : Int32) : cu_XI l D C yX1_mend wsX1_mend { frames := 7, cells := 2, slots := 12, locals := 103 } [.ref (a 0), .int v1, .int v2] (cu_cw C a (nI N) mn K P) (cu_cw C a (nI N) mn (va_up K v1.toNatClampNeg (k_mendK (K v1.toNatClampNeg) v2)) P) ((k_oC N v1).or (k_oE v2)) (k_mendV (K v1.toNatClampNeg) v2) 2 12 := by
  refine cu_openXI (cc := cX1_mend) (maxL := 3) (ty := .int) hlf (by decide) rfl rfl (Nat.le_of_ble_eq_true rfl) ?_
  intro p e s m args below meth c A Z H0 ls e0 hx hb hml hts hown hnm hG hP hD hS hA hl hT fin thr prop
  have hK := hG.1
  have hl : lv_has ls 3 [(0, .ref (a 0)), (1, .int v1), (2, .int v2)] := hl
  have hiX1 : ∀ w ∈ wsX10, w ∈ wsX1_mend := by decide +kernel
  refine lv_aload_n hx hb dX1_mend_0 rfl (lv_at hl 0 rfl) ?_
  refine lv_iload_n hx hb dX1_mend_1 rfl (lv_at hl 1 rfl) ?_
  have sp := cu_sp.all (W0 := (cu_cw C a (nI N) mn K P)) (W1 := (cu_cw C a (nI N) mn K P)) rfl
  refine cu_callXV (vx_runV (As := [.int v1]) (rest := []) ⟨hx, hb, hml, hown, hts⟩ ((m_X1_checkClock l hlf D C a N hN mn K P v1) H0.size) (cwV 1 hts gX1_mend_X1_checkClock rfl rfl rfl (by decide +kernel) ⟨Nat.le_of_ble_eq_true rfl, Nat.le_of_ble_eq_true rfl⟩) (cu_preXV (ci := 1) sp hG hP hD hT hS hA rfl rfl) rfl rfl hl.1 rfl (lv_room (Nat.le_of_ble_eq_true rfl)) dX1_mend_2 ⟨Nat.le_of_ble_eq_true rfl, Nat.le_of_ble_eq_true rfl⟩) sp hP hD hS hA (fun E ce q9 H locs hoE hP hS hce hcv hcl => prop E ce q9 H locs _ _ _ _ _ (by simp only [k_oE, hoE, Option.none_or, Option.some_or, reduceIte]) hP hS hce hcv hcl (Nat.le_of_ble_eq_true rfl) (Nat.le_of_ble_eq_true rfl)) (fun H locs ho_2 hP hD hS => ?_)
  obtain ⟨i, hiN, rfl⟩ := k_oC_in hN ho_2
  have hi : i < 10 := by omega
  have hcl9 : (nI i).toNatClampNeg = i := nI_clamp (by omega)
  have hP : va_P D vwCl (cu_cw C a (nI N) mn K P) H := hP
  have hD : va_D A (cu_cw C a (nI N) mn K P) := hD
  refine lv_iload_n hx hb dX1_mend_5 rfl (lv_at hl 2 rfl) ?_
  by_cases s_0 : v2 = 0
  · subst s_0
    refine lv_tableIn (off := 26) (tgt := 32) hx hb dX1_mend_6 (by decide) (by decide) (by decide) (by decide) ?_
    refine lv_aload_n hx hb dX1_mend_32 rfl (lv_at hl 0 rfl) ?_
    refine va_get (D := D) (ci := 1) (v := .ref (a 1)) (C := RX1) (T := TX1) (N := 4) hx hb hts hiX1 hown hK hP 0 rfl rfl 0 (by decide) (hts (.fieldLink RX1 11 "CuckooShop" "clocks" "[LCuckooShop$Clock;") (by decide +kernel)) (fun _ h9 => h9) rfl dX1_mend_33 ?_
    refine lv_iload_n hx hb dX1_mend_36 rfl (lv_at hl 1 rfl) ?_
    refine cu_aaldK hi hx hb hK hP dX1_mend_37 ?_
    have sp := cu_spK (C := C) (a := a) (n := (nI N)) (m := mn) (K := K) (P := P) hi (upd (K i) 3 100)
    refine cu_callI (va_runVN (As := []) (rest := []) ⟨hx, hb, hml, hown, hts⟩ ((m_X0_fillOil l D C (a (3 + i)) (K i)) H.size) ⟨(va_cnB 0 hts gX1_mend_X0_fillOil_n69 rfl rfl rfl (hG.2.1 (69, yX0_fillOil) (by decide +kernel)) (hts (.initialized RX0) (by decide +kernel)) (by decide +kernel) ⟨Nat.le_of_ble_eq_true rfl, Nat.le_of_ble_eq_true rfl⟩), hts (.instanceMethod yX0_fillOil) (by decide +kernel), hts (.selects RX0 yX0_fillOil yX0_fillOil) (by decide +kernel)⟩ (cu_preV (ci := 0) sp hG hP hD rfl rfl) rfl rfl hl.1 rfl (lv_room (Nat.le_of_ble_eq_true rfl)) dX1_mend_38 ⟨Nat.le_of_ble_eq_true rfl, Nat.le_of_ble_eq_true rfl⟩) sp hP hD hS hA (fun H locs hP hD hS => ?_)
    have hP : va_P D vwCl (cu_cw C a (nI N) mn (va_up K i (upd (K i) 3 100)) P) H := hP
    have hD : va_D A (cu_cw C a (nI N) mn (va_up K i (upd (K i) 3 100)) P) := hD
    refine W.widen (k := 2) (n := 12) (Nat.le_of_ble_eq_true rfl) (Nat.le_of_ble_eq_true rfl) ?_
    exact fin _ _ _ _ _ rfl (by simp only [k_oE, ho_2, Option.none_or, Option.some_or, reduceIte]) (by simp only [k_mendV, k_mendK, hcl9, reduceIte]) (by simpa only [k_mendV, k_mendK, hcl9, reduceIte] using hP) hS dX1_mend_41
  by_cases s_1 : v2 = 1
  · subst s_1
    refine lv_tableIn (off := 36) (tgt := 42) hx hb dX1_mend_6 (by decide) (by decide) (by decide) (by decide) ?_
    refine lv_aload_n hx hb dX1_mend_42 rfl (lv_at hl 0 rfl) ?_
    refine va_get (D := D) (ci := 1) (v := .ref (a 1)) (C := RX1) (T := TX1) (N := 4) hx hb hts hiX1 hown hK hP 0 rfl rfl 0 (by decide) (hts (.fieldLink RX1 11 "CuckooShop" "clocks" "[LCuckooShop$Clock;") (by decide +kernel)) (fun _ h9 => h9) rfl dX1_mend_43 ?_
    refine lv_iload_n hx hb dX1_mend_46 rfl (lv_at hl 1 rfl) ?_
    refine cu_aaldK hi hx hb hK hP dX1_mend_47 ?_
    have sp := cu_spK (C := C) (a := a) (n := (nI N)) (m := mn) (K := K) (P := P) hi (upd (K i) 4 60)
    refine cu_callI (va_runVN (As := []) (rest := []) ⟨hx, hb, hml, hown, hts⟩ ((m_X0_patchBellows l D C (a (3 + i)) (K i)) H.size) ⟨(va_cnB 0 hts gX1_mend_X0_patchBellows_n72 rfl rfl rfl (hG.2.1 (72, yX0_patchBellows) (by decide +kernel)) (hts (.initialized RX0) (by decide +kernel)) (by decide +kernel) ⟨Nat.le_of_ble_eq_true rfl, Nat.le_of_ble_eq_true rfl⟩), hts (.instanceMethod yX0_patchBellows) (by decide +kernel), hts (.selects RX0 yX0_patchBellows yX0_patchBellows) (by decide +kernel)⟩ (cu_preV (ci := 0) sp hG hP hD rfl rfl) rfl rfl hl.1 rfl (lv_room (Nat.le_of_ble_eq_true rfl)) dX1_mend_48 ⟨Nat.le_of_ble_eq_true rfl, Nat.le_of_ble_eq_true rfl⟩) sp hP hD hS hA (fun H locs hP hD hS => ?_)
    have hP : va_P D vwCl (cu_cw C a (nI N) mn (va_up K i (upd (K i) 4 60)) P) H := hP
    have hD : va_D A (cu_cw C a (nI N) mn (va_up K i (upd (K i) 4 60)) P) := hD
    refine W.widen (k := 2) (n := 12) (Nat.le_of_ble_eq_true rfl) (Nat.le_of_ble_eq_true rfl) ?_
    exact fin _ _ _ _ _ rfl (by simp only [k_oE, ho_2, if_neg s_0, Option.none_or, Option.some_or, reduceIte]) (by simp only [k_mendV, k_mendK, hcl9, if_neg s_0, reduceIte]) (by simpa only [k_mendV, k_mendK, hcl9, if_neg s_0, reduceIte] using hP) hS dX1_mend_51
  by_cases s_2 : v2 = 2
  · subst s_2
    refine lv_tableIn (off := 46) (tgt := 52) hx hb dX1_mend_6 (by decide) (by decide) (by decide) (by decide) ?_
    refine lv_aload_n hx hb dX1_mend_52 rfl (lv_at hl 0 rfl) ?_
    refine va_get (D := D) (ci := 1) (v := .ref (a 1)) (C := RX1) (T := TX1) (N := 4) hx hb hts hiX1 hown hK hP 0 rfl rfl 0 (by decide) (hts (.fieldLink RX1 11 "CuckooShop" "clocks" "[LCuckooShop$Clock;") (by decide +kernel)) (fun _ h9 => h9) rfl dX1_mend_53 ?_
    refine lv_iload_n hx hb dX1_mend_56 rfl (lv_at hl 1 rfl) ?_
    refine cu_aaldK hi hx hb hK hP dX1_mend_57 ?_
    have sp := cu_spK (C := C) (a := a) (n := (nI N)) (m := mn) (K := K) (P := P) hi (upd (K i) 5 (k_nudge (K i)))
    refine cu_callI (va_runVN (As := []) (rest := []) ⟨hx, hb, hml, hown, hts⟩ ((m_X0_nudge l D C (a (3 + i)) (K i)) H.size) ⟨(va_cnB 0 hts gX1_mend_X0_nudge_n75 rfl rfl rfl (hG.2.1 (75, yX0_nudge) (by decide +kernel)) (hts (.initialized RX0) (by decide +kernel)) (by decide +kernel) ⟨Nat.le_of_ble_eq_true rfl, Nat.le_of_ble_eq_true rfl⟩), hts (.instanceMethod yX0_nudge) (by decide +kernel), hts (.selects RX0 yX0_nudge yX0_nudge) (by decide +kernel)⟩ (cu_preV (ci := 0) sp hG hP hD rfl rfl) rfl rfl hl.1 rfl (lv_room (Nat.le_of_ble_eq_true rfl)) dX1_mend_58 ⟨Nat.le_of_ble_eq_true rfl, Nat.le_of_ble_eq_true rfl⟩) sp hP hD hS hA (fun H locs hP hD hS => ?_)
    have hP : va_P D vwCl (cu_cw C a (nI N) mn (va_up K i (upd (K i) 5 (k_nudge (K i)))) P) H := hP
    have hD : va_D A (cu_cw C a (nI N) mn (va_up K i (upd (K i) 5 (k_nudge (K i)))) P) := hD
    refine W.widen (k := 2) (n := 12) (Nat.le_of_ble_eq_true rfl) (Nat.le_of_ble_eq_true rfl) ?_
    exact fin _ _ _ _ _ rfl (by simp only [k_oE, ho_2, if_neg s_0, if_neg s_1, Option.none_or, Option.some_or, reduceIte]) (by simp only [k_mendV, k_mendK, hcl9, if_neg s_0, if_neg s_1, reduceIte]) (by simpa only [k_mendV, k_mendK, hcl9, if_neg s_0, if_neg s_1, reduceIte] using hP) hS dX1_mend_61
  refine lv_tableOut (tgt := 62) hx hb dX1_mend_6 (by have q_0 := cu_ne s_0 0 (by decide); have q_1 := cu_ne s_1 1 (by decide); have q_2 := cu_ne s_2 2 (by decide); omega) (by decide) ?_
  exact thr x_IAE "what is mended is 0 to 2" 47 78 51 _ _ 62 _ _ _ _ cu_th_IAE (hts (.classLink RX1 47 x_IAE) (by decide +kernel)) (hts (.initialized x_IAE) (by decide +kernel)) (by decide +kernel) (by decide +kernel) hS hl.1 dX1_mend_62 dX1_mend_65 dX1_mend_66 dX1_mend_68 dX1_mend_71 (Nat.le_of_ble_eq_true rfl) (Nat.le_of_ble_eq_true rfl) (Nat.le_of_ble_eq_true rfl) (Nat.le_of_ble_eq_true rfl) (Nat.le_of_ble_eq_true rfl) (Nat.le_of_ble_eq_true rfl) (by simp only [k_oE, ho_2, if_neg s_0, if_neg s_1, if_neg s_2, Option.none_or, Option.some_or, reduceIte]) hP

set_option maxHeartbeats 4000000 in
set_option maxRecDepth 100000 in
theorem m_X1_pass (l : Launch) (hlf : l.stackTraces = false) (D : va_G) (C : Nat → ClassId) (a : Nat → Nat) (N : Nat) (hN : N ≤ 10) (mn : Int32) (K P : Nat → Nat → Int32) (v1 : Int32) : cu_XI l D C yX1_pass wsX1_pass { frames := 7, cells := 1, slots := 6, locals := 110 } [.ref (a 0), .int v1] (cu_cw C a (nI N) mn K P) (cu_cw C a (nI N) (mn + v1) (k_at N mn K v1.toNatClampNeg) P) (k_oM v1) (k_calls N mn K v1.toNatClampNeg) 1 6 := by
  refine cu_openXI (cc := cX1_pass) (maxL := 4) (ty := .int) hlf (by decide) rfl rfl (Nat.le_of_ble_eq_true rfl) ?_
  intro p e s m args below meth c A Z H0 ls e0 hx hb hml hts hown hnm hG hP hD hS hA hl hT fin thr prop
  have hK := hG.1
  have hl : lv_has ls 4 [(0, .ref (a 0)), (1, .int v1)] := hl
  have hiX1 : ∀ w ∈ wsX10, w ∈ wsX1_pass := by decide +kernel
  refine lv_iload_n hx hb dX1_pass_0 rfl (lv_at hl 1 rfl) ?_
  have sp := cu_sp.nil (W0 := (cu_cw C a (nI N) mn K P))
  refine cu_callXV (vx_runS (As := [.int v1]) (rest := []) ⟨hx, hb, hml, hown, hts⟩ ((m_X1_checkMinutes l hlf D C v1) H0.size) (va_cwS 1 hts gX1_pass_X1_checkMinutes rfl rfl rfl (by decide +kernel) ⟨Nat.le_of_ble_eq_true rfl, Nat.le_of_ble_eq_true rfl⟩) (cu_preXS sp hG hP hD hT hS hA) rfl rfl hl.1 rfl (lv_room (Nat.le_of_ble_eq_true rfl)) dX1_pass_1 ⟨Nat.le_of_ble_eq_true rfl, Nat.le_of_ble_eq_true rfl⟩) sp hP hD hS hA (fun E ce q9 H locs hoE hP hS hce hcv hcl => prop E ce q9 H locs _ _ _ _ _ (by simp only [hoE, Option.none_or, Option.some_or, reduceIte]) hP hS hce hcv hcl (Nat.le_of_ble_eq_true rfl) (Nat.le_of_ble_eq_true rfl)) (fun H locs ho_1 hP hD hS => ?_)
  obtain ⟨t, ht1, ht2, rfl⟩ := k_oM_in ho_1
  have hcl9 : (nI t).toNatClampNeg = t := nI_clamp (by omega)
  refine lv_iconst (v := 0) hx hb dX1_pass_4 (by decide) ?_
  refine lv_istore_n (lv' := [(2, .int 0), (0, .ref (a 0)), (1, .int (nI t))]) hx hb dX1_pass_5 rfl hl (by decide) rfl (fun ls hl => ?_)
  refine lv_iconst (v := 0) hx hb dX1_pass_6 (by decide) ?_
  refine lv_istore_n (lv' := [(3, .int 0), (2, .int 0), (0, .ref (a 0)), (1, .int (nI t))]) hx hb dX1_pass_7 rfl hl (by decide) rfl (fun ls hl => ?_)
  rw [← k_m0 mn] at hP hD
  have loop : ∀ (j : Nat), ∀ (i : Nat), i + j = t → ∀ (H : Heap) (locs : List Loc) (ls : Array Slot), va_P D vwCl (cu_cw C a (nI N) (mn + nI i) (k_at N mn K i) P) H → va_D A (cu_cw C a (nI N) (mn + nI i) (k_at N mn K i) P) → va_S A H0 H locs → lv_has ls 4 [(0, .ref (a 0)), (1, .int (nI t)), (2, .int (k_calls N mn K i)), (3, .int (nI i))] → W p l e { frames := 7, cells := 1, slots := 6, locals := 110 } s m args below meth c H locs 1 6 Z (F0 m 8 ls []) := by
    intro j
    induction j with
    | zero =>
      intro i hj H locs ls hP hD hS hl
      have eN : i = t := by omega
      refine lv_iload_n hx hb dX1_pass_8 rfl (lv_at hl 3 rfl) ?_
      refine lv_iload_n hx hb dX1_pass_9 rfl (lv_at hl 1 rfl) ?_
      refine lv_icmp_ge (tgt := 44) hx hb dX1_pass_10 (by decide) (fun c_10 => ?_) (fun c_10 => absurd (nI_le (a := t) (by omega) (by omega)) c_10)
      refine lv_iload_n hx hb dX1_pass_44 rfl (lv_at hl 2 rfl) ?_
      refine W.widen (k := 1) (n := 6) (Nat.le_of_ble_eq_true rfl) (Nat.le_of_ble_eq_true rfl) ?_
      exact fin _ _ _ _ _ rfl (by simp only [ho_1, if_pos c_10, Option.none_or, Option.some_or, reduceIte]) (by rw [hcl9, ← eN]) (by rw [hcl9, ← eN]; exact hP) hS dX1_pass_45
    | succ j ih =>
      intro i hj H locs ls hP hD hS hl
      refine lv_iload_n hx hb dX1_pass_8 rfl (lv_at hl 3 rfl) ?_
      refine lv_iload_n hx hb dX1_pass_9 rfl (lv_at hl 1 rfl) ?_
      refine lv_icmp_ge (tgt := 44) hx hb dX1_pass_10 (by decide) (fun c_10 => absurd c_10 (nI_ge (b := t) (by omega) (by omega))) (fun c_10 => ?_)
      refine lv_iload_n hx hb dX1_pass_13 rfl (lv_at hl 2 rfl) ?_
      refine lv_aload_n hx hb dX1_pass_14 rfl (lv_at hl 0 rfl) ?_
      refine lv_aload_n hx hb dX1_pass_15 rfl (lv_at hl 0 rfl) ?_
      refine va_get (D := D) (ci := 1) (v := .ref (a 1)) (C := RX1) (T := TX1) (N := 4) hx hb hts hiX1 hown hK hP 0 rfl rfl 0 (by decide) (hts (.fieldLink RX1 11 "CuckooShop" "clocks" "[LCuckooShop$Clock;") (by decide +kernel)) (fun _ h9 => h9) rfl dX1_pass_16 ?_
      refine lv_aload_n hx hb dX1_pass_19 rfl (lv_at hl 0 rfl) ?_
      refine va_get (D := D) (ci := 1) (v := .int (mn + nI i)) (C := RX1) (T := TX1) (N := 4) hx hb hts hiX1 hown hK hP 0 rfl rfl 3 (by decide) (hts (.fieldLink RX1 23 "CuckooShop" "minute" "I") (by decide +kernel)) (fun _ h9 => h9) rfl dX1_pass_20 ?_
      have sp := cu_sp.all (W0 := (cu_cw C a (nI N) (mn + nI i) (k_at N mn K i) P)) (W1 := (cu_cw C a (nI N) (mn + nI i) (k_upto (k_min (mn + nI i)) (k_at N mn K i) N) P)) cu_cw_fst
      refine cu_callI (va_runV (As := [.ref (a 1), .int (mn + nI i)]) (rest := [.int (k_calls N mn K i)]) ⟨hx, hb, hml, hown, hts⟩ ((m_X1_runRow l D C a N hN (mn + nI i) (k_at N mn K i) P (mn + nI i)) H.size) (cwV 2 hts gX1_pass_X1_runRow rfl rfl rfl (by decide +kernel) ⟨Nat.le_of_ble_eq_true rfl, Nat.le_of_ble_eq_true rfl⟩) (cu_preV (ci := 1) sp hG hP hD rfl rfl) rfl rfl hl.1 rfl (lv_room (Nat.le_of_ble_eq_true rfl)) dX1_pass_23 ⟨Nat.le_of_ble_eq_true rfl, Nat.le_of_ble_eq_true rfl⟩) sp hP hD hS hA (fun H locs hP hD hS => ?_)
      have hP : va_P D vwCl (cu_cw C a (nI N) (mn + nI i) (k_upto (k_min (mn + nI i)) (k_at N mn K i) N) P) H := hP
      have hD : va_D A (cu_cw C a (nI N) (mn + nI i) (k_upto (k_min (mn + nI i)) (k_at N mn K i) N) P) := hD
      have hP : va_P D vwCl (cu_cw C a (nI N) (mn + nI i) (k_at N mn K (i + 1)) P) H := hP
      have hD : va_D A (cu_cw C a (nI N) (mn + nI i) (k_at N mn K (i + 1)) P) := hD
      refine lv_iadd hx hb dX1_pass_26 ?_
      refine lv_istore_n (lv' := [(2, .int ((k_calls N mn K i) + (k_lat N (mn + nI i) (k_at N mn K i)))), (0, .ref (a 0)), (1, .int (nI t)), (3, .int (nI i))]) hx hb dX1_pass_27 rfl hl (by decide) rfl (fun ls hl => ?_)
      refine lv_aload_n hx hb dX1_pass_28 rfl (lv_at hl 1 rfl) ?_
      refine lv_dup hx hb dX1_pass_29 rfl ?_
      refine va_get (D := D) (ci := 1) (v := .int (mn + nI i)) (C := RX1) (T := TX1) (N := 4) hx hb hts hiX1 hown hK hP 0 rfl rfl 3 (by decide) (hts (.fieldLink RX1 23 "CuckooShop" "minute" "I") (by decide +kernel)) (fun _ h9 => h9) rfl dX1_pass_30 ?_
      refine lv_iconst (v := 1) hx hb dX1_pass_33 (by decide) ?_
      refine lv_iadd hx hb dX1_pass_34 ?_
      refine cu_top (x' := mn + nI (i + 1)) (by rw [Int32.add_assoc, nI_1]) ?_
      refine va_put (D := D) (ci := 1) (v := .int (mn + nI (i + 1))) (ty := .int) (C := RX1) (T := TX1) (N := 4) hx hb hts hiX1 tyX1 tyX1_ok nmX1 hown hK hP hD hS 0 rfl rfl 3 (by decide) (hts (.fieldLink RX1 23 "CuckooShop" "minute" "I") (by decide +kernel)) (fun _ h9 => h9) rfl (by decide +kernel) rfl rfl (Nat.le_of_ble_eq_true rfl) dX1_pass_35 (fun H locs hP hD hS => ?_)
      have hP : va_P D vwCl (cu_cw C a (nI N) (mn + nI (i + 1)) (k_at N mn K (i + 1)) P) H := hP
      have hD : va_D A (cu_cw C a (nI N) (mn + nI (i + 1)) (k_at N mn K (i + 1)) P) := hD
      refine lv_iinc (v := (nI (i + 1))) (lv' := [(3, .int (nI (i + 1))), (2, .int ((k_calls N mn K i) + (k_lat N (mn + nI i) (k_at N mn K i)))), (0, .ref (a 0)), (1, .int (nI t))]) hx hb dX1_pass_38 hl (k := 3) rfl (nI_1 i) (by decide) rfl (fun ls hl => ?_)
      refine lv_goto (tgt := 8) hx hb dX1_pass_41 (by decide) ?_
      exact ih (i + 1) (by omega) _ _ _ hP hD hS (lv_sub hl [2, 3, 1, 0] rfl)
  exact loop t 0 (by omega) _ _ _ hP hD hS (lv_sub hl [2, 3, 1, 0] rfl)

set_option maxHeartbeats 4000000 in
set_option maxRecDepth 100000 in
theorem m_X1_next (l : Launch) (hlf : l.stackTraces = false) (D : va_G) (C : Nat → ClassId) (a : Nat → Nat) (N : Nat) (hN : N ≤ 10) (mn : Int32) (K P : Nat → Nat → Int32) (v1 : Int32) (h5 : ∀ c, c < N → K c 5 = 0 ∨ K c 5 = 1) : cu_XI l D C yX1_next wsX1_next { frames := 7, cells := 1, slots := 6, locals := 103 } [.ref (a 0), .int v1] (cu_cw C a (nI N) mn K P) (cu_cw C a (nI N) mn K (va_up P v1.toNatClampNeg (k_nextS mn (K v1.toNatClampNeg) 720 0))) (k_oC N v1) (k_next mn (K v1.toNatClampNeg)) 1 6 := by
  refine cu_openXI (cc := cX1_next) (maxL := 4) (ty := .int) hlf (by decide) rfl rfl (Nat.le_of_ble_eq_true rfl) ?_
  intro p e s m args below meth c A Z H0 ls e0 hx hb hml hts hown hnm hG hP hD hS hA hl hT fin thr prop
  have hK := hG.1
  have hl : lv_has ls 4 [(0, .ref (a 0)), (1, .int v1)] := hl
  have hiX0 : ∀ w ∈ wsX00, w ∈ wsX1_next := by decide +kernel
  have hiX1 : ∀ w ∈ wsX10, w ∈ wsX1_next := by decide +kernel
  refine lv_aload_n hx hb dX1_next_0 rfl (lv_at hl 0 rfl) ?_
  refine lv_iload_n hx hb dX1_next_1 rfl (lv_at hl 1 rfl) ?_
  have sp := cu_sp.all (W0 := (cu_cw C a (nI N) mn K P)) (W1 := (cu_cw C a (nI N) mn K P)) rfl
  refine cu_callXV (vx_runV (As := [.int v1]) (rest := []) ⟨hx, hb, hml, hown, hts⟩ ((m_X1_checkClock l hlf D C a N hN mn K P v1) H0.size) (cwV 1 hts gX1_next_X1_checkClock rfl rfl rfl (by decide +kernel) ⟨Nat.le_of_ble_eq_true rfl, Nat.le_of_ble_eq_true rfl⟩) (cu_preXV (ci := 1) sp hG hP hD hT hS hA rfl rfl) rfl rfl hl.1 rfl (lv_room (Nat.le_of_ble_eq_true rfl)) dX1_next_2 ⟨Nat.le_of_ble_eq_true rfl, Nat.le_of_ble_eq_true rfl⟩) sp hP hD hS hA (fun E ce q9 H locs hoE hP hS hce hcv hcl => prop E ce q9 H locs _ _ _ _ _ (by simp only [hoE, Option.none_or, Option.some_or, reduceIte]) hP hS hce hcv hcl (Nat.le_of_ble_eq_true rfl) (Nat.le_of_ble_eq_true rfl)) (fun H locs ho_2 hP hD hS => ?_)
  obtain ⟨i, hiN, rfl⟩ := k_oC_in hN ho_2
  have hi : i < 10 := by omega
  have hcl9 : (nI i).toNatClampNeg = i := nI_clamp (by omega)
  have hP : va_P D vwCl (cu_cw C a (nI N) mn K P) H := hP
  have hD : va_D A (cu_cw C a (nI N) mn K P) := hD
  refine lv_aload_n hx hb dX1_next_5 rfl (lv_at hl 0 rfl) ?_
  refine va_get (D := D) (ci := 1) (v := .ref (a 2)) (C := RX1) (T := TX1) (N := 4) hx hb hts hiX1 hown hK hP 0 rfl rfl 1 (by decide) (hts (.fieldLink RX1 15 "CuckooShop" "copies" "[LCuckooShop$Clock;") (by decide +kernel)) (fun _ h9 => h9) rfl dX1_next_6 ?_
  refine lv_iload_n hx hb dX1_next_9 rfl (lv_at hl 1 rfl) ?_
  refine cu_aaldP hi hx hb hK hP dX1_next_10 ?_
  refine lv_astore_n (lv' := [(2, .ref (a (13 + i))), (0, .ref (a 0)), (1, .int (nI i))]) hx hb dX1_next_11 rfl hl (by decide) rfl (fun ls hl => ?_)
  refine lv_aload_n hx hb dX1_next_12 rfl (lv_at hl 0 rfl) ?_
  refine lv_aload_n hx hb dX1_next_13 rfl (lv_at hl 1 rfl) ?_
  refine va_get (D := D) (ci := 1) (v := .ref (a 1)) (C := RX1) (T := TX1) (N := 4) hx hb hts hiX1 hown hK hP 0 rfl rfl 0 (by decide) (hts (.fieldLink RX1 11 "CuckooShop" "clocks" "[LCuckooShop$Clock;") (by decide +kernel)) (fun _ h9 => h9) rfl dX1_next_14 ?_
  refine lv_iload_n hx hb dX1_next_17 rfl (lv_at hl 2 rfl) ?_
  refine cu_aaldK hi hx hb hK hP dX1_next_18 ?_
  have sp := cu_spC (C := C) (a := a) (n := (nI N)) (m := mn) (K := K) (P := P) hi
  refine cu_callV (va_runVN (As := [.ref (a (3 + i))]) (rest := []) ⟨hx, hb, hml, hown, hts⟩ ((m_X0_copyFrom l D C (a (13 + i)) (P i) (a (3 + i)) (K i) (h5 i (by omega))) H.size) ⟨(va_cnB 1 hts gX1_next_X0_copyFrom_n107 rfl rfl rfl (hG.2.1 (107, yX0_copyFrom) (by decide +kernel)) (hts (.initialized RX0) (by decide +kernel)) (by decide +kernel) ⟨Nat.le_of_ble_eq_true rfl, Nat.le_of_ble_eq_true rfl⟩), hts (.instanceMethod yX0_copyFrom) (by decide +kernel), hts (.selects RX0 yX0_copyFrom yX0_copyFrom) (by decide +kernel)⟩ (cu_preV (ci := 0) sp hG hP hD rfl rfl) rfl rfl hl.1 rfl (lv_room (Nat.le_of_ble_eq_true rfl)) dX1_next_19 ⟨Nat.le_of_ble_eq_true rfl, Nat.le_of_ble_eq_true rfl⟩) sp hP hD hS hA (fun H locs hP hD hS => ?_)
  have hP : va_P D vwCl (cu_cw C a (nI N) mn K (va_up P i (K i))) H := hP
  have hD : va_D A (cu_cw C a (nI N) mn K (va_up P i (K i))) := hD
  refine lv_iconst (v := 0) hx hb dX1_next_22 (by decide) ?_
  refine lv_istore_n (lv' := [(3, .int 0), (2, .ref (a (13 + i))), (0, .ref (a 0)), (1, .int (nI i))]) hx hb dX1_next_23 rfl hl (by decide) rfl (fun ls hl => ?_)
  have loop : ∀ (j : Nat), ∀ (b : Nat), b + j = 720 → k_nextR mn (K i) j b = k_next mn (K i) → k_nextS mn (K i) j b = k_nextS mn (K i) 720 0 → ∀ (H : Heap) (locs : List Loc) (ls : Array Slot), va_P D vwCl (cu_cw C a (nI N) mn K (va_up P i (k_at1 mn (K i) b))) H → va_D A (cu_cw C a (nI N) mn K (va_up P i (k_at1 mn (K i) b))) → va_S A H0 H locs → lv_has ls 4 [(0, .ref (a 0)), (1, .int (nI i)), (2, .ref (a (13 + i))), (3, .int (nI b))] → W p l e { frames := 7, cells := 1, slots := 6, locals := 103 } s m args below meth c H locs 1 6 Z (F0 m 24 ls []) := by
    intro j
    induction j with
    | zero =>
      intro b hj hf hg H locs ls hP hD hS hl
      refine lv_iload_n hx hb dX1_next_24 rfl (lv_at hl 3 rfl) ?_
      refine lv_sipush (v := 720) hx hb dX1_next_25 (by decide) ?_
      refine lv_icmp_ge (tgt := 58) hx hb dX1_next_28 (by decide) (fun c_28 => ?_) (fun c_28 => absurd (nI_le (a := 720) (by omega) (by omega)) c_28)
      refine lv_iconst (v := -1) hx hb dX1_next_58 (by decide) ?_
      refine W.widen (k := 1) (n := 6) (Nat.le_of_ble_eq_true rfl) (Nat.le_of_ble_eq_true rfl) ?_
      exact fin _ _ _ _ _ rfl (by simp only [ho_2, if_pos c_28, Option.none_or, Option.some_or, reduceIte]) (by rw [hcl9]; exact hf) (by rw [hcl9, ← hg]; exact hP) hS dX1_next_59
    | succ j ih =>
      intro b hj hf hg H locs ls hP hD hS hl
      refine lv_iload_n hx hb dX1_next_24 rfl (lv_at hl 3 rfl) ?_
      refine lv_sipush (v := 720) hx hb dX1_next_25 (by decide) ?_
      refine lv_icmp_ge (tgt := 58) hx hb dX1_next_28 (by decide) (fun c_28 => absurd c_28 (nI_ge (b := 720) (by omega) (by decide))) (fun c_28 => ?_)
      refine lv_aload_n hx hb dX1_next_31 rfl (lv_at hl 2 rfl) ?_
      refine lv_aload_n hx hb dX1_next_32 rfl (lv_at hl 0 rfl) ?_
      refine va_get (D := D) (ci := 1) (v := .int mn) (C := RX1) (T := TX1) (N := 4) hx hb hts hiX1 hown hK hP 0 rfl rfl 3 (by decide) (hts (.fieldLink RX1 23 "CuckooShop" "minute" "I") (by decide +kernel)) (fun _ h9 => h9) rfl dX1_next_33 ?_
      refine lv_iload_n hx hb dX1_next_36 rfl (lv_at hl 3 rfl) ?_
      refine lv_iadd hx hb dX1_next_37 ?_
      have sp := cu_spP (C := C) (a := a) (n := (nI N)) (m := mn) (K := K) (P := (va_up P i (k_at1 mn (K i) b))) hi (k_min (mn + nI b) ((va_up P i (k_at1 mn (K i) b)) i))
      refine cu_callV (va_runVN (As := [.int (mn + nI b)]) (rest := []) ⟨hx, hb, hml, hown, hts⟩ ((m_X0_runMinute l D C (a (13 + i)) ((va_up P i (k_at1 mn (K i) b)) i) (mn + nI b)) H.size) ⟨(va_cnB 1 hts gX1_next_X0_runMinute_n111 rfl rfl rfl (hG.2.1 (111, yX0_runMinute) (by decide +kernel)) (hts (.initialized RX0) (by decide +kernel)) (by decide +kernel) ⟨Nat.le_of_ble_eq_true rfl, Nat.le_of_ble_eq_true rfl⟩), hts (.instanceMethod yX0_runMinute) (by decide +kernel), hts (.selects RX0 yX0_runMinute yX0_runMinute) (by decide +kernel)⟩ (cu_preV (ci := 0) sp hG hP hD rfl rfl) rfl rfl hl.1 rfl (lv_room (Nat.le_of_ble_eq_true rfl)) dX1_next_38 ⟨Nat.le_of_ble_eq_true rfl, Nat.le_of_ble_eq_true rfl⟩) sp hP hD hS hA (fun H locs hP hD hS => ?_)
      have hP : va_P D vwCl (cu_cw C a (nI N) mn K (va_up (va_up P i (k_at1 mn (K i) b)) i (k_min (mn + nI b) ((va_up P i (k_at1 mn (K i) b)) i)))) H := hP
      have hD : va_D A (cu_cw C a (nI N) mn K (va_up (va_up P i (k_at1 mn (K i) b)) i (k_min (mn + nI b) ((va_up P i (k_at1 mn (K i) b)) i)))) := hD
      rw [va_up_self, bx_uu] at hP hD
      have hP : va_P D vwCl (cu_cw C a (nI N) mn K (va_up P i (k_at1 mn (K i) (b + 1)))) H := hP
      have hD : va_D A (cu_cw C a (nI N) mn K (va_up P i (k_at1 mn (K i) (b + 1)))) := hD
      refine lv_aload_n hx hb dX1_next_41 rfl (lv_at hl 2 rfl) ?_
      refine va_getN (host := RX1) (D := D) (ci := 0) (v := .int (((va_up P i (k_at1 mn (K i) (b + 1))) i) 8)) (C := RX0) (T := TX0) (N := 14) hx hb hts hiX0 hown hK hP (13 + i) (cu_cw_P hi) rfl 13 (by decide) (va_Nw.use rfl (hG.2.2.1 (114, "latestCalls", "I") (by decide +kernel))) (fun _ h9 => h9) rfl dX1_next_42 ?_
      refine cu_top (x' := k_at1 mn (K i) (b + 1) 8) (by rw [va_up_self]) ?_
      refine lv_if_le (tgt := 52) hx hb dX1_next_45 (by decide) (fun c_45 => ?_) (fun c_45 => ?_)
      · refine lv_iinc (v := (nI (b + 1))) (lv' := [(3, .int (nI (b + 1))), (0, .ref (a 0)), (1, .int (nI i)), (2, .ref (a (13 + i)))]) hx hb dX1_next_52 hl (k := 3) rfl (nI_1 b) (by decide) rfl (fun ls hl => ?_)
        refine lv_goto (tgt := 24) hx hb dX1_next_55 (by decide) ?_
        exact ih (b + 1) (by omega) (by rw [← hf]; exact (if_pos c_45).symm) (by rw [← hg]; exact (if_pos c_45).symm) _ _ _ hP hD hS (lv_sub hl [1, 2, 3, 0] rfl)
      · refine lv_iload_n hx hb dX1_next_48 rfl (lv_at hl 3 rfl) ?_
        refine lv_iconst (v := 1) hx hb dX1_next_49 (by decide) ?_
        refine lv_iadd hx hb dX1_next_50 ?_
        refine W.widen (k := 1) (n := 6) (Nat.le_of_ble_eq_true rfl) (Nat.le_of_ble_eq_true rfl) ?_
        exact fin _ _ _ _ _ rfl (by simp only [ho_2, if_neg c_28, if_neg c_45, Option.none_or, Option.some_or, reduceIte]) (by rw [hcl9, ← hf]; exact (if_neg c_45).symm) (by rw [hcl9, ← hg, show k_nextS mn (K i) (j + 1) b = k_at1 mn (K i) (b + 1) from if_neg c_45]; exact hP) hS dX1_next_51
  exact loop 720 0 (by omega) rfl rfl _ _ _ hP hD hS (lv_sub hl [2, 3, 1, 0] rfl)

set_option maxHeartbeats 4000000 in
set_option maxRecDepth 100000 in
theorem m_X1_loudest (l : Launch) (hlf : l.stackTraces = false) (D : va_G) (C : Nat → ClassId) (a : Nat → Nat) (N : Nat) (hN : N ≤ 10) (mn : Int32) (K P : Nat → Nat → Int32) (v1 : Int32) (h5 : ∀ c, c < N → K c 5 = 0 ∨ K c 5 = 1) : cu_XI l D C yX1_loudest wsX1_loudest { frames := 7, cells := 1, slots := 6, locals := 110 } [.ref (a 0), .int v1] (cu_cw C a (nI N) mn K P) (cu_cw C a (nI N) mn K (k_at N mn (k_cpy K P N) v1.toNatClampNeg)) (k_oM v1) (k_loud N mn (k_cpy K P N) v1.toNatClampNeg) 1 6 := by
  refine cu_openXI (cc := cX1_loudest) (maxL := 6) (ty := .int) hlf (by decide) rfl rfl (Nat.le_of_ble_eq_true rfl) ?_
  intro p e s m args below meth c A Z H0 ls e0 hx hb hml hts hown hnm hG hP hD hS hA hl hT fin thr prop
  have hK := hG.1
  have hl : lv_has ls 6 [(0, .ref (a 0)), (1, .int v1)] := hl
  have hiX1 : ∀ w ∈ wsX10, w ∈ wsX1_loudest := by decide +kernel
  refine lv_iload_n hx hb dX1_loudest_0 rfl (lv_at hl 1 rfl) ?_
  have sp := cu_sp.nil (W0 := (cu_cw C a (nI N) mn K P))
  refine cu_callXV (vx_runS (As := [.int v1]) (rest := []) ⟨hx, hb, hml, hown, hts⟩ ((m_X1_checkMinutes l hlf D C v1) H0.size) (va_cwS 1 hts gX1_loudest_X1_checkMinutes rfl rfl rfl (by decide +kernel) ⟨Nat.le_of_ble_eq_true rfl, Nat.le_of_ble_eq_true rfl⟩) (cu_preXS sp hG hP hD hT hS hA) rfl rfl hl.1 rfl (lv_room (Nat.le_of_ble_eq_true rfl)) dX1_loudest_1 ⟨Nat.le_of_ble_eq_true rfl, Nat.le_of_ble_eq_true rfl⟩) sp hP hD hS hA (fun E ce q9 H locs hoE hP hS hce hcv hcl => prop E ce q9 H locs _ _ _ _ _ (by simp only [hoE, Option.none_or, Option.some_or, reduceIte]) hP hS hce hcv hcl (Nat.le_of_ble_eq_true rfl) (Nat.le_of_ble_eq_true rfl)) (fun H locs ho_1 hP hD hS => ?_)
  obtain ⟨t, ht1, ht2, rfl⟩ := k_oM_in ho_1
  have hcl9 : (nI t).toNatClampNeg = t := nI_clamp (by omega)
  refine lv_aload_n hx hb dX1_loudest_4 rfl (lv_at hl 0 rfl) ?_
  have sp := cu_sp.all (W0 := (cu_cw C a (nI N) mn K P)) (W1 := (cu_cw C a (nI N) mn K (k_cpy K P N))) cu_cw_fst
  refine cu_callV (va_runV (As := []) (rest := []) ⟨hx, hb, hml, hown, hts⟩ ((m_X1_copyClocks l D C a N hN mn K P  h5) H.size) (cwV 0 hts gX1_loudest_X1_copyClocks rfl rfl rfl (by decide +kernel) ⟨Nat.le_of_ble_eq_true rfl, Nat.le_of_ble_eq_true rfl⟩) (cu_preV (ci := 1) sp hG hP hD rfl rfl) rfl rfl hl.1 rfl (lv_room (Nat.le_of_ble_eq_true rfl)) dX1_loudest_5 ⟨Nat.le_of_ble_eq_true rfl, Nat.le_of_ble_eq_true rfl⟩) sp hP hD hS hA (fun H locs hP hD hS => ?_)
  have hP : va_P D vwCl (cu_cw C a (nI N) mn K (k_cpy K P N)) H := hP
  have hD : va_D A (cu_cw C a (nI N) mn K (k_cpy K P N)) := hD
  refine lv_iconst (v := 0) hx hb dX1_loudest_8 (by decide) ?_
  refine lv_istore_n (lv' := [(2, .int 0), (0, .ref (a 0)), (1, .int (nI t))]) hx hb dX1_loudest_9 rfl hl (by decide) rfl (fun ls hl => ?_)
  refine lv_iconst (v := -1) hx hb dX1_loudest_10 (by decide) ?_
  refine lv_istore_n (lv' := [(3, .int (-1)), (2, .int 0), (0, .ref (a 0)), (1, .int (nI t))]) hx hb dX1_loudest_11 rfl hl (by decide) rfl (fun ls hl => ?_)
  refine lv_iconst (v := 0) hx hb dX1_loudest_12 (by decide) ?_
  refine lv_istore (lv' := [(4, .int 0), (3, .int (-1)), (2, .int 0), (0, .ref (a 0)), (1, .int (nI t))]) hx hb dX1_loudest_13 hl (by decide) rfl (fun ls hl => ?_)
  have loop : ∀ (j : Nat), ∀ (b : Nat) (u : Int32 × Int32), b + j = t → k_loudR N mn (k_cpy K P N) j b u = k_loudR N mn (k_cpy K P N) t 0 (0, -1) → ∀ (H : Heap) (locs : List Loc) (ls : Array Slot), va_P D vwCl (cu_cw C a (nI N) mn K (k_at N mn (k_cpy K P N) b)) H → va_D A (cu_cw C a (nI N) mn K (k_at N mn (k_cpy K P N) b)) → va_S A H0 H locs → lv_has ls 6 [(0, .ref (a 0)), (1, .int (nI t)), (2, .int u.1), (3, .int u.2), (4, .int (nI b))] → W p l e { frames := 7, cells := 1, slots := 6, locals := 110 } s m args below meth c H locs 1 6 Z (F0 m 15 ls []) := by
    intro j
    induction j with
    | zero =>
      intro b u hj hf H locs ls hP hD hS hl
      have eN : b = t := by omega
      refine lv_iload hx hb dX1_loudest_15 (lv_at hl 4 rfl) ?_
      refine lv_iload_n hx hb dX1_loudest_17 rfl (lv_at hl 1 rfl) ?_
      refine lv_icmp_ge (tgt := 58) hx hb dX1_loudest_18 (by decide) (fun c_18 => ?_) (fun c_18 => absurd (nI_le (a := t) (by omega) (by omega)) c_18)
      refine lv_iload_n hx hb dX1_loudest_58 rfl (lv_at hl 3 rfl) ?_
      refine W.widen (k := 1) (n := 6) (Nat.le_of_ble_eq_true rfl) (Nat.le_of_ble_eq_true rfl) ?_
      exact fin _ _ _ _ _ rfl (by simp only [ho_1, if_pos c_18, Option.none_or, Option.some_or, reduceIte]) (by rw [hcl9]; exact congrArg Prod.snd hf) (by rw [hcl9, ← eN]; exact hP) hS dX1_loudest_59
    | succ j ih =>
      intro b u hj hf H locs ls hP hD hS hl
      refine lv_iload hx hb dX1_loudest_15 (lv_at hl 4 rfl) ?_
      refine lv_iload_n hx hb dX1_loudest_17 rfl (lv_at hl 1 rfl) ?_
      refine lv_icmp_ge (tgt := 58) hx hb dX1_loudest_18 (by decide) (fun c_18 => absurd c_18 (nI_ge (b := t) (by omega) (by omega))) (fun c_18 => ?_)
      refine lv_aload_n hx hb dX1_loudest_21 rfl (lv_at hl 0 rfl) ?_
      refine lv_aload_n hx hb dX1_loudest_22 rfl (lv_at hl 0 rfl) ?_
      refine va_get (D := D) (ci := 1) (v := .ref (a 2)) (C := RX1) (T := TX1) (N := 4) hx hb hts hiX1 hown hK hP 0 rfl rfl 1 (by decide) (hts (.fieldLink RX1 15 "CuckooShop" "copies" "[LCuckooShop$Clock;") (by decide +kernel)) (fun _ h9 => h9) rfl dX1_loudest_23 ?_
      refine lv_aload_n hx hb dX1_loudest_26 rfl (lv_at hl 0 rfl) ?_
      refine va_get (D := D) (ci := 1) (v := .int mn) (C := RX1) (T := TX1) (N := 4) hx hb hts hiX1 hown hK hP 0 rfl rfl 3 (by decide) (hts (.fieldLink RX1 23 "CuckooShop" "minute" "I") (by decide +kernel)) (fun _ h9 => h9) rfl dX1_loudest_27 ?_
      refine lv_iload hx hb dX1_loudest_30 (lv_at hl 4 rfl) ?_
      refine lv_iadd hx hb dX1_loudest_32 ?_
      have sp := cu_sp.all (W0 := (cu_cw C a (nI N) mn K (k_at N mn (k_cpy K P N) b))) (W1 := (cu_cw C a (nI N) mn K (k_upto (k_min (mn + nI b)) (k_at N mn (k_cpy K P N) b) N))) cu_cw_fst
      refine cu_callI (va_runV (As := [.ref (a 2), .int (mn + nI b)]) (rest := []) ⟨hx, hb, hml, hown, hts⟩ ((m_X1_runRowP l D C a N hN mn K (k_at N mn (k_cpy K P N) b) (mn + nI b)) H.size) (cwV 2 hts gX1_loudest_X1_runRow rfl rfl rfl (by decide +kernel) ⟨Nat.le_of_ble_eq_true rfl, Nat.le_of_ble_eq_true rfl⟩) (cu_preV (ci := 1) sp hG hP hD rfl rfl) rfl rfl hl.1 rfl (lv_room (Nat.le_of_ble_eq_true rfl)) dX1_loudest_33 ⟨Nat.le_of_ble_eq_true rfl, Nat.le_of_ble_eq_true rfl⟩) sp hP hD hS hA (fun H locs hP hD hS => ?_)
      have hP : va_P D vwCl (cu_cw C a (nI N) mn K (k_upto (k_min (mn + nI b)) (k_at N mn (k_cpy K P N) b) N)) H := hP
      have hD : va_D A (cu_cw C a (nI N) mn K (k_upto (k_min (mn + nI b)) (k_at N mn (k_cpy K P N) b) N)) := hD
      have hP : va_P D vwCl (cu_cw C a (nI N) mn K (k_at N mn (k_cpy K P N) (b + 1))) H := hP
      have hD : va_D A (cu_cw C a (nI N) mn K (k_at N mn (k_cpy K P N) (b + 1))) := hD
      refine lv_istore (lv' := [(5, .int (k_lat N (mn + nI b) (k_at N mn (k_cpy K P N) b))), (0, .ref (a 0)), (1, .int (nI t)), (2, .int u.1), (3, .int u.2), (4, .int (nI b))]) hx hb dX1_loudest_36 hl (by decide) rfl (fun ls hl => ?_)
      refine lv_iload hx hb dX1_loudest_38 (lv_at hl 0 rfl) ?_
      refine lv_iload_n hx hb dX1_loudest_40 rfl (lv_at hl 3 rfl) ?_
      refine lv_icmp_le (tgt := 52) hx hb dX1_loudest_41 (by decide) (fun c_41 => ?_) (fun c_41 => ?_)
      · refine lv_iinc (v := (nI (b + 1))) (lv' := [(4, .int (nI (b + 1))), (5, .int (k_lat N (mn + nI b) (k_at N mn (k_cpy K P N) b))), (0, .ref (a 0)), (1, .int (nI t)), (2, .int u.1), (3, .int u.2)]) hx hb dX1_loudest_52 hl (k := 5) rfl (nI_1 b) (by decide) rfl (fun ls hl => ?_)
        refine lv_goto (tgt := 15) hx hb dX1_loudest_55 (by decide) ?_
        exact ih (b + 1) u (by omega) (by rw [← hf]; show _ = k_loudR N mn (k_cpy K P N) j (b + 1) (k_loud1 N mn (k_cpy K P N) b u); congr 1; exact (if_pos c_41).symm) _ _ _ hP hD hS (lv_sub hl [2, 3, 4, 5, 0] rfl)
      · refine lv_iload hx hb dX1_loudest_44 (lv_at hl 0 rfl) ?_
        refine lv_istore_n (lv' := [(2, .int (k_lat N (mn + nI b) (k_at N mn (k_cpy K P N) b))), (5, .int (k_lat N (mn + nI b) (k_at N mn (k_cpy K P N) b))), (0, .ref (a 0)), (1, .int (nI t)), (3, .int u.2), (4, .int (nI b))]) hx hb dX1_loudest_46 rfl hl (by decide) rfl (fun ls hl => ?_)
        refine lv_iload hx hb dX1_loudest_47 (lv_at hl 5 rfl) ?_
        refine lv_iconst (v := 1) hx hb dX1_loudest_49 (by decide) ?_
        refine lv_iadd hx hb dX1_loudest_50 ?_
        refine lv_istore_n (lv' := [(3, .int (nI b + 1)), (2, .int (k_lat N (mn + nI b) (k_at N mn (k_cpy K P N) b))), (5, .int (k_lat N (mn + nI b) (k_at N mn (k_cpy K P N) b))), (0, .ref (a 0)), (1, .int (nI t)), (4, .int (nI b))]) hx hb dX1_loudest_51 rfl hl (by decide) rfl (fun ls hl => ?_)
        refine lv_iinc (v := (nI (b + 1))) (lv' := [(4, .int (nI (b + 1))), (3, .int (nI b + 1)), (2, .int (k_lat N (mn + nI b) (k_at N mn (k_cpy K P N) b))), (5, .int (k_lat N (mn + nI b) (k_at N mn (k_cpy K P N) b))), (0, .ref (a 0)), (1, .int (nI t))]) hx hb dX1_loudest_52 hl (k := 5) rfl (nI_1 b) (by decide) rfl (fun ls hl => ?_)
        refine lv_goto (tgt := 15) hx hb dX1_loudest_55 (by decide) ?_
        exact ih (b + 1) ((k_lat N (mn + nI b) (k_at N mn (k_cpy K P N) b)), (nI b + 1)) (by omega) (by rw [← hf]; show _ = k_loudR N mn (k_cpy K P N) j (b + 1) (k_loud1 N mn (k_cpy K P N) b u); congr 1; exact (if_neg c_41).symm) _ _ _ hP hD hS (lv_sub hl [4, 5, 2, 1, 0] rfl)
  exact loop t 0 (0, -1) (by omega) rfl _ _ _ hP hD hS (lv_sub hl [3, 4, 2, 1, 0] rfl)

set_option maxHeartbeats 4000000 in
set_option maxRecDepth 100000 in
theorem m_X1_foresee (l : Launch) (hlf : l.stackTraces = false) (D : va_G) (C : Nat → ClassId) (a : Nat → Nat) (N : Nat) (hN : N ≤ 10) (mn : Int32) (K P : Nat → Nat → Int32) (v1 : Int32) (v2 : Int32) (h5 : ∀ c, c < N → K c 5 = 0 ∨ K c 5 = 1) : cu_XI l D C yX1_foresee wsX1_foresee { frames := 7, cells := 2, slots := 12, locals := 110 } [.ref (a 0), .int v1, .int v2] (cu_cw C a (nI N) mn K P) (cu_cw C a (nI N) mn K (k_at N mn (k_cpy K P N) v1.toNatClampNeg)) ((k_oM v1).or (k_oF v2)) (k_fore N mn K (k_cpy K P N) v1.toNatClampNeg v2) 2 12 := by
  refine cu_openXI (cc := cX1_foresee) (maxL := 5) (ty := .int) hlf (by decide) rfl rfl (Nat.le_of_ble_eq_true rfl) ?_
  intro p e s m args below meth c A Z H0 ls e0 hx hb hml hts hown hnm hG hP hD hS hA hl hT fin thr prop
  have hK := hG.1
  have hl : lv_has ls 5 [(0, .ref (a 0)), (1, .int v1), (2, .int v2)] := hl
  have hiX1 : ∀ w ∈ wsX10, w ∈ wsX1_foresee := by decide +kernel
  refine lv_iload_n hx hb dX1_foresee_0 rfl (lv_at hl 1 rfl) ?_
  have sp := cu_sp.nil (W0 := (cu_cw C a (nI N) mn K P))
  refine cu_callXV (vx_runS (As := [.int v1]) (rest := []) ⟨hx, hb, hml, hown, hts⟩ ((m_X1_checkMinutes l hlf D C v1) H0.size) (va_cwS 1 hts gX1_foresee_X1_checkMinutes rfl rfl rfl (by decide +kernel) ⟨Nat.le_of_ble_eq_true rfl, Nat.le_of_ble_eq_true rfl⟩) (cu_preXS sp hG hP hD hT hS hA) rfl rfl hl.1 rfl (lv_room (Nat.le_of_ble_eq_true rfl)) dX1_foresee_1 ⟨Nat.le_of_ble_eq_true rfl, Nat.le_of_ble_eq_true rfl⟩) sp hP hD hS hA (fun E ce q9 H locs hoE hP hS hce hcv hcl => prop E ce q9 H locs _ _ _ _ _ (by simp only [k_oF, hoE, Option.none_or, Option.some_or, reduceIte]) hP hS hce hcv hcl (Nat.le_of_ble_eq_true rfl) (Nat.le_of_ble_eq_true rfl)) (fun H locs ho_1 hP hD hS => ?_)
  obtain ⟨t, ht1, ht2, rfl⟩ := k_oM_in ho_1
  have hcl9 : (nI t).toNatClampNeg = t := nI_clamp (by omega)
  refine lv_iload_n hx hb dX1_foresee_4 rfl (lv_at hl 2 rfl) ?_
  refine lv_iconst (v := 0) hx hb dX1_foresee_5 (by decide) ?_
  refine lv_iconst (v := 3) hx hb dX1_foresee_6 (by decide) ?_
  have sp := cu_sp.nil (W0 := (cu_cw C a (nI N) mn K P))
  refine cu_callI (va_runS (As := [.int v2, .int 0, .int 3]) (rest := []) ⟨hx, hb, hml, hown, hts⟩ ((m_X1_isWithin l D C v2 0 3) H.size) (va_cwS 3 hts gX1_foresee_X1_isWithin rfl rfl rfl (by decide +kernel) ⟨Nat.le_of_ble_eq_true rfl, Nat.le_of_ble_eq_true rfl⟩) (cu_preS sp hG hP hD) rfl rfl hl.1 rfl (lv_room (Nat.le_of_ble_eq_true rfl)) dX1_foresee_7 ⟨Nat.le_of_ble_eq_true rfl, Nat.le_of_ble_eq_true rfl⟩) sp hP hD hS hA (fun H locs hP hD hS => ?_)
  refine lv_if_ne (tgt := 23) hx hb dX1_foresee_10 (by decide) (fun c_10 => ?_) (fun c_10 => ?_)
  · refine lv_aload_n hx hb dX1_foresee_23 rfl (lv_at hl 0 rfl) ?_
    have sp := cu_sp.all (W0 := (cu_cw C a (nI N) mn K P)) (W1 := (cu_cw C a (nI N) mn K (k_cpy K P N))) cu_cw_fst
    refine cu_callV (va_runV (As := []) (rest := []) ⟨hx, hb, hml, hown, hts⟩ ((m_X1_copyClocks l D C a N hN mn K P  h5) H.size) (cwV 0 hts gX1_foresee_X1_copyClocks rfl rfl rfl (by decide +kernel) ⟨Nat.le_of_ble_eq_true rfl, Nat.le_of_ble_eq_true rfl⟩) (cu_preV (ci := 1) sp hG hP hD rfl rfl) rfl rfl hl.1 rfl (lv_room (Nat.le_of_ble_eq_true rfl)) dX1_foresee_24 ⟨Nat.le_of_ble_eq_true rfl, Nat.le_of_ble_eq_true rfl⟩) sp hP hD hS hA (fun H locs hP hD hS => ?_)
    have hP : va_P D vwCl (cu_cw C a (nI N) mn K (k_cpy K P N)) H := hP
    have hD : va_D A (cu_cw C a (nI N) mn K (k_cpy K P N)) := hD
    refine lv_iconst (v := 0) hx hb dX1_foresee_27 (by decide) ?_
    refine lv_istore_n (lv' := [(3, .int 0), (0, .ref (a 0)), (1, .int (nI t)), (2, .int v2)]) hx hb dX1_foresee_28 rfl hl (by decide) rfl (fun ls hl => ?_)
    refine lv_iconst (v := 0) hx hb dX1_foresee_29 (by decide) ?_
    refine lv_istore (lv' := [(4, .int 0), (3, .int 0), (0, .ref (a 0)), (1, .int (nI t)), (2, .int v2)]) hx hb dX1_foresee_30 hl (by decide) rfl (fun ls hl => ?_)
    have loop : ∀ (j : Nat), ∀ (b : Nat), b + j = t → ∀ (H : Heap) (locs : List Loc) (ls : Array Slot), va_P D vwCl (cu_cw C a (nI N) mn K (k_at N mn (k_cpy K P N) b)) H → va_D A (cu_cw C a (nI N) mn K (k_at N mn (k_cpy K P N) b)) → va_S A H0 H locs → lv_has ls 5 [(0, .ref (a 0)), (1, .int (nI t)), (2, .int v2), (3, .int (k_calls N mn (k_cpy K P N) b)), (4, .int (nI b))] → W p l e { frames := 7, cells := 2, slots := 12, locals := 110 } s m args below meth c H locs 1 6 Z (F0 m 32 ls []) := by
      intro j
      induction j with
      | zero =>
        intro b hj H locs ls hP hD hS hl
        have eN : b = t := by omega
        refine lv_iload hx hb dX1_foresee_32 (lv_at hl 4 rfl) ?_
        refine lv_iload_n hx hb dX1_foresee_34 rfl (lv_at hl 1 rfl) ?_
        refine lv_icmp_ge (tgt := 62) hx hb dX1_foresee_35 (by decide) (fun c_35 => ?_) (fun c_35 => absurd (nI_le (a := t) (by omega) (by omega)) c_35)
        refine lv_iload_n hx hb dX1_foresee_62 rfl (lv_at hl 2 rfl) ?_
        by_cases s_0 : v2 = 0
        · subst s_0
          refine lv_tableIn (off := 25) (tgt := 88) hx hb dX1_foresee_63 (by decide) (by decide) (by decide) (by decide) ?_
          refine lv_iload_n hx hb dX1_foresee_88 rfl (lv_at hl 3 rfl) ?_
          refine W.widen (k := 2) (n := 12) (Nat.le_of_ble_eq_true rfl) (Nat.le_of_ble_eq_true rfl) ?_
          exact fin _ _ _ _ _ rfl (by simp only [k_oF, ho_1, if_neg c_10, if_pos c_35, Option.none_or, Option.some_or, reduceIte]) (by rw [hcl9, ← eN]; simp only [k_fore, if_neg c_10, if_pos c_35, reduceIte]) (by rw [hcl9, ← eN]; exact hP) hS dX1_foresee_89
        by_cases s_1 : v2 = 1
        · subst s_1
          refine lv_tableIn (off := 27) (tgt := 90) hx hb dX1_foresee_63 (by decide) (by decide) (by decide) (by decide) ?_
          refine lv_aload_n hx hb dX1_foresee_90 rfl (lv_at hl 0 rfl) ?_
          refine lv_aload_n hx hb dX1_foresee_91 rfl (lv_at hl 0 rfl) ?_
          refine va_get (D := D) (ci := 1) (v := .ref (a 2)) (C := RX1) (T := TX1) (N := 4) hx hb hts hiX1 hown hK hP 0 rfl rfl 1 (by decide) (hts (.fieldLink RX1 15 "CuckooShop" "copies" "[LCuckooShop$Clock;") (by decide +kernel)) (fun _ h9 => h9) rfl dX1_foresee_92 ?_
          refine lv_bipush (v := 8) hx hb dX1_foresee_95 (by decide) ?_
          have sp := cu_sp.all (W0 := (cu_cw C a (nI N) mn K (k_at N mn (k_cpy K P N) b))) (W1 := (cu_cw C a (nI N) mn K (k_at N mn (k_cpy K P N) b))) rfl
          refine cu_callI (va_runV (As := [.ref (a 2), .int 8]) (rest := []) ⟨hx, hb, hml, hown, hts⟩ ((m_X1_sumOfP l D C a N hN mn K (k_at N mn (k_cpy K P N) b) 8) H.size) (cwV 2 hts gX1_foresee_X1_sumOf rfl rfl rfl (by decide +kernel) ⟨Nat.le_of_ble_eq_true rfl, Nat.le_of_ble_eq_true rfl⟩) (cu_preV (ci := 1) sp hG hP hD rfl rfl) rfl rfl hl.1 rfl (lv_room (Nat.le_of_ble_eq_true rfl)) dX1_foresee_97 ⟨Nat.le_of_ble_eq_true rfl, Nat.le_of_ble_eq_true rfl⟩) sp hP hD hS hA (fun H locs hP hD hS => ?_)
          have hP : va_P D vwCl (cu_cw C a (nI N) mn K (k_at N mn (k_cpy K P N) b)) H := hP
          have hD : va_D A (cu_cw C a (nI N) mn K (k_at N mn (k_cpy K P N) b)) := hD
          refine lv_aload_n hx hb dX1_foresee_100 rfl (lv_at hl 0 rfl) ?_
          refine lv_aload_n hx hb dX1_foresee_101 rfl (lv_at hl 0 rfl) ?_
          refine va_get (D := D) (ci := 1) (v := .ref (a 1)) (C := RX1) (T := TX1) (N := 4) hx hb hts hiX1 hown hK hP 0 rfl rfl 0 (by decide) (hts (.fieldLink RX1 11 "CuckooShop" "clocks" "[LCuckooShop$Clock;") (by decide +kernel)) (fun _ h9 => h9) rfl dX1_foresee_102 ?_
          refine lv_bipush (v := 8) hx hb dX1_foresee_105 (by decide) ?_
          have sp := cu_sp.all (W0 := (cu_cw C a (nI N) mn K (k_at N mn (k_cpy K P N) b))) (W1 := (cu_cw C a (nI N) mn K (k_at N mn (k_cpy K P N) b))) rfl
          refine cu_callI (va_runV (As := [.ref (a 1), .int 8]) (rest := [.int (k_all N (k_at N mn (k_cpy K P N) b) 8)]) ⟨hx, hb, hml, hown, hts⟩ ((m_X1_sumOf l D C a N hN mn K (k_at N mn (k_cpy K P N) b) 8) H.size) (cwV 2 hts gX1_foresee_X1_sumOf rfl rfl rfl (by decide +kernel) ⟨Nat.le_of_ble_eq_true rfl, Nat.le_of_ble_eq_true rfl⟩) (cu_preV (ci := 1) sp hG hP hD rfl rfl) rfl rfl hl.1 rfl (lv_room (Nat.le_of_ble_eq_true rfl)) dX1_foresee_107 ⟨Nat.le_of_ble_eq_true rfl, Nat.le_of_ble_eq_true rfl⟩) sp hP hD hS hA (fun H locs hP hD hS => ?_)
          have hP : va_P D vwCl (cu_cw C a (nI N) mn K (k_at N mn (k_cpy K P N) b)) H := hP
          have hD : va_D A (cu_cw C a (nI N) mn K (k_at N mn (k_cpy K P N) b)) := hD
          refine lv_isub hx hb dX1_foresee_110 ?_
          refine W.widen (k := 2) (n := 12) (Nat.le_of_ble_eq_true rfl) (Nat.le_of_ble_eq_true rfl) ?_
          exact fin _ _ _ _ _ rfl (by simp only [k_oF, ho_1, if_neg c_10, if_pos c_35, if_neg s_0, Option.none_or, Option.some_or, reduceIte]) (by rw [hcl9, ← eN]; simp only [k_fore, if_neg c_10, if_pos c_35, if_neg s_0, reduceIte]) (by rw [hcl9, ← eN]; exact hP) hS dX1_foresee_111
        by_cases s_2 : v2 = 2
        · subst s_2
          refine lv_tableIn (off := 49) (tgt := 112) hx hb dX1_foresee_63 (by decide) (by decide) (by decide) (by decide) ?_
          refine lv_aload_n hx hb dX1_foresee_112 rfl (lv_at hl 0 rfl) ?_
          refine lv_aload_n hx hb dX1_foresee_113 rfl (lv_at hl 0 rfl) ?_
          refine va_get (D := D) (ci := 1) (v := .ref (a 2)) (C := RX1) (T := TX1) (N := 4) hx hb hts hiX1 hown hK hP 0 rfl rfl 1 (by decide) (hts (.fieldLink RX1 15 "CuckooShop" "copies" "[LCuckooShop$Clock;") (by decide +kernel)) (fun _ h9 => h9) rfl dX1_foresee_114 ?_
          refine lv_iconst (v := 5) hx hb dX1_foresee_117 (by decide) ?_
          have sp := cu_sp.all (W0 := (cu_cw C a (nI N) mn K (k_at N mn (k_cpy K P N) b))) (W1 := (cu_cw C a (nI N) mn K (k_at N mn (k_cpy K P N) b))) rfl
          refine cu_callI (va_runV (As := [.ref (a 2), .int 5]) (rest := []) ⟨hx, hb, hml, hown, hts⟩ ((m_X1_sumOfP l D C a N hN mn K (k_at N mn (k_cpy K P N) b) 5) H.size) (cwV 2 hts gX1_foresee_X1_sumOf rfl rfl rfl (by decide +kernel) ⟨Nat.le_of_ble_eq_true rfl, Nat.le_of_ble_eq_true rfl⟩) (cu_preV (ci := 1) sp hG hP hD rfl rfl) rfl rfl hl.1 rfl (lv_room (Nat.le_of_ble_eq_true rfl)) dX1_foresee_118 ⟨Nat.le_of_ble_eq_true rfl, Nat.le_of_ble_eq_true rfl⟩) sp hP hD hS hA (fun H locs hP hD hS => ?_)
          have hP : va_P D vwCl (cu_cw C a (nI N) mn K (k_at N mn (k_cpy K P N) b)) H := hP
          have hD : va_D A (cu_cw C a (nI N) mn K (k_at N mn (k_cpy K P N) b)) := hD
          refine W.widen (k := 2) (n := 12) (Nat.le_of_ble_eq_true rfl) (Nat.le_of_ble_eq_true rfl) ?_
          exact fin _ _ _ _ _ rfl (by simp only [k_oF, ho_1, if_neg c_10, if_pos c_35, if_neg s_0, if_neg s_1, Option.none_or, Option.some_or, reduceIte]) (by rw [hcl9, ← eN]; simp only [k_fore, if_neg c_10, if_pos c_35, if_neg s_0, if_neg s_1, reduceIte]) (by rw [hcl9, ← eN]; exact hP) hS dX1_foresee_121
        refine lv_tableOut (tgt := 122) hx hb dX1_foresee_63 (by have q_0 := cu_ne s_0 0 (by decide); have q_1 := cu_ne s_1 1 (by decide); have q_2 := cu_ne s_2 2 (by decide); omega) (by decide) ?_
        refine lv_aload_n hx hb dX1_foresee_122 rfl (lv_at hl 0 rfl) ?_
        refine lv_aload_n hx hb dX1_foresee_123 rfl (lv_at hl 0 rfl) ?_
        refine va_get (D := D) (ci := 1) (v := .ref (a 2)) (C := RX1) (T := TX1) (N := 4) hx hb hts hiX1 hown hK hP 0 rfl rfl 1 (by decide) (hts (.fieldLink RX1 15 "CuckooShop" "copies" "[LCuckooShop$Clock;") (by decide +kernel)) (fun _ h9 => h9) rfl dX1_foresee_124 ?_
        refine lv_aload_n hx hb dX1_foresee_127 rfl (lv_at hl 0 rfl) ?_
        refine va_get (D := D) (ci := 1) (v := .int mn) (C := RX1) (T := TX1) (N := 4) hx hb hts hiX1 hown hK hP 0 rfl rfl 3 (by decide) (hts (.fieldLink RX1 23 "CuckooShop" "minute" "I") (by decide +kernel)) (fun _ h9 => h9) rfl dX1_foresee_128 ?_
        refine lv_iload_n hx hb dX1_foresee_131 rfl (lv_at hl 1 rfl) ?_
        refine lv_iadd hx hb dX1_foresee_132 ?_
        have sp := cu_sp.all (W0 := (cu_cw C a (nI N) mn K (k_at N mn (k_cpy K P N) b))) (W1 := (cu_cw C a (nI N) mn K (k_at N mn (k_cpy K P N) b))) rfl
        refine cu_callI (va_runV (As := [.ref (a 2), .int (mn + nI t)]) (rest := []) ⟨hx, hb, hml, hown, hts⟩ ((m_X1_offOfAllP l D C a N hN mn K (k_at N mn (k_cpy K P N) b) (mn + nI t)) H.size) (cwV 2 hts gX1_foresee_X1_offOfAll rfl rfl rfl (by decide +kernel) ⟨Nat.le_of_ble_eq_true rfl, Nat.le_of_ble_eq_true rfl⟩) (cu_preV (ci := 1) sp hG hP hD rfl rfl) rfl rfl hl.1 rfl (lv_room (Nat.le_of_ble_eq_true rfl)) dX1_foresee_133 ⟨Nat.le_of_ble_eq_true rfl, Nat.le_of_ble_eq_true rfl⟩) sp hP hD hS hA (fun H locs hP hD hS => ?_)
        have hP : va_P D vwCl (cu_cw C a (nI N) mn K (k_at N mn (k_cpy K P N) b)) H := hP
        have hD : va_D A (cu_cw C a (nI N) mn K (k_at N mn (k_cpy K P N) b)) := hD
        refine W.widen (k := 2) (n := 12) (Nat.le_of_ble_eq_true rfl) (Nat.le_of_ble_eq_true rfl) ?_
        exact fin _ _ _ _ _ rfl (by simp only [k_oF, ho_1, if_neg c_10, if_pos c_35, if_neg s_0, if_neg s_1, if_neg s_2, Option.none_or, Option.some_or, reduceIte]) (by rw [hcl9, ← eN]; simp only [k_fore, if_neg c_10, if_pos c_35, if_neg s_0, if_neg s_1, if_neg s_2, reduceIte]) (by rw [hcl9, ← eN]; exact hP) hS dX1_foresee_136
      | succ j ih =>
        intro b hj H locs ls hP hD hS hl
        refine lv_iload hx hb dX1_foresee_32 (lv_at hl 4 rfl) ?_
        refine lv_iload_n hx hb dX1_foresee_34 rfl (lv_at hl 1 rfl) ?_
        refine lv_icmp_ge (tgt := 62) hx hb dX1_foresee_35 (by decide) (fun c_35 => absurd c_35 (nI_ge (b := t) (by omega) (by omega))) (fun c_35 => ?_)
        refine lv_iload_n hx hb dX1_foresee_38 rfl (lv_at hl 3 rfl) ?_
        refine lv_aload_n hx hb dX1_foresee_39 rfl (lv_at hl 0 rfl) ?_
        refine lv_aload_n hx hb dX1_foresee_40 rfl (lv_at hl 0 rfl) ?_
        refine va_get (D := D) (ci := 1) (v := .ref (a 2)) (C := RX1) (T := TX1) (N := 4) hx hb hts hiX1 hown hK hP 0 rfl rfl 1 (by decide) (hts (.fieldLink RX1 15 "CuckooShop" "copies" "[LCuckooShop$Clock;") (by decide +kernel)) (fun _ h9 => h9) rfl dX1_foresee_41 ?_
        refine lv_aload_n hx hb dX1_foresee_44 rfl (lv_at hl 0 rfl) ?_
        refine va_get (D := D) (ci := 1) (v := .int mn) (C := RX1) (T := TX1) (N := 4) hx hb hts hiX1 hown hK hP 0 rfl rfl 3 (by decide) (hts (.fieldLink RX1 23 "CuckooShop" "minute" "I") (by decide +kernel)) (fun _ h9 => h9) rfl dX1_foresee_45 ?_
        refine lv_iload hx hb dX1_foresee_48 (lv_at hl 4 rfl) ?_
        refine lv_iadd hx hb dX1_foresee_50 ?_
        have sp := cu_sp.all (W0 := (cu_cw C a (nI N) mn K (k_at N mn (k_cpy K P N) b))) (W1 := (cu_cw C a (nI N) mn K (k_upto (k_min (mn + nI b)) (k_at N mn (k_cpy K P N) b) N))) cu_cw_fst
        refine cu_callI (va_runV (As := [.ref (a 2), .int (mn + nI b)]) (rest := [.int (k_calls N mn (k_cpy K P N) b)]) ⟨hx, hb, hml, hown, hts⟩ ((m_X1_runRowP l D C a N hN mn K (k_at N mn (k_cpy K P N) b) (mn + nI b)) H.size) (cwV 2 hts gX1_foresee_X1_runRow rfl rfl rfl (by decide +kernel) ⟨Nat.le_of_ble_eq_true rfl, Nat.le_of_ble_eq_true rfl⟩) (cu_preV (ci := 1) sp hG hP hD rfl rfl) rfl rfl hl.1 rfl (lv_room (Nat.le_of_ble_eq_true rfl)) dX1_foresee_51 ⟨Nat.le_of_ble_eq_true rfl, Nat.le_of_ble_eq_true rfl⟩) sp hP hD hS hA (fun H locs hP hD hS => ?_)
        have hP : va_P D vwCl (cu_cw C a (nI N) mn K (k_upto (k_min (mn + nI b)) (k_at N mn (k_cpy K P N) b) N)) H := hP
        have hD : va_D A (cu_cw C a (nI N) mn K (k_upto (k_min (mn + nI b)) (k_at N mn (k_cpy K P N) b) N)) := hD
        have hP : va_P D vwCl (cu_cw C a (nI N) mn K (k_at N mn (k_cpy K P N) (b + 1))) H := hP
        have hD : va_D A (cu_cw C a (nI N) mn K (k_at N mn (k_cpy K P N) (b + 1))) := hD
        refine lv_iadd hx hb dX1_foresee_54 ?_
        refine lv_istore_n (lv' := [(3, .int ((k_calls N mn (k_cpy K P N) b) + (k_lat N (mn + nI b) (k_at N mn (k_cpy K P N) b)))), (0, .ref (a 0)), (1, .int (nI t)), (2, .int v2), (4, .int (nI b))]) hx hb dX1_foresee_55 rfl hl (by decide) rfl (fun ls hl => ?_)
        refine lv_iinc (v := (nI (b + 1))) (lv' := [(4, .int (nI (b + 1))), (3, .int ((k_calls N mn (k_cpy K P N) b) + (k_lat N (mn + nI b) (k_at N mn (k_cpy K P N) b)))), (0, .ref (a 0)), (1, .int (nI t)), (2, .int v2)]) hx hb dX1_foresee_56 hl (k := 4) rfl (nI_1 b) (by decide) rfl (fun ls hl => ?_)
        refine lv_goto (tgt := 32) hx hb dX1_foresee_59 (by decide) ?_
        exact ih (b + 1) (by omega) _ _ _ hP hD hS (lv_sub hl [2, 3, 4, 1, 0] rfl)
    exact loop t 0 (by omega) _ _ _ hP hD hS (lv_sub hl [2, 3, 4, 1, 0] rfl)
  · exact thr x_IOB "what is foreseen is 0 to 3" 86 123 90 _ _ 13 _ _ _ _ cu_th_IOB (hts (.classLink RX1 86 x_IOB) (by decide +kernel)) (hts (.initialized x_IOB) (by decide +kernel)) (by decide +kernel) (by decide +kernel) hS hl.1 dX1_foresee_13 dX1_foresee_16 dX1_foresee_17 dX1_foresee_19 dX1_foresee_22 (Nat.le_of_ble_eq_true rfl) (Nat.le_of_ble_eq_true rfl) (Nat.le_of_ble_eq_true rfl) (Nat.le_of_ble_eq_true rfl) (Nat.le_of_ble_eq_true rfl) (Nat.le_of_ble_eq_true rfl) (by simp only [k_oF, ho_1, if_pos c_10, Option.none_or, Option.some_or, reduceIte]) hP

set_option maxHeartbeats 4000000 in
set_option maxRecDepth 100000 in
theorem m_X1_digest (l : Launch) (D : va_G) (C : Nat → ClassId) (a : Nat → Nat) (N : Nat) (hN : N ≤ 10) (mn : Int32) (K P : Nat → Nat → Int32) : cu_L l D C yX1_digest wsX1_digest { frames := 5, cells := 0, slots := 0, locals := 109 } [.ref (a 0)] (cu_cw C a (nI N) mn K P) (cu_cw C a (nI N) mn K P) (k_dig N K mn) 0 0 := by
  refine cu_openL (cc := cX1_digest) (maxL := 4) (own := RX1) (by decide) rfl rfl (Nat.le_of_ble_eq_true rfl) ?_
  intro p e s m args below meth c A Z H0 ls e0 hx hb hml hts hown hnm hG hP hD hS hA hl fin
  have hK := hG.1
  have hl : lv_has ls 4 [(0, .ref (a 0))] := hl
  have hiX1 : ∀ w ∈ wsX10, w ∈ wsX1_digest := by decide +kernel
  refine lv_ldc2 (v := 1009) hx hb hown (hts (.constantLong RX1 138 (1009)) (by decide +kernel)) dX1_digest_0 ?_
  refine lv_lstore_n (lv' := [(1, .long 1009), (0, .ref (a 0))]) hx hb dX1_digest_3 rfl hl (by decide) rfl (fun ls hl => ?_)
  refine lv_iconst (v := 0) hx hb dX1_digest_4 (by decide) ?_
  refine lv_istore_n (lv' := [(3, .int 0), (1, .long 1009), (0, .ref (a 0))]) hx hb dX1_digest_5 rfl hl (by decide) rfl (fun ls hl => ?_)
  have loop : ∀ (j : Nat), ∀ (b : Nat), b + j = 8 → ∀ (H : Heap) (locs : List Loc) (ls : Array Slot), va_P D vwCl (cu_cw C a (nI N) mn K P) H → va_D A (cu_cw C a (nI N) mn K P) → va_S A H0 H locs → lv_has ls 4 [(0, .ref (a 0)), (3, .int (nI b)), (1, .long (k_digT N K mn b))] → W p l e { frames := 5, cells := 0, slots := 0, locals := 109 } s m args below meth c H locs 0 0 Z (F0 m 6 ls []) := by
    intro j
    induction j with
    | zero =>
      intro b hj H locs ls hP hD hS hl
      obtain rfl : b = 8 := by omega
      refine lv_iload_n hx hb dX1_digest_6 rfl (lv_at hl 1 rfl) ?_
      refine lv_bipush (v := 8) hx hb dX1_digest_7 (by decide) ?_
      refine lv_icmp_ge (tgt := 31) hx hb dX1_digest_9 (by decide) (fun c_9 => ?_) (fun c_9 => absurd (nI_le (a := 8) (by omega) (by omega)) c_9)
      refine lv_iconst (v := 0) hx hb dX1_digest_31 (by decide) ?_
      refine lv_istore_n (lv' := [(3, .int 0), (0, .ref (a 0)), (1, .long (k_digT N K mn 8))]) hx hb dX1_digest_32 rfl hl (by decide) rfl (fun ls hl => ?_)
      have loop2 : ∀ (k : Nat), ∀ (i : Nat), i + k = N → ∀ (H : Heap) (locs : List Loc) (ls : Array Slot), va_P D vwCl (cu_cw C a (nI N) mn K P) H → va_D A (cu_cw C a (nI N) mn K P) → va_S A H0 H locs → lv_has ls 4 [(0, .ref (a 0)), (3, .int (nI i)), (1, .long (k_digC K (k_digT N K mn 8) i))] → W p l e { frames := 5, cells := 0, slots := 0, locals := 109 } s m args below meth c H locs 0 0 Z (F0 m 33 ls []) := by
        intro k
        induction k with
        | zero =>
          intro i hj2 H locs ls hP hD hS hl
          have eN : i = N := by omega
          refine lv_iload_n hx hb dX1_digest_33 rfl (lv_at hl 1 rfl) ?_
          refine lv_aload_n hx hb dX1_digest_34 rfl (lv_at hl 0 rfl) ?_
          refine va_get (D := D) (ci := 1) (v := .int (nI N)) (C := RX1) (T := TX1) (N := 4) hx hb hts hiX1 hown hK hP 0 rfl rfl 2 (by decide) (hts (.fieldLink RX1 19 "CuckooShop" "present" "I") (by decide +kernel)) (fun _ h9 => h9) rfl dX1_digest_35 ?_
          refine lv_icmp_ge (tgt := 58) hx hb dX1_digest_38 (by decide) (fun c_38 => ?_) (fun c_38 => absurd (nI_le (a := N) (by omega) (by omega)) c_38)
          refine lv_lload_n hx hb dX1_digest_58 rfl (lv_at hl 2 rfl) ?_
          exact fin _ _ _ _ _ (by rw [eN]; rfl) hP hS dX1_digest_59
        | succ k ih =>
          intro i hj2 H locs ls hP hD hS hl
          have hi : i < 10 := by omega
          refine lv_iload_n hx hb dX1_digest_33 rfl (lv_at hl 1 rfl) ?_
          refine lv_aload_n hx hb dX1_digest_34 rfl (lv_at hl 0 rfl) ?_
          refine va_get (D := D) (ci := 1) (v := .int (nI N)) (C := RX1) (T := TX1) (N := 4) hx hb hts hiX1 hown hK hP 0 rfl rfl 2 (by decide) (hts (.fieldLink RX1 19 "CuckooShop" "present" "I") (by decide +kernel)) (fun _ h9 => h9) rfl dX1_digest_35 ?_
          refine lv_icmp_ge (tgt := 58) hx hb dX1_digest_38 (by decide) (fun c_38 => absurd c_38 (nI_ge (b := N) (by omega) (by omega))) (fun c_38 => ?_)
          refine lv_aload_n hx hb dX1_digest_41 rfl (lv_at hl 0 rfl) ?_
          refine va_get (D := D) (ci := 1) (v := .ref (a 1)) (C := RX1) (T := TX1) (N := 4) hx hb hts hiX1 hown hK hP 0 rfl rfl 0 (by decide) (hts (.fieldLink RX1 11 "CuckooShop" "clocks" "[LCuckooShop$Clock;") (by decide +kernel)) (fun _ h9 => h9) rfl dX1_digest_42 ?_
          refine lv_iload_n hx hb dX1_digest_45 rfl (lv_at hl 1 rfl) ?_
          refine cu_aaldK hi hx hb hK hP dX1_digest_46 ?_
          refine lv_lload_n hx hb dX1_digest_47 rfl (lv_at hl 2 rfl) ?_
          have sp := cu_sp.rd (cu_cw_K (C := C) (a := a) (n := (nI N)) (m := mn) (K := K) (P := P) hi)
          refine cu_callL (va_runVN (As := [.long (k_digC K (k_digT N K mn 8) i)]) (rest := []) ⟨hx, hb, hml, hown, hts⟩ ((m_X0_mixInto l D C (a (3 + i)) (K i) (k_digC K (k_digT N K mn 8) i)) H.size) ⟨(va_cnB 1 hts gX1_digest_X0_mixInto_n142 rfl rfl rfl (hG.2.1 (142, yX0_mixInto) (by decide +kernel)) (hts (.initialized RX0) (by decide +kernel)) (by decide +kernel) ⟨Nat.le_of_ble_eq_true rfl, Nat.le_of_ble_eq_true rfl⟩), hts (.instanceMethod yX0_mixInto) (by decide +kernel), hts (.selects RX0 yX0_mixInto yX0_mixInto) (by decide +kernel)⟩ (cu_preV (ci := 0) sp hG hP hD rfl rfl) rfl rfl hl.1 rfl (lv_room (Nat.le_of_ble_eq_true rfl)) dX1_digest_48 ⟨Nat.le_of_ble_eq_true rfl, Nat.le_of_ble_eq_true rfl⟩) sp hP hD hS hA (fun H locs hP hD hS => ?_)
          have hP : va_P D vwCl (cu_cw C a (nI N) mn K P) H := hP
          have hD : va_D A (cu_cw C a (nI N) mn K P) := hD
          refine lv_lstore_n (lv' := [(1, .long (k_mix (K i) (k_digC K (k_digT N K mn 8) i))), (0, .ref (a 0)), (3, .int (nI i))]) hx hb dX1_digest_51 rfl hl (by decide) rfl (fun ls hl => ?_)
          refine lv_iinc (v := (nI (i + 1))) (lv' := [(3, .int (nI (i + 1))), (1, .long (k_mix (K i) (k_digC K (k_digT N K mn 8) i))), (0, .ref (a 0))]) hx hb dX1_digest_52 hl (k := 2) rfl (nI_1 i) (by decide) rfl (fun ls hl => ?_)
          refine lv_goto (tgt := 33) hx hb dX1_digest_55 (by decide) ?_
          exact ih (i + 1) (by omega) _ _ _ hP hD hS (lv_sub hl [2, 0, 1] rfl)
      exact loop2 N 0 (by omega) _ _ _ hP hD hS (lv_sub hl [1, 0, 2] rfl)
    | succ j ih =>
      intro b hj H locs ls hP hD hS hl
      refine lv_iload_n hx hb dX1_digest_6 rfl (lv_at hl 1 rfl) ?_
      refine lv_bipush (v := 8) hx hb dX1_digest_7 (by decide) ?_
      refine lv_icmp_ge (tgt := 31) hx hb dX1_digest_9 (by decide) (fun c_9 => absurd c_9 (nI_ge (b := 8) (by omega) (by decide))) (fun c_9 => ?_)
      refine lv_lload_n hx hb dX1_digest_12 rfl (lv_at hl 2 rfl) ?_
      refine lv_ldc2 (v := 31) hx hb hown (hts (.constantLong RX1 140 (31)) (by decide +kernel)) dX1_digest_13 ?_
      refine lv_lmul hx hb dX1_digest_16 ?_
      refine lv_aload_n hx hb dX1_digest_17 rfl (lv_at hl 0 rfl) ?_
      refine lv_iload_n hx hb dX1_digest_18 rfl (lv_at hl 1 rfl) ?_
      have sp := cu_sp.all (W0 := (cu_cw C a (nI N) mn K P)) (W1 := (cu_cw C a (nI N) mn K P)) rfl
      refine cu_callI (va_runV (As := [.int (nI b)]) (rest := [.long ((k_digT N K mn b) * 31)]) ⟨hx, hb, hml, hown, hts⟩ ((m_X1_tally l D C a N hN mn K P (nI b)) H.size) (cwV 1 hts gX1_digest_X1_tally rfl rfl rfl (by decide +kernel) ⟨Nat.le_of_ble_eq_true rfl, Nat.le_of_ble_eq_true rfl⟩) (cu_preV (ci := 1) sp hG hP hD rfl rfl) rfl rfl hl.1 rfl (lv_room (Nat.le_of_ble_eq_true rfl)) dX1_digest_19 ⟨Nat.le_of_ble_eq_true rfl, Nat.le_of_ble_eq_true rfl⟩) sp hP hD hS hA (fun H locs hP hD hS => ?_)
      have hP : va_P D vwCl (cu_cw C a (nI N) mn K P) H := hP
      have hD : va_D A (cu_cw C a (nI N) mn K P) := hD
      refine lv_i2l (v := (k_tally N K mn (nI b)).toInt64) hx hb dX1_digest_22 rfl ?_
      refine lv_ladd hx hb dX1_digest_23 ?_
      refine lv_lstore_n (lv' := [(1, .long (((k_digT N K mn b) * 31) + (k_tally N K mn (nI b)).toInt64)), (0, .ref (a 0)), (3, .int (nI b))]) hx hb dX1_digest_24 rfl hl (by decide) rfl (fun ls hl => ?_)
      refine lv_iinc (v := (nI (b + 1))) (lv' := [(3, .int (nI (b + 1))), (1, .long (((k_digT N K mn b) * 31) + (k_tally N K mn (nI b)).toInt64)), (0, .ref (a 0))]) hx hb dX1_digest_25 hl (k := 2) rfl (nI_1 b) (by decide) rfl (fun ls hl => ?_)
      refine lv_goto (tgt := 6) hx hb dX1_digest_28 (by decide) ?_
      exact ih (b + 1) (by omega) _ _ _ hP hD hS (lv_sub hl [2, 0, 1] rfl)
  exact loop 8 0 (by omega) _ _ _ hP hD hS (lv_sub hl [2, 0, 1] rfl)
end
