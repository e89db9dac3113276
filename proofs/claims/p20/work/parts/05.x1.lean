set_option maxRecDepth 20000 in
theorem ggX1_init_X0_init : GoodIn wsX1_init wsX0_init := goodIn_r _ [12, 13, 2, 3, 14, 15, 16, 17, 18, 19, 20, 21, 22, 23, 24, 25, 26, 27, 32, 33, 34, 35, 36, 37, 38, 39, 40, 41, 42, 43, 44, 45] (by decide +kernel) (by decide +kernel)
set_option maxRecDepth 20000 in
theorem gX1_init_X0_init_n18 : GoodIn wsX1_init (wsX0_init) := ggX1_init_X0_init
theorem dX1_init_0 : decode cX1_init 0 = .ok (.aload_n 0, 1) := by decide +kernel
theorem dX1_init_1 : decode cX1_init 1 = .ok (.invokespecial 1, 3) := by decide +kernel
theorem dX1_init_4 : decode cX1_init 4 = .ok (.aload_n 0, 1) := by decide +kernel
theorem dX1_init_5 : decode cX1_init 5 = .ok (.bipush 10, 2) := by decide +kernel
theorem dX1_init_7 : decode cX1_init 7 = .ok (.anewarray 9, 3) := by decide +kernel
theorem dX1_init_10 : decode cX1_init 10 = .ok (.putfield 11, 3) := by decide +kernel
theorem dX1_init_13 : decode cX1_init 13 = .ok (.aload_n 0, 1) := by decide +kernel
theorem dX1_init_14 : decode cX1_init 14 = .ok (.bipush 10, 2) := by decide +kernel
theorem dX1_init_16 : decode cX1_init 16 = .ok (.anewarray 9, 3) := by decide +kernel
theorem dX1_init_19 : decode cX1_init 19 = .ok (.putfield 15, 3) := by decide +kernel
theorem dX1_init_22 : decode cX1_init 22 = .ok (.iconst 0, 1) := by decide +kernel
theorem dX1_init_23 : decode cX1_init 23 = .ok (.istore_n 1, 1) := by decide +kernel
theorem dX1_init_24 : decode cX1_init 24 = .ok (.iload_n 1, 1) := by decide +kernel
theorem dX1_init_25 : decode cX1_init 25 = .ok (.bipush 10, 2) := by decide +kernel
theorem dX1_init_27 : decode cX1_init 27 = .ok (.if_icmp .ge 35, 3) := by decide +kernel
theorem dX1_init_30 : decode cX1_init 30 = .ok (.aload_n 0, 1) := by decide +kernel
theorem dX1_init_31 : decode cX1_init 31 = .ok (.getfield 11, 3) := by decide +kernel
theorem dX1_init_34 : decode cX1_init 34 = .ok (.iload_n 1, 1) := by decide +kernel
theorem dX1_init_35 : decode cX1_init 35 = .ok (.new 9, 3) := by decide +kernel
theorem dX1_init_38 : decode cX1_init 38 = .ok (.dup, 1) := by decide +kernel
theorem dX1_init_39 : decode cX1_init 39 = .ok (.invokespecial 18, 3) := by decide +kernel
theorem dX1_init_42 : decode cX1_init 42 = .ok (.aastore, 1) := by decide +kernel
theorem dX1_init_43 : decode cX1_init 43 = .ok (.aload_n 0, 1) := by decide +kernel
theorem dX1_init_44 : decode cX1_init 44 = .ok (.getfield 15, 3) := by decide +kernel
theorem dX1_init_47 : decode cX1_init 47 = .ok (.iload_n 1, 1) := by decide +kernel
theorem dX1_init_48 : decode cX1_init 48 = .ok (.new 9, 3) := by decide +kernel
theorem dX1_init_51 : decode cX1_init 51 = .ok (.dup, 1) := by decide +kernel
theorem dX1_init_52 : decode cX1_init 52 = .ok (.invokespecial 18, 3) := by decide +kernel
theorem dX1_init_55 : decode cX1_init 55 = .ok (.aastore, 1) := by decide +kernel
theorem dX1_init_56 : decode cX1_init 56 = .ok (.iinc 1 1, 3) := by decide +kernel
theorem dX1_init_59 : decode cX1_init 59 = .ok (.goto (-35), 3) := by decide +kernel
theorem dX1_init_62 : decode cX1_init 62 = .ok (.aload_n 0, 1) := by decide +kernel
theorem dX1_init_63 : decode cX1_init 63 = .ok (.iconst 0, 1) := by decide +kernel
theorem dX1_init_64 : decode cX1_init 64 = .ok (.putfield 19, 3) := by decide +kernel
theorem dX1_init_67 : decode cX1_init 67 = .ok (.aload_n 0, 1) := by decide +kernel
theorem dX1_init_68 : decode cX1_init 68 = .ok (.iconst 0, 1) := by decide +kernel
theorem dX1_init_69 : decode cX1_init 69 = .ok (.putfield 23, 3) := by decide +kernel
theorem dX1_init_72 : decode cX1_init 72 = .ok (.return_, 1) := by decide +kernel
set_option maxRecDepth 20000 in
theorem ggX1_come_X1_checkTime : GoodIn wsX1_come wsX1_checkTime := goodIn_ca (goodIn_r _ [8, 9, 10, 11, 12, 7, 13] (by decide +kernel) (by decide +kernel)) (goodIn_sub (fun _ h => List.mem_cons_of_mem _ (List.mem_append_right _ h)) (by decide +kernel))
set_option maxRecDepth 20000 in
theorem gX1_come_X1_checkTime : GoodIn wsX1_come (va_wsS RX1 26 yX1_checkTime wsX1_checkTime) := goodIn_app (goodIn_of _ (by decide +kernel)) ggX1_come_X1_checkTime
set_option maxRecDepth 20000 in
theorem ggX1_come_X0_putHands : GoodIn wsX1_come wsX0_putHands := goodIn_r _ [17, 18, 19, 24, 25, 26, 27, 28, 29, 30, 31, 32, 33, 34, 35, 36, 37] (by decide +kernel) (by decide +kernel)
set_option maxRecDepth 20000 in
theorem gX1_come_X0_putHands_n37 : GoodIn wsX1_come (wsX0_putHands) := ggX1_come_X0_putHands
theorem dX1_come_0 : decode cX1_come 0 = .ok (.iload_n 1, 1) := by decide +kernel
theorem dX1_come_1 : decode cX1_come 1 = .ok (.invokestatic 26, 3) := by decide +kernel
theorem dX1_come_4 : decode cX1_come 4 = .ok (.aload_n 0, 1) := by decide +kernel
theorem dX1_come_5 : decode cX1_come 5 = .ok (.getfield 19, 3) := by decide +kernel
theorem dX1_come_8 : decode cX1_come 8 = .ok (.bipush 10, 2) := by decide +kernel
theorem dX1_come_10 : decode cX1_come 10 = .ok (.if_icmp .lt 13, 3) := by decide +kernel
theorem dX1_come_13 : decode cX1_come 13 = .ok (.new 30, 3) := by decide +kernel
theorem dX1_come_16 : decode cX1_come 16 = .ok (.dup, 1) := by decide +kernel
theorem dX1_come_17 : decode cX1_come 17 = .ok (.ldc 32, 2) := by decide +kernel
theorem dX1_come_19 : decode cX1_come 19 = .ok (.invokespecial 34, 3) := by decide +kernel
theorem dX1_come_22 : decode cX1_come 22 = .ok (.athrow, 1) := by decide +kernel
theorem dX1_come_23 : decode cX1_come 23 = .ok (.aload_n 0, 1) := by decide +kernel
theorem dX1_come_24 : decode cX1_come 24 = .ok (.getfield 11, 3) := by decide +kernel
theorem dX1_come_27 : decode cX1_come 27 = .ok (.aload_n 0, 1) := by decide +kernel
theorem dX1_come_28 : decode cX1_come 28 = .ok (.getfield 19, 3) := by decide +kernel
theorem dX1_come_31 : decode cX1_come 31 = .ok (.aaload, 1) := by decide +kernel
theorem dX1_come_32 : decode cX1_come 32 = .ok (.iload_n 1, 1) := by decide +kernel
theorem dX1_come_33 : decode cX1_come 33 = .ok (.invokevirtual 37, 3) := by decide +kernel
theorem dX1_come_36 : decode cX1_come 36 = .ok (.aload_n 0, 1) := by decide +kernel
theorem dX1_come_37 : decode cX1_come 37 = .ok (.dup, 1) := by decide +kernel
theorem dX1_come_38 : decode cX1_come 38 = .ok (.getfield 19, 3) := by decide +kernel
theorem dX1_come_41 : decode cX1_come 41 = .ok (.iconst 1, 1) := by decide +kernel
theorem dX1_come_42 : decode cX1_come 42 = .ok (.iadd, 1) := by decide +kernel
theorem dX1_come_43 : decode cX1_come 43 = .ok (.putfield 19, 3) := by decide +kernel
theorem dX1_come_46 : decode cX1_come 46 = .ok (.aload_n 0, 1) := by decide +kernel
theorem dX1_come_47 : decode cX1_come 47 = .ok (.getfield 19, 3) := by decide +kernel
theorem dX1_come_50 : decode cX1_come 50 = .ok (.iconst 1, 1) := by decide +kernel
theorem dX1_come_51 : decode cX1_come 51 = .ok (.isub, 1) := by decide +kernel
theorem dX1_come_52 : decode cX1_come 52 = .ok (.ireturn, 1) := by decide +kernel
set_option maxRecDepth 20000 in
theorem ggX1_gear_X1_checkClock : GoodIn wsX1_gear wsX1_checkClock := goodIn_ca (goodIn_r _ [8, 9, 10, 11, 30, 31, 32, 33] (by decide +kernel) (by decide +kernel)) (goodIn_sub (fun _ h => List.mem_cons_of_mem _ (List.mem_append_right _ h)) (by decide +kernel))
set_option maxRecDepth 20000 in
theorem gX1_gear_X1_checkClock : GoodIn wsX1_gear (wsV RX1 40 RX1 yX1_checkClock wsX1_checkClock) := goodIn_app (goodIn_of _ (by decide +kernel)) ggX1_gear_X1_checkClock
set_option maxRecDepth 20000 in
theorem ggX1_gear_X1_isWithin : GoodIn wsX1_gear wsX1_isWithin := goodIn_r _ [14] (by decide +kernel) (by decide +kernel)
set_option maxRecDepth 20000 in
theorem gX1_gear_X1_isWithin : GoodIn wsX1_gear (va_wsS RX1 43 yX1_isWithin wsX1_isWithin) := goodIn_app (goodIn_of _ (by decide +kernel)) ggX1_gear_X1_isWithin
set_option maxRecDepth 20000 in
theorem ggX1_gear_X0_fitTrain : GoodIn wsX1_gear wsX0_fitTrain := goodIn_r _ [18, 19, 20, 21, 34, 35, 36, 37, 38, 39, 40, 41, 42, 43, 44, 45, 46, 47] (by decide +kernel) (by decide +kernel)
set_option maxRecDepth 20000 in
theorem gX1_gear_X0_fitTrain_n54 : GoodIn wsX1_gear (wsX0_fitTrain) := ggX1_gear_X0_fitTrain
set_option maxRecDepth 20000 in
theorem ggX1_gear_X0_advance : GoodIn wsX1_gear wsX0_advance := goodIn_r _ [24, 19, 20, 25, 26, 27, 16, 28, 21, 29, 34, 35, 36, 37, 38, 39, 40, 41, 42, 43, 44, 45, 46, 47] (by decide +kernel) (by decide +kernel)
set_option maxRecDepth 20000 in
theorem gX1_gear_X0_advance_n58 : GoodIn wsX1_gear (wsX0_advance) := ggX1_gear_X0_advance
theorem dX1_gear_0 : decode cX1_gear 0 = .ok (.aload_n 0, 1) := by decide +kernel
theorem dX1_gear_1 : decode cX1_gear 1 = .ok (.iload_n 1, 1) := by decide +kernel
theorem dX1_gear_2 : decode cX1_gear 2 = .ok (.invokevirtual 40, 3) := by decide +kernel
theorem dX1_gear_5 : decode cX1_gear 5 = .ok (.iload_n 2, 1) := by decide +kernel
theorem dX1_gear_6 : decode cX1_gear 6 = .ok (.bipush 20, 2) := by decide +kernel
theorem dX1_gear_8 : decode cX1_gear 8 = .ok (.bipush 40, 2) := by decide +kernel
theorem dX1_gear_10 : decode cX1_gear 10 = .ok (.invokestatic 43, 3) := by decide +kernel
theorem dX1_gear_13 : decode cX1_gear 13 = .ok (.ifCond .eq 14, 3) := by decide +kernel
theorem dX1_gear_16 : decode cX1_gear 16 = .ok (.iload_n 3, 1) := by decide +kernel
theorem dX1_gear_17 : decode cX1_gear 17 = .ok (.bipush 20, 2) := by decide +kernel
theorem dX1_gear_19 : decode cX1_gear 19 = .ok (.bipush 40, 2) := by decide +kernel
theorem dX1_gear_21 : decode cX1_gear 21 = .ok (.invokestatic 43, 3) := by decide +kernel
theorem dX1_gear_24 : decode cX1_gear 24 = .ok (.ifCond .ne 13, 3) := by decide +kernel
theorem dX1_gear_27 : decode cX1_gear 27 = .ok (.new 47, 3) := by decide +kernel
theorem dX1_gear_30 : decode cX1_gear 30 = .ok (.dup, 1) := by decide +kernel
theorem dX1_gear_31 : decode cX1_gear 31 = .ok (.ldc 49, 2) := by decide +kernel
theorem dX1_gear_33 : decode cX1_gear 33 = .ok (.invokespecial 51, 3) := by decide +kernel
theorem dX1_gear_36 : decode cX1_gear 36 = .ok (.athrow, 1) := by decide +kernel
theorem dX1_gear_37 : decode cX1_gear 37 = .ok (.iload 4, 2) := by decide +kernel
theorem dX1_gear_39 : decode cX1_gear 39 = .ok (.bipush (-20), 2) := by decide +kernel
theorem dX1_gear_41 : decode cX1_gear 41 = .ok (.bipush 20, 2) := by decide +kernel
theorem dX1_gear_43 : decode cX1_gear 43 = .ok (.invokestatic 43, 3) := by decide +kernel
theorem dX1_gear_46 : decode cX1_gear 46 = .ok (.ifCond .ne 13, 3) := by decide +kernel
theorem dX1_gear_49 : decode cX1_gear 49 = .ok (.new 47, 3) := by decide +kernel
theorem dX1_gear_52 : decode cX1_gear 52 = .ok (.dup, 1) := by decide +kernel
theorem dX1_gear_53 : decode cX1_gear 53 = .ok (.ldc 52, 2) := by decide +kernel
theorem dX1_gear_55 : decode cX1_gear 55 = .ok (.invokespecial 51, 3) := by decide +kernel
theorem dX1_gear_58 : decode cX1_gear 58 = .ok (.athrow, 1) := by decide +kernel
theorem dX1_gear_59 : decode cX1_gear 59 = .ok (.aload_n 0, 1) := by decide +kernel
theorem dX1_gear_60 : decode cX1_gear 60 = .ok (.getfield 11, 3) := by decide +kernel
theorem dX1_gear_63 : decode cX1_gear 63 = .ok (.iload_n 1, 1) := by decide +kernel
theorem dX1_gear_64 : decode cX1_gear 64 = .ok (.aaload, 1) := by decide +kernel
theorem dX1_gear_65 : decode cX1_gear 65 = .ok (.iload_n 2, 1) := by decide +kernel
theorem dX1_gear_66 : decode cX1_gear 66 = .ok (.iload_n 3, 1) := by decide +kernel
theorem dX1_gear_67 : decode cX1_gear 67 = .ok (.iload 4, 2) := by decide +kernel
theorem dX1_gear_69 : decode cX1_gear 69 = .ok (.invokevirtual 54, 3) := by decide +kernel
theorem dX1_gear_72 : decode cX1_gear 72 = .ok (.aload_n 0, 1) := by decide +kernel
theorem dX1_gear_73 : decode cX1_gear 73 = .ok (.getfield 11, 3) := by decide +kernel
theorem dX1_gear_76 : decode cX1_gear 76 = .ok (.iload_n 1, 1) := by decide +kernel
theorem dX1_gear_77 : decode cX1_gear 77 = .ok (.aaload, 1) := by decide +kernel
theorem dX1_gear_78 : decode cX1_gear 78 = .ok (.invokevirtual 58, 3) := by decide +kernel
theorem dX1_gear_81 : decode cX1_gear 81 = .ok (.ireturn, 1) := by decide +kernel
set_option maxRecDepth 20000 in
theorem ggX1_set_X1_checkClock : GoodIn wsX1_set wsX1_checkClock := goodIn_ca (goodIn_r _ [7, 8, 9, 10, 35, 36, 37, 38] (by decide +kernel) (by decide +kernel)) (goodIn_sub (fun _ h => List.mem_cons_of_mem _ (List.mem_append_left _ (List.mem_append_right _ h))) (by decide +kernel))
set_option maxRecDepth 20000 in
theorem gX1_set_X1_checkClock : GoodIn wsX1_set (wsV RX1 40 RX1 yX1_checkClock wsX1_checkClock) := goodIn_app (goodIn_of _ (by decide +kernel)) ggX1_set_X1_checkClock
set_option maxRecDepth 20000 in
theorem ggX1_set_X1_checkTime : GoodIn wsX1_set wsX1_checkTime := goodIn_ca (goodIn_r _ [13, 14, 15, 16, 17, 6, 18] (by decide +kernel) (by decide +kernel)) (goodIn_sub (fun _ h => List.mem_cons_of_mem _ (List.mem_append_right _ h)) (by decide +kernel))
set_option maxRecDepth 20000 in
theorem gX1_set_X1_checkTime : GoodIn wsX1_set (va_wsS RX1 26 yX1_checkTime wsX1_checkTime) := goodIn_app (goodIn_of _ (by decide +kernel)) ggX1_set_X1_checkTime
set_option maxRecDepth 20000 in
theorem ggX1_set_X1_offOf : GoodIn wsX1_set wsX1_offOf := goodIn_r _ [21, 22, 23, 6, 24, 25, 26, 27, 28, 39, 40, 41, 42, 43, 44, 45, 46, 47, 48, 49, 50, 51, 52] (by decide +kernel) (by decide +kernel)
set_option maxRecDepth 20000 in
theorem gX1_set_X1_offOf : GoodIn wsX1_set (va_wsS RX1 62 yX1_offOf wsX1_offOf) := goodIn_app (goodIn_of _ (by decide +kernel)) ggX1_set_X1_offOf
set_option maxRecDepth 20000 in
theorem ggX1_set_X0_putHands : GoodIn wsX1_set wsX0_putHands := goodIn_r _ [32, 33, 34, 39, 40, 41, 42, 43, 44, 45, 46, 47, 48, 49, 50, 51, 52] (by decide +kernel) (by decide +kernel)
set_option maxRecDepth 20000 in
theorem gX1_set_X0_putHands_n37 : GoodIn wsX1_set (wsX0_putHands) := ggX1_set_X0_putHands
theorem dX1_set_0 : decode cX1_set 0 = .ok (.aload_n 0, 1) := by decide +kernel
theorem dX1_set_1 : decode cX1_set 1 = .ok (.iload_n 1, 1) := by decide +kernel
theorem dX1_set_2 : decode cX1_set 2 = .ok (.invokevirtual 40, 3) := by decide +kernel
theorem dX1_set_5 : decode cX1_set 5 = .ok (.iload_n 2, 1) := by decide +kernel
theorem dX1_set_6 : decode cX1_set 6 = .ok (.invokestatic 26, 3) := by decide +kernel
theorem dX1_set_9 : decode cX1_set 9 = .ok (.aload_n 0, 1) := by decide +kernel
theorem dX1_set_10 : decode cX1_set 10 = .ok (.getfield 11, 3) := by decide +kernel
theorem dX1_set_13 : decode cX1_set 13 = .ok (.iload_n 1, 1) := by decide +kernel
theorem dX1_set_14 : decode cX1_set 14 = .ok (.aaload, 1) := by decide +kernel
theorem dX1_set_15 : decode cX1_set 15 = .ok (.aload_n 0, 1) := by decide +kernel
theorem dX1_set_16 : decode cX1_set 16 = .ok (.getfield 23, 3) := by decide +kernel
theorem dX1_set_19 : decode cX1_set 19 = .ok (.invokestatic 62, 3) := by decide +kernel
theorem dX1_set_22 : decode cX1_set 22 = .ok (.istore_n 3, 1) := by decide +kernel
theorem dX1_set_23 : decode cX1_set 23 = .ok (.aload_n 0, 1) := by decide +kernel
theorem dX1_set_24 : decode cX1_set 24 = .ok (.getfield 11, 3) := by decide +kernel
theorem dX1_set_27 : decode cX1_set 27 = .ok (.iload_n 1, 1) := by decide +kernel
theorem dX1_set_28 : decode cX1_set 28 = .ok (.aaload, 1) := by decide +kernel
theorem dX1_set_29 : decode cX1_set 29 = .ok (.iload_n 2, 1) := by decide +kernel
theorem dX1_set_30 : decode cX1_set 30 = .ok (.invokevirtual 37, 3) := by decide +kernel
theorem dX1_set_33 : decode cX1_set 33 = .ok (.iload_n 3, 1) := by decide +kernel
theorem dX1_set_34 : decode cX1_set 34 = .ok (.ireturn, 1) := by decide +kernel
set_option maxRecDepth 20000 in
theorem ggX1_wind_X1_checkClock : GoodIn wsX1_wind wsX1_checkClock := goodIn_ca (goodIn_r _ [6, 7, 8, 9, 16, 17, 18, 19] (by decide +kernel) (by decide +kernel)) (goodIn_sub (fun _ h => List.mem_cons_of_mem _ (List.mem_append_right _ h)) (by decide +kernel))
set_option maxRecDepth 20000 in
theorem gX1_wind_X1_checkClock : GoodIn wsX1_wind (wsV RX1 40 RX1 yX1_checkClock wsX1_checkClock) := goodIn_app (goodIn_of _ (by decide +kernel)) ggX1_wind_X1_checkClock
set_option maxRecDepth 20000 in
theorem ggX1_wind_X0_drawUp : GoodIn wsX1_wind wsX0_drawUp := goodIn_r _ [13, 14, 15, 20, 21, 22, 23, 24, 25, 26, 27, 28, 29, 30, 31, 32, 33] (by decide +kernel) (by decide +kernel)
set_option maxRecDepth 20000 in
theorem gX1_wind_X0_drawUp_n66 : GoodIn wsX1_wind (wsX0_drawUp) := ggX1_wind_X0_drawUp
theorem dX1_wind_0 : decode cX1_wind 0 = .ok (.aload_n 0, 1) := by decide +kernel
theorem dX1_wind_1 : decode cX1_wind 1 = .ok (.iload_n 1, 1) := by decide +kernel
theorem dX1_wind_2 : decode cX1_wind 2 = .ok (.invokevirtual 40, 3) := by decide +kernel
theorem dX1_wind_5 : decode cX1_wind 5 = .ok (.aload_n 0, 1) := by decide +kernel
theorem dX1_wind_6 : decode cX1_wind 6 = .ok (.getfield 11, 3) := by decide +kernel
theorem dX1_wind_9 : decode cX1_wind 9 = .ok (.iload_n 1, 1) := by decide +kernel
theorem dX1_wind_10 : decode cX1_wind 10 = .ok (.aaload, 1) := by decide +kernel
theorem dX1_wind_11 : decode cX1_wind 11 = .ok (.invokevirtual 66, 3) := by decide +kernel
theorem dX1_wind_14 : decode cX1_wind 14 = .ok (.ireturn, 1) := by decide +kernel
set_option maxRecDepth 20000 in
theorem ggX1_mend_X1_checkClock : GoodIn wsX1_mend wsX1_checkClock := goodIn_ca (goodIn_r _ [8, 9, 10, 11, 26, 27, 28, 29] (by decide +kernel) (by decide +kernel)) (goodIn_sub (fun _ h => List.mem_cons_of_mem _ (List.mem_append_right _ h)) (by decide +kernel))
set_option maxRecDepth 20000 in
theorem gX1_mend_X1_checkClock : GoodIn wsX1_mend (wsV RX1 40 RX1 yX1_checkClock wsX1_checkClock) := goodIn_app (goodIn_of _ (by decide +kernel)) ggX1_mend_X1_checkClock
set_option maxRecDepth 20000 in
theorem ggX1_mend_X0_fillOil : GoodIn wsX1_mend wsX0_fillOil := goodIn_r _ [15, 16, 30, 31, 32, 33, 34, 35, 36, 37, 38, 39, 40, 41, 42, 43] (by decide +kernel) (by decide +kernel)
set_option maxRecDepth 20000 in
theorem gX1_mend_X0_fillOil_n69 : GoodIn wsX1_mend (wsX0_fillOil) := ggX1_mend_X0_fillOil
set_option maxRecDepth 20000 in
theorem ggX1_mend_X0_patchBellows : GoodIn wsX1_mend wsX0_patchBellows := goodIn_r _ [19, 20, 30, 31, 32, 33, 34, 35, 36, 37, 38, 39, 40, 41, 42, 43] (by decide +kernel) (by decide +kernel)
set_option maxRecDepth 20000 in
theorem gX1_mend_X0_patchBellows_n72 : GoodIn wsX1_mend (wsX0_patchBellows) := ggX1_mend_X0_patchBellows
set_option maxRecDepth 20000 in
theorem ggX1_mend_X0_nudge : GoodIn wsX1_mend wsX0_nudge := goodIn_r _ [23, 24, 25, 30, 31, 32, 33, 34, 35, 36, 37, 38, 39, 40, 41, 42, 43] (by decide +kernel) (by decide +kernel)
set_option maxRecDepth 20000 in
theorem gX1_mend_X0_nudge_n75 : GoodIn wsX1_mend (wsX0_nudge) := ggX1_mend_X0_nudge
theorem dX1_mend_0 : decode cX1_mend 0 = .ok (.aload_n 0, 1) := by decide +kernel
theorem dX1_mend_1 : decode cX1_mend 1 = .ok (.iload_n 1, 1) := by decide +kernel
theorem dX1_mend_2 : decode cX1_mend 2 = .ok (.invokevirtual 40, 3) := by decide +kernel
theorem dX1_mend_5 : decode cX1_mend 5 = .ok (.iload_n 2, 1) := by decide +kernel
theorem dX1_mend_6 : decode cX1_mend 6 = .ok (.tableswitch 56 0 2 #[26, 36, 46], 26) := by decide +kernel
theorem dX1_mend_32 : decode cX1_mend 32 = .ok (.aload_n 0, 1) := by decide +kernel
theorem dX1_mend_33 : decode cX1_mend 33 = .ok (.getfield 11, 3) := by decide +kernel
theorem dX1_mend_36 : decode cX1_mend 36 = .ok (.iload_n 1, 1) := by decide +kernel
theorem dX1_mend_37 : decode cX1_mend 37 = .ok (.aaload, 1) := by decide +kernel
theorem dX1_mend_38 : decode cX1_mend 38 = .ok (.invokevirtual 69, 3) := by decide +kernel
theorem dX1_mend_41 : decode cX1_mend 41 = .ok (.ireturn, 1) := by decide +kernel
theorem dX1_mend_42 : decode cX1_mend 42 = .ok (.aload_n 0, 1) := by decide +kernel
theorem dX1_mend_43 : decode cX1_mend 43 = .ok (.getfield 11, 3) := by decide +kernel
theorem dX1_mend_46 : decode cX1_mend 46 = .ok (.iload_n 1, 1) := by decide +kernel
theorem dX1_mend_47 : decode cX1_mend 47 = .ok (.aaload, 1) := by decide +kernel
theorem dX1_mend_48 : decode cX1_mend 48 = .ok (.invokevirtual 72, 3) := by decide +kernel
theorem dX1_mend_51 : decode cX1_mend 51 = .ok (.ireturn, 1) := by decide +kernel
theorem dX1_mend_52 : decode cX1_mend 52 = .ok (.aload_n 0, 1) := by decide +kernel
theorem dX1_mend_53 : decode cX1_mend 53 = .ok (.getfield 11, 3) := by decide +kernel
theorem dX1_mend_56 : decode cX1_mend 56 = .ok (.iload_n 1, 1) := by decide +kernel
theorem dX1_mend_57 : decode cX1_mend 57 = .ok (.aaload, 1) := by decide +kernel
theorem dX1_mend_58 : decode cX1_mend 58 = .ok (.invokevirtual 75, 3) := by decide +kernel
theorem dX1_mend_61 : decode cX1_mend 61 = .ok (.ireturn, 1) := by decide +kernel
theorem dX1_mend_62 : decode cX1_mend 62 = .ok (.new 47, 3) := by decide +kernel
theorem dX1_mend_65 : decode cX1_mend 65 = .ok (.dup, 1) := by decide +kernel
theorem dX1_mend_66 : decode cX1_mend 66 = .ok (.ldc 78, 2) := by decide +kernel
theorem dX1_mend_68 : decode cX1_mend 68 = .ok (.invokespecial 51, 3) := by decide +kernel
theorem dX1_mend_71 : decode cX1_mend 71 = .ok (.athrow, 1) := by decide +kernel
set_option maxRecDepth 20000 in
theorem ggX1_shut_X1_checkClock : GoodIn wsX1_shut wsX1_checkClock := goodIn_ca (goodIn_r _ [8, 9, 10, 11, 24, 25, 26, 27] (by decide +kernel) (by decide +kernel)) (goodIn_sub (fun _ h => List.mem_cons_of_mem _ (List.mem_append_right _ h)) (by decide +kernel))
set_option maxRecDepth 20000 in
theorem gX1_shut_X1_checkClock : GoodIn wsX1_shut (wsV RX1 40 RX1 yX1_checkClock wsX1_checkClock) := goodIn_app (goodIn_of _ (by decide +kernel)) ggX1_shut_X1_checkClock
set_option maxRecDepth 20000 in
theorem ggX1_shut_X1_checkTime : GoodIn wsX1_shut wsX1_checkTime := goodIn_ca (goodIn_r _ [14, 1, 2, 15, 16, 7, 17] (by decide +kernel) (by decide +kernel)) (goodIn_sub (fun _ h => List.mem_cons_of_mem _ (List.mem_append_left _ (List.mem_append_right _ h))) (by decide +kernel))
set_option maxRecDepth 20000 in
theorem gX1_shut_X1_checkTime : GoodIn wsX1_shut (va_wsS RX1 26 yX1_checkTime wsX1_checkTime) := goodIn_app (goodIn_of _ (by decide +kernel)) ggX1_shut_X1_checkTime
set_option maxRecDepth 20000 in
theorem ggX1_shut_X0_silence : GoodIn wsX1_shut wsX0_silence := goodIn_r _ [21, 22, 23, 28, 29, 30, 31, 32, 33, 34, 35, 36, 37, 38, 39, 40, 41] (by decide +kernel) (by decide +kernel)
set_option maxRecDepth 20000 in
theorem gX1_shut_X0_silence_n82 : GoodIn wsX1_shut (wsX0_silence) := ggX1_shut_X0_silence
theorem dX1_shut_0 : decode cX1_shut 0 = .ok (.aload_n 0, 1) := by decide +kernel
theorem dX1_shut_1 : decode cX1_shut 1 = .ok (.iload_n 1, 1) := by decide +kernel
theorem dX1_shut_2 : decode cX1_shut 2 = .ok (.invokevirtual 40, 3) := by decide +kernel
theorem dX1_shut_5 : decode cX1_shut 5 = .ok (.iload_n 2, 1) := by decide +kernel
theorem dX1_shut_6 : decode cX1_shut 6 = .ok (.iconst (-1), 1) := by decide +kernel
theorem dX1_shut_7 : decode cX1_shut 7 = .ok (.if_icmp .eq 7, 3) := by decide +kernel
theorem dX1_shut_10 : decode cX1_shut 10 = .ok (.iload_n 2, 1) := by decide +kernel
theorem dX1_shut_11 : decode cX1_shut 11 = .ok (.invokestatic 26, 3) := by decide +kernel
theorem dX1_shut_14 : decode cX1_shut 14 = .ok (.iload_n 3, 1) := by decide +kernel
theorem dX1_shut_15 : decode cX1_shut 15 = .ok (.invokestatic 26, 3) := by decide +kernel
theorem dX1_shut_18 : decode cX1_shut 18 = .ok (.iload_n 2, 1) := by decide +kernel
theorem dX1_shut_19 : decode cX1_shut 19 = .ok (.iconst (-1), 1) := by decide +kernel
theorem dX1_shut_20 : decode cX1_shut 20 = .ok (.if_icmp .ne 17, 3) := by decide +kernel
theorem dX1_shut_23 : decode cX1_shut 23 = .ok (.iload_n 3, 1) := by decide +kernel
theorem dX1_shut_24 : decode cX1_shut 24 = .ok (.ifCond .eq 13, 3) := by decide +kernel
theorem dX1_shut_27 : decode cX1_shut 27 = .ok (.new 47, 3) := by decide +kernel
theorem dX1_shut_30 : decode cX1_shut 30 = .ok (.dup, 1) := by decide +kernel
theorem dX1_shut_31 : decode cX1_shut 31 = .ok (.ldc 80, 2) := by decide +kernel
theorem dX1_shut_33 : decode cX1_shut 33 = .ok (.invokespecial 51, 3) := by decide +kernel
theorem dX1_shut_36 : decode cX1_shut 36 = .ok (.athrow, 1) := by decide +kernel
theorem dX1_shut_37 : decode cX1_shut 37 = .ok (.aload_n 0, 1) := by decide +kernel
theorem dX1_shut_38 : decode cX1_shut 38 = .ok (.getfield 11, 3) := by decide +kernel
theorem dX1_shut_41 : decode cX1_shut 41 = .ok (.iload_n 1, 1) := by decide +kernel
theorem dX1_shut_42 : decode cX1_shut 42 = .ok (.aaload, 1) := by decide +kernel
theorem dX1_shut_43 : decode cX1_shut 43 = .ok (.iload_n 2, 1) := by decide +kernel
theorem dX1_shut_44 : decode cX1_shut 44 = .ok (.iload_n 3, 1) := by decide +kernel
theorem dX1_shut_45 : decode cX1_shut 45 = .ok (.invokevirtual 82, 3) := by decide +kernel
theorem dX1_shut_48 : decode cX1_shut 48 = .ok (.ireturn, 1) := by decide +kernel
set_option maxRecDepth 20000 in
theorem ggX1_clock_X1_checkClock : GoodIn wsX1_clock wsX1_checkClock := goodIn_ca (goodIn_r _ [8, 1, 2, 9, 43, 44, 45, 46] (by decide +kernel) (by decide +kernel)) (goodIn_sub (fun _ h => List.mem_cons_of_mem _ (List.mem_append_right _ h)) (by decide +kernel))
set_option maxRecDepth 20000 in
theorem gX1_clock_X1_checkClock : GoodIn wsX1_clock (wsV RX1 40 RX1 yX1_checkClock wsX1_checkClock) := goodIn_app (goodIn_of _ (by decide +kernel)) ggX1_clock_X1_checkClock
set_option maxRecDepth 20000 in
theorem ggX1_clock_X1_isWithin : GoodIn wsX1_clock wsX1_isWithin := goodIn_r _ [12] (by decide +kernel) (by decide +kernel)
set_option maxRecDepth 20000 in
theorem gX1_clock_X1_isWithin : GoodIn wsX1_clock (va_wsS RX1 43 yX1_isWithin wsX1_isWithin) := goodIn_app (goodIn_of _ (by decide +kernel)) ggX1_clock_X1_isWithin
set_option maxRecDepth 20000 in
theorem ggX1_clock_X0_reading : GoodIn wsX1_clock wsX0_reading := goodIn_r _ [16, 17, 18, 19, 20, 21, 22, 23, 24, 25, 26, 27, 28, 14, 29, 30, 31, 32, 33, 34, 35, 36, 37, 38, 39, 40, 41, 42, 47, 48, 49, 50, 51, 52, 53, 54, 55, 56, 57, 58, 59, 60] (by decide +kernel) (by decide +kernel)
set_option maxRecDepth 20000 in
theorem gX1_clock_X0_reading_n91 : GoodIn wsX1_clock (wsX0_reading) := ggX1_clock_X0_reading
theorem dX1_clock_0 : decode cX1_clock 0 = .ok (.aload_n 0, 1) := by decide +kernel
theorem dX1_clock_1 : decode cX1_clock 1 = .ok (.iload_n 1, 1) := by decide +kernel
theorem dX1_clock_2 : decode cX1_clock 2 = .ok (.invokevirtual 40, 3) := by decide +kernel
theorem dX1_clock_5 : decode cX1_clock 5 = .ok (.iload_n 2, 1) := by decide +kernel
theorem dX1_clock_6 : decode cX1_clock 6 = .ok (.iconst 0, 1) := by decide +kernel
theorem dX1_clock_7 : decode cX1_clock 7 = .ok (.bipush 10, 2) := by decide +kernel
theorem dX1_clock_9 : decode cX1_clock 9 = .ok (.invokestatic 43, 3) := by decide +kernel
theorem dX1_clock_12 : decode cX1_clock 12 = .ok (.ifCond .ne 13, 3) := by decide +kernel
theorem dX1_clock_15 : decode cX1_clock 15 = .ok (.new 86, 3) := by decide +kernel
theorem dX1_clock_18 : decode cX1_clock 18 = .ok (.dup, 1) := by decide +kernel
theorem dX1_clock_19 : decode cX1_clock 19 = .ok (.ldc 88, 2) := by decide +kernel
theorem dX1_clock_21 : decode cX1_clock 21 = .ok (.invokespecial 90, 3) := by decide +kernel
theorem dX1_clock_24 : decode cX1_clock 24 = .ok (.athrow, 1) := by decide +kernel
theorem dX1_clock_25 : decode cX1_clock 25 = .ok (.aload_n 0, 1) := by decide +kernel
theorem dX1_clock_26 : decode cX1_clock 26 = .ok (.getfield 11, 3) := by decide +kernel
theorem dX1_clock_29 : decode cX1_clock 29 = .ok (.iload_n 1, 1) := by decide +kernel
theorem dX1_clock_30 : decode cX1_clock 30 = .ok (.aaload, 1) := by decide +kernel
theorem dX1_clock_31 : decode cX1_clock 31 = .ok (.iload_n 2, 1) := by decide +kernel
theorem dX1_clock_32 : decode cX1_clock 32 = .ok (.invokevirtual 91, 3) := by decide +kernel
theorem dX1_clock_35 : decode cX1_clock 35 = .ok (.ireturn, 1) := by decide +kernel
set_option maxRecDepth 20000 in
theorem ggX1_off_X1_checkClock : GoodIn wsX1_off wsX1_checkClock := goodIn_ca (goodIn_r _ [7, 8, 9, 10, 21, 22, 23, 24] (by decide +kernel) (by decide +kernel)) (goodIn_sub (fun _ h => List.mem_cons_of_mem _ (List.mem_append_right _ h)) (by decide +kernel))
set_option maxRecDepth 20000 in
theorem gX1_off_X1_checkClock : GoodIn wsX1_off (wsV RX1 40 RX1 yX1_checkClock wsX1_checkClock) := goodIn_app (goodIn_of _ (by decide +kernel)) ggX1_off_X1_checkClock
set_option maxRecDepth 20000 in
theorem ggX1_off_X1_offOf : GoodIn wsX1_off wsX1_offOf := goodIn_r _ [13, 14, 15, 6, 16, 17, 18, 19, 20, 25, 26, 27, 28, 29, 30, 31, 32, 33, 34, 35, 36, 37, 38] (by decide +kernel) (by decide +kernel)
set_option maxRecDepth 20000 in
theorem gX1_off_X1_offOf : GoodIn wsX1_off (va_wsS RX1 62 yX1_offOf wsX1_offOf) := goodIn_app (goodIn_of _ (by decide +kernel)) ggX1_off_X1_offOf
theorem dX1_off_0 : decode cX1_off 0 = .ok (.aload_n 0, 1) := by decide +kernel
theorem dX1_off_1 : decode cX1_off 1 = .ok (.iload_n 1, 1) := by decide +kernel
theorem dX1_off_2 : decode cX1_off 2 = .ok (.invokevirtual 40, 3) := by decide +kernel
theorem dX1_off_5 : decode cX1_off 5 = .ok (.aload_n 0, 1) := by decide +kernel
theorem dX1_off_6 : decode cX1_off 6 = .ok (.getfield 11, 3) := by decide +kernel
theorem dX1_off_9 : decode cX1_off 9 = .ok (.iload_n 1, 1) := by decide +kernel
theorem dX1_off_10 : decode cX1_off 10 = .ok (.aaload, 1) := by decide +kernel
theorem dX1_off_11 : decode cX1_off 11 = .ok (.aload_n 0, 1) := by decide +kernel
theorem dX1_off_12 : decode cX1_off 12 = .ok (.getfield 23, 3) := by decide +kernel
theorem dX1_off_15 : decode cX1_off 15 = .ok (.invokestatic 62, 3) := by decide +kernel
theorem dX1_off_18 : decode cX1_off 18 = .ok (.ireturn, 1) := by decide +kernel
set_option maxRecDepth 20000 in
theorem ggX1_count_X1_isWithin : GoodIn wsX1_count wsX1_isWithin := goodIn_r _ [6] (by decide +kernel) (by decide +kernel)
set_option maxRecDepth 20000 in
theorem gX1_count_X1_isWithin : GoodIn wsX1_count (va_wsS RX1 43 yX1_isWithin wsX1_isWithin) := goodIn_app (goodIn_of _ (by decide +kernel)) ggX1_count_X1_isWithin
set_option maxRecDepth 20000 in
theorem ggX1_count_X1_tally : GoodIn wsX1_count wsX1_tally := goodIn_r _ [10, 11, 12, 13, 14, 15, 5, 16, 17, 18, 19, 20, 21, 22, 23, 24, 25, 26, 27, 28, 29, 30, 31, 32, 33, 34, 35, 36, 37, 38, 39, 40, 41, 42, 43, 44, 45, 46, 47, 48, 49, 50, 51, 52, 53, 54, 55, 56, 57, 58, 59, 60, 61, 62, 63, 64, 65, 66, 67, 68, 69, 70, 71, 72, 73, 74, 75, 76, 77, 78, 79, 80, 81, 82, 83, 84, 85, 86, 87] (by decide +kernel) (by decide +kernel)
set_option maxRecDepth 20000 in
theorem gX1_count_X1_tally : GoodIn wsX1_count (wsV RX1 97 RX1 yX1_tally wsX1_tally) := goodIn_app (goodIn_of _ (by decide +kernel)) ggX1_count_X1_tally
theorem dX1_count_0 : decode cX1_count 0 = .ok (.iload_n 1, 1) := by decide +kernel
theorem dX1_count_1 : decode cX1_count 1 = .ok (.iconst 0, 1) := by decide +kernel
theorem dX1_count_2 : decode cX1_count 2 = .ok (.bipush 7, 2) := by decide +kernel
theorem dX1_count_4 : decode cX1_count 4 = .ok (.invokestatic 43, 3) := by decide +kernel
theorem dX1_count_7 : decode cX1_count 7 = .ok (.ifCond .ne 13, 3) := by decide +kernel
theorem dX1_count_10 : decode cX1_count 10 = .ok (.new 86, 3) := by decide +kernel
theorem dX1_count_13 : decode cX1_count 13 = .ok (.dup, 1) := by decide +kernel
theorem dX1_count_14 : decode cX1_count 14 = .ok (.ldc 95, 2) := by decide +kernel
theorem dX1_count_16 : decode cX1_count 16 = .ok (.invokespecial 90, 3) := by decide +kernel
theorem dX1_count_19 : decode cX1_count 19 = .ok (.athrow, 1) := by decide +kernel
theorem dX1_count_20 : decode cX1_count 20 = .ok (.aload_n 0, 1) := by decide +kernel
theorem dX1_count_21 : decode cX1_count 21 = .ok (.iload_n 1, 1) := by decide +kernel
theorem dX1_count_22 : decode cX1_count 22 = .ok (.invokevirtual 97, 3) := by decide +kernel
theorem dX1_count_25 : decode cX1_count 25 = .ok (.ireturn, 1) := by decide +kernel
set_option maxRecDepth 20000 in
theorem ggX1_pass_X1_checkMinutes : GoodIn wsX1_pass wsX1_checkMinutes := goodIn_ca (goodIn_r _ [6, 7, 8, 9, 10, 5, 11] (by decide +kernel) (by decide +kernel)) (goodIn_sub (fun _ h => List.mem_cons_of_mem _ (List.mem_append_right _ h)) (by decide +kernel))
set_option maxRecDepth 20000 in
theorem gX1_pass_X1_checkMinutes : GoodIn wsX1_pass (va_wsS RX1 100 yX1_checkMinutes wsX1_checkMinutes) := goodIn_app (goodIn_of _ (by decide +kernel)) ggX1_pass_X1_checkMinutes
set_option maxRecDepth 20000 in
theorem ggX1_pass_X1_runRow : GoodIn wsX1_pass wsX1_runRow := goodIn_r _ [15, 16, 17, 18, 19, 20, 21, 22, 23, 24, 25, 26, 27, 28, 29, 30, 31, 32, 33, 34, 35, 36, 37, 38, 39, 40, 41, 42, 43, 44, 45, 46, 47, 48, 49, 50, 51, 52, 53, 54, 55, 56, 57, 58, 59, 60, 61, 62, 63, 64, 65, 66, 67, 68, 69, 70, 71, 72, 73, 74, 75, 76, 77, 78, 79, 80, 81, 82, 83] (by decide +kernel) (by decide +kernel)
set_option maxRecDepth 20000 in
theorem gX1_pass_X1_runRow : GoodIn wsX1_pass (wsV RX1 103 RX1 yX1_runRow wsX1_runRow) := goodIn_app (goodIn_of _ (by decide +kernel)) ggX1_pass_X1_runRow
theorem dX1_pass_0 : decode cX1_pass 0 = .ok (.iload_n 1, 1) := by decide +kernel
theorem dX1_pass_1 : decode cX1_pass 1 = .ok (.invokestatic 100, 3) := by decide +kernel
theorem dX1_pass_4 : decode cX1_pass 4 = .ok (.iconst 0, 1) := by decide +kernel
theorem dX1_pass_5 : decode cX1_pass 5 = .ok (.istore_n 2, 1) := by decide +kernel
theorem dX1_pass_6 : decode cX1_pass 6 = .ok (.iconst 0, 1) := by decide +kernel
theorem dX1_pass_7 : decode cX1_pass 7 = .ok (.istore_n 3, 1) := by decide +kernel
theorem dX1_pass_8 : decode cX1_pass 8 = .ok (.iload_n 3, 1) := by decide +kernel
theorem dX1_pass_9 : decode cX1_pass 9 = .ok (.iload_n 1, 1) := by decide +kernel
theorem dX1_pass_10 : decode cX1_pass 10 = .ok (.if_icmp .ge 34, 3) := by decide +kernel
theorem dX1_pass_13 : decode cX1_pass 13 = .ok (.iload_n 2, 1) := by decide +kernel
theorem dX1_pass_14 : decode cX1_pass 14 = .ok (.aload_n 0, 1) := by decide +kernel
theorem dX1_pass_15 : decode cX1_pass 15 = .ok (.aload_n 0, 1) := by decide +kernel
theorem dX1_pass_16 : decode cX1_pass 16 = .ok (.getfield 11, 3) := by decide +kernel
theorem dX1_pass_19 : decode cX1_pass 19 = .ok (.aload_n 0, 1) := by decide +kernel
theorem dX1_pass_20 : decode cX1_pass 20 = .ok (.getfield 23, 3) := by decide +kernel
theorem dX1_pass_23 : decode cX1_pass 23 = .ok (.invokevirtual 103, 3) := by decide +kernel
theorem dX1_pass_26 : decode cX1_pass 26 = .ok (.iadd, 1) := by decide +kernel
theorem dX1_pass_27 : decode cX1_pass 27 = .ok (.istore_n 2, 1) := by decide +kernel
theorem dX1_pass_28 : decode cX1_pass 28 = .ok (.aload_n 0, 1) := by decide +kernel
theorem dX1_pass_29 : decode cX1_pass 29 = .ok (.dup, 1) := by decide +kernel
theorem dX1_pass_30 : decode cX1_pass 30 = .ok (.getfield 23, 3) := by decide +kernel
theorem dX1_pass_33 : decode cX1_pass 33 = .ok (.iconst 1, 1) := by decide +kernel
theorem dX1_pass_34 : decode cX1_pass 34 = .ok (.iadd, 1) := by decide +kernel
theorem dX1_pass_35 : decode cX1_pass 35 = .ok (.putfield 23, 3) := by decide +kernel
theorem dX1_pass_38 : decode cX1_pass 38 = .ok (.iinc 3 1, 3) := by decide +kernel
theorem dX1_pass_41 : decode cX1_pass 41 = .ok (.goto (-33), 3) := by decide +kernel
theorem dX1_pass_44 : decode cX1_pass 44 = .ok (.iload_n 2, 1) := by decide +kernel
theorem dX1_pass_45 : decode cX1_pass 45 = .ok (.ireturn, 1) := by decide +kernel
set_option maxRecDepth 20000 in
theorem ggX1_next_X1_checkClock : GoodIn wsX1_next wsX1_checkClock := goodIn_ca (goodIn_r _ [8, 9, 10, 11, 64, 65, 66, 67] (by decide +kernel) (by decide +kernel)) (goodIn_sub (fun _ h => List.mem_cons_of_mem _ (List.mem_append_right _ h)) (by decide +kernel))
set_option maxRecDepth 20000 in
theorem gX1_next_X1_checkClock : GoodIn wsX1_next (wsV RX1 40 RX1 yX1_checkClock wsX1_checkClock) := goodIn_app (goodIn_of _ (by decide +kernel)) ggX1_next_X1_checkClock
set_option maxRecDepth 20000 in
theorem ggX1_next_X0_copyFrom : GoodIn wsX1_next wsX0_copyFrom := goodIn_r _ [15, 16, 17, 18, 19, 20, 21, 22, 23, 24, 25, 26, 27, 28, 29, 68, 69, 70, 71, 72, 73, 74, 75, 76, 77, 78, 79, 80, 81] (by decide +kernel) (by decide +kernel)
set_option maxRecDepth 20000 in
theorem gX1_next_X0_copyFrom_n107 : GoodIn wsX1_next (wsX0_copyFrom) := ggX1_next_X0_copyFrom
set_option maxRecDepth 20000 in
theorem ggX1_next_X0_runMinute : GoodIn wsX1_next wsX0_runMinute := goodIn_r _ [32, 29, 22, 33, 34, 35, 13, 36, 24, 23, 37, 38, 39, 40, 16, 17, 41, 42, 43, 44, 18, 20, 45, 46, 47, 48, 25, 26, 49, 50, 51, 52, 53, 54, 55, 21, 56, 57, 58, 59, 27, 28, 60, 61, 62, 63, 19, 68, 69, 70, 71, 72, 73, 74, 75, 76, 77, 78, 79, 80, 81] (by decide +kernel) (by decide +kernel)
set_option maxRecDepth 20000 in
theorem gX1_next_X0_runMinute_n111 : GoodIn wsX1_next (wsX0_runMinute) := ggX1_next_X0_runMinute
theorem dX1_next_0 : decode cX1_next 0 = .ok (.aload_n 0, 1) := by decide +kernel
theorem dX1_next_1 : decode cX1_next 1 = .ok (.iload_n 1, 1) := by decide +kernel
theorem dX1_next_2 : decode cX1_next 2 = .ok (.invokevirtual 40, 3) := by decide +kernel
theorem dX1_next_5 : decode cX1_next 5 = .ok (.aload_n 0, 1) := by decide +kernel
theorem dX1_next_6 : decode cX1_next 6 = .ok (.getfield 15, 3) := by decide +kernel
theorem dX1_next_9 : decode cX1_next 9 = .ok (.iload_n 1, 1) := by decide +kernel
theorem dX1_next_10 : decode cX1_next 10 = .ok (.aaload, 1) := by decide +kernel
theorem dX1_next_11 : decode cX1_next 11 = .ok (.astore_n 2, 1) := by decide +kernel
theorem dX1_next_12 : decode cX1_next 12 = .ok (.aload_n 2, 1) := by decide +kernel
theorem dX1_next_13 : decode cX1_next 13 = .ok (.aload_n 0, 1) := by decide +kernel
theorem dX1_next_14 : decode cX1_next 14 = .ok (.getfield 11, 3) := by decide +kernel
theorem dX1_next_17 : decode cX1_next 17 = .ok (.iload_n 1, 1) := by decide +kernel
theorem dX1_next_18 : decode cX1_next 18 = .ok (.aaload, 1) := by decide +kernel
theorem dX1_next_19 : decode cX1_next 19 = .ok (.invokevirtual 107, 3) := by decide +kernel
theorem dX1_next_22 : decode cX1_next 22 = .ok (.iconst 0, 1) := by decide +kernel
theorem dX1_next_23 : decode cX1_next 23 = .ok (.istore_n 3, 1) := by decide +kernel
theorem dX1_next_24 : decode cX1_next 24 = .ok (.iload_n 3, 1) := by decide +kernel
theorem dX1_next_25 : decode cX1_next 25 = .ok (.sipush 720, 3) := by decide +kernel
theorem dX1_next_28 : decode cX1_next 28 = .ok (.if_icmp .ge 30, 3) := by decide +kernel
theorem dX1_next_31 : decode cX1_next 31 = .ok (.aload_n 2, 1) := by decide +kernel
theorem dX1_next_32 : decode cX1_next 32 = .ok (.aload_n 0, 1) := by decide +kernel
theorem dX1_next_33 : decode cX1_next 33 = .ok (.getfield 23, 3) := by decide +kernel
theorem dX1_next_36 : decode cX1_next 36 = .ok (.iload_n 3, 1) := by decide +kernel
theorem dX1_next_37 : decode cX1_next 37 = .ok (.iadd, 1) := by decide +kernel
theorem dX1_next_38 : decode cX1_next 38 = .ok (.invokevirtual 111, 3) := by decide +kernel
theorem dX1_next_41 : decode cX1_next 41 = .ok (.aload_n 2, 1) := by decide +kernel
theorem dX1_next_42 : decode cX1_next 42 = .ok (.getfield 114, 3) := by decide +kernel
theorem dX1_next_45 : decode cX1_next 45 = .ok (.ifCond .le 7, 3) := by decide +kernel
theorem dX1_next_48 : decode cX1_next 48 = .ok (.iload_n 3, 1) := by decide +kernel
theorem dX1_next_49 : decode cX1_next 49 = .ok (.iconst 1, 1) := by decide +kernel
theorem dX1_next_50 : decode cX1_next 50 = .ok (.iadd, 1) := by decide +kernel
theorem dX1_next_51 : decode cX1_next 51 = .ok (.ireturn, 1) := by decide +kernel
theorem dX1_next_52 : decode cX1_next 52 = .ok (.iinc 3 1, 3) := by decide +kernel
theorem dX1_next_55 : decode cX1_next 55 = .ok (.goto (-31), 3) := by decide +kernel
theorem dX1_next_58 : decode cX1_next 58 = .ok (.iconst (-1), 1) := by decide +kernel
theorem dX1_next_59 : decode cX1_next 59 = .ok (.ireturn, 1) := by decide +kernel
set_option maxRecDepth 20000 in
theorem ggX1_stands_X1_checkClock : GoodIn wsX1_stands wsX1_checkClock := goodIn_ca (goodIn_r _ [6, 7, 8, 9, 16, 17, 18, 19] (by decide +kernel) (by decide +kernel)) (goodIn_sub (fun _ h => List.mem_cons_of_mem _ (List.mem_append_right _ h)) (by decide +kernel))
set_option maxRecDepth 20000 in
theorem gX1_stands_X1_checkClock : GoodIn wsX1_stands (wsV RX1 40 RX1 yX1_checkClock wsX1_checkClock) := goodIn_app (goodIn_of _ (by decide +kernel)) ggX1_stands_X1_checkClock
set_option maxRecDepth 20000 in
theorem ggX1_stands_X0_minutesToStand : GoodIn wsX1_stands wsX0_minutesToStand := goodIn_r _ [13, 14, 15, 20, 21, 22, 23, 24, 25, 26, 27, 28, 29, 30, 31, 32, 33] (by decide +kernel) (by decide +kernel)
set_option maxRecDepth 20000 in
theorem gX1_stands_X0_minutesToStand_n117 : GoodIn wsX1_stands (wsX0_minutesToStand) := ggX1_stands_X0_minutesToStand
theorem dX1_stands_0 : decode cX1_stands 0 = .ok (.aload_n 0, 1) := by decide +kernel
theorem dX1_stands_1 : decode cX1_stands 1 = .ok (.iload_n 1, 1) := by decide +kernel
theorem dX1_stands_2 : decode cX1_stands 2 = .ok (.invokevirtual 40, 3) := by decide +kernel
theorem dX1_stands_5 : decode cX1_stands 5 = .ok (.aload_n 0, 1) := by decide +kernel
theorem dX1_stands_6 : decode cX1_stands 6 = .ok (.getfield 11, 3) := by decide +kernel
theorem dX1_stands_9 : decode cX1_stands 9 = .ok (.iload_n 1, 1) := by decide +kernel
theorem dX1_stands_10 : decode cX1_stands 10 = .ok (.aaload, 1) := by decide +kernel
theorem dX1_stands_11 : decode cX1_stands 11 = .ok (.invokevirtual 117, 3) := by decide +kernel
theorem dX1_stands_14 : decode cX1_stands 14 = .ok (.ireturn, 1) := by decide +kernel
set_option maxRecDepth 20000 in
theorem ggX1_foresee_X1_checkMinutes : GoodIn wsX1_foresee wsX1_checkMinutes := goodIn_ca (goodIn_r _ [9, 10, 11, 12, 13, 8, 14] (by decide +kernel) (by decide +kernel)) (goodIn_sub (fun _ h => List.mem_cons_of_mem _ (List.mem_append_right _ h)) (by decide +kernel))
set_option maxRecDepth 20000 in
theorem gX1_foresee_X1_checkMinutes : GoodIn wsX1_foresee (va_wsS RX1 100 yX1_checkMinutes wsX1_checkMinutes) := goodIn_app (goodIn_of _ (by decide +kernel)) ggX1_foresee_X1_checkMinutes
set_option maxRecDepth 20000 in
theorem ggX1_foresee_X1_isWithin : GoodIn wsX1_foresee wsX1_isWithin := goodIn_r _ [14] (by decide +kernel) (by decide +kernel)
set_option maxRecDepth 20000 in
theorem gX1_foresee_X1_isWithin : GoodIn wsX1_foresee (va_wsS RX1 43 yX1_isWithin wsX1_isWithin) := goodIn_app (goodIn_of _ (by decide +kernel)) ggX1_foresee_X1_isWithin
set_option maxRecDepth 20000 in
theorem ggX1_foresee_X1_copyClocks : GoodIn wsX1_foresee wsX1_copyClocks := goodIn_r _ [18, 19, 3, 5, 20, 21, 22, 23, 24, 25, 26, 27, 28, 29, 30, 31, 32, 33, 34, 35, 36, 37, 100, 101, 102, 103, 104, 105, 106, 107, 108, 109, 110, 111, 112, 113, 114, 115, 116, 117] (by decide +kernel) (by decide +kernel)
set_option maxRecDepth 20000 in
theorem gX1_foresee_X1_copyClocks : GoodIn wsX1_foresee (wsV RX1 120 RX1 yX1_copyClocks wsX1_copyClocks) := goodIn_app (goodIn_of _ (by decide +kernel)) ggX1_foresee_X1_copyClocks
set_option maxRecDepth 20000 in
theorem ggX1_foresee_X1_runRow : GoodIn wsX1_foresee wsX1_runRow := goodIn_r _ [41, 19, 42, 21, 43, 44, 37, 30, 45, 46, 47, 48, 32, 31, 49, 50, 51, 52, 24, 25, 53, 54, 55, 56, 26, 28, 57, 58, 59, 60, 33, 34, 61, 62, 63, 64, 65, 66, 67, 29, 68, 69, 70, 71, 35, 36, 72, 73, 74, 75, 27, 100, 101, 102, 103, 104, 105, 106, 107, 108, 109, 110, 111, 112, 113, 114, 115, 116, 117] (by decide +kernel) (by decide +kernel)
set_option maxRecDepth 20000 in
theorem gX1_foresee_X1_runRow : GoodIn wsX1_foresee (wsV RX1 103 RX1 yX1_runRow wsX1_runRow) := goodIn_app (goodIn_of _ (by decide +kernel)) ggX1_foresee_X1_runRow
set_option maxRecDepth 20000 in
theorem ggX1_foresee_X1_sumOf : GoodIn wsX1_foresee wsX1_sumOf := goodIn_r _ [79, 19, 80, 21, 81, 82, 31, 32, 27, 28, 29, 30, 35, 36, 37, 49, 50, 51, 52, 24, 25, 53, 54, 55, 56, 26, 57, 58, 59, 60, 33, 34, 100, 101, 102, 103, 104, 105, 106, 107, 108, 109, 110, 111, 112, 113, 114, 115, 116, 117] (by decide +kernel) (by decide +kernel)
set_option maxRecDepth 20000 in
theorem gX1_foresee_X1_sumOf : GoodIn wsX1_foresee (wsV RX1 125 RX1 yX1_sumOf wsX1_sumOf) := goodIn_app (goodIn_of _ (by decide +kernel)) ggX1_foresee_X1_sumOf
set_option maxRecDepth 20000 in
theorem ggX1_foresee_X1_offOfAll : GoodIn wsX1_foresee wsX1_offOfAll := goodIn_r _ [86, 19, 87, 88, 70, 89, 90, 91, 8, 92, 93, 94, 95, 96, 97, 98, 99, 100, 101, 102, 103, 104, 105, 106, 107, 108, 109, 110, 111, 112, 113, 114, 115, 116, 117] (by decide +kernel) (by decide +kernel)
set_option maxRecDepth 20000 in
theorem gX1_foresee_X1_offOfAll : GoodIn wsX1_foresee (wsV RX1 128 RX1 yX1_offOfAll wsX1_offOfAll) := goodIn_app (goodIn_of _ (by decide +kernel)) ggX1_foresee_X1_offOfAll
theorem dX1_foresee_0 : decode cX1_foresee 0 = .ok (.iload_n 1, 1) := by decide +kernel
theorem dX1_foresee_1 : decode cX1_foresee 1 = .ok (.invokestatic 100, 3) := by decide +kernel
theorem dX1_foresee_4 : decode cX1_foresee 4 = .ok (.iload_n 2, 1) := by decide +kernel
theorem dX1_foresee_5 : decode cX1_foresee 5 = .ok (.iconst 0, 1) := by decide +kernel
theorem dX1_foresee_6 : decode cX1_foresee 6 = .ok (.iconst 3, 1) := by decide +kernel
theorem dX1_foresee_7 : decode cX1_foresee 7 = .ok (.invokestatic 43, 3) := by decide +kernel
theorem dX1_foresee_10 : decode cX1_foresee 10 = .ok (.ifCond .ne 13, 3) := by decide +kernel
theorem dX1_foresee_13 : decode cX1_foresee 13 = .ok (.new 86, 3) := by decide +kernel
theorem dX1_foresee_16 : decode cX1_foresee 16 = .ok (.dup, 1) := by decide +kernel
theorem dX1_foresee_17 : decode cX1_foresee 17 = .ok (.ldc 123, 2) := by decide +kernel
theorem dX1_foresee_19 : decode cX1_foresee 19 = .ok (.invokespecial 90, 3) := by decide +kernel
theorem dX1_foresee_22 : decode cX1_foresee 22 = .ok (.athrow, 1) := by decide +kernel
theorem dX1_foresee_23 : decode cX1_foresee 23 = .ok (.aload_n 0, 1) := by decide +kernel
theorem dX1_foresee_24 : decode cX1_foresee 24 = .ok (.invokevirtual 120, 3) := by decide +kernel
theorem dX1_foresee_27 : decode cX1_foresee 27 = .ok (.iconst 0, 1) := by decide +kernel
theorem dX1_foresee_28 : decode cX1_foresee 28 = .ok (.istore_n 3, 1) := by decide +kernel
theorem dX1_foresee_29 : decode cX1_foresee 29 = .ok (.iconst 0, 1) := by decide +kernel
theorem dX1_foresee_30 : decode cX1_foresee 30 = .ok (.istore 4, 2) := by decide +kernel
theorem dX1_foresee_32 : decode cX1_foresee 32 = .ok (.iload 4, 2) := by decide +kernel
theorem dX1_foresee_34 : decode cX1_foresee 34 = .ok (.iload_n 1, 1) := by decide +kernel
theorem dX1_foresee_35 : decode cX1_foresee 35 = .ok (.if_icmp .ge 27, 3) := by decide +kernel
theorem dX1_foresee_38 : decode cX1_foresee 38 = .ok (.iload_n 3, 1) := by decide +kernel
theorem dX1_foresee_39 : decode cX1_foresee 39 = .ok (.aload_n 0, 1) := by decide +kernel
theorem dX1_foresee_40 : decode cX1_foresee 40 = .ok (.aload_n 0, 1) := by decide +kernel
theorem dX1_foresee_41 : decode cX1_foresee 41 = .ok (.getfield 15, 3) := by decide +kernel
theorem dX1_foresee_44 : decode cX1_foresee 44 = .ok (.aload_n 0, 1) := by decide +kernel
theorem dX1_foresee_45 : decode cX1_foresee 45 = .ok (.getfield 23, 3) := by decide +kernel
theorem dX1_foresee_48 : decode cX1_foresee 48 = .ok (.iload 4, 2) := by decide +kernel
theorem dX1_foresee_50 : decode cX1_foresee 50 = .ok (.iadd, 1) := by decide +kernel
theorem dX1_foresee_51 : decode cX1_foresee 51 = .ok (.invokevirtual 103, 3) := by decide +kernel
theorem dX1_foresee_54 : decode cX1_foresee 54 = .ok (.iadd, 1) := by decide +kernel
theorem dX1_foresee_55 : decode cX1_foresee 55 = .ok (.istore_n 3, 1) := by decide +kernel
theorem dX1_foresee_56 : decode cX1_foresee 56 = .ok (.iinc 4 1, 3) := by decide +kernel
theorem dX1_foresee_59 : decode cX1_foresee 59 = .ok (.goto (-27), 3) := by decide +kernel
theorem dX1_foresee_62 : decode cX1_foresee 62 = .ok (.iload_n 2, 1) := by decide +kernel
theorem dX1_foresee_63 : decode cX1_foresee 63 = .ok (.tableswitch 59 0 2 #[25, 27, 49], 25) := by decide +kernel
theorem dX1_foresee_88 : decode cX1_foresee 88 = .ok (.iload_n 3, 1) := by decide +kernel
theorem dX1_foresee_89 : decode cX1_foresee 89 = .ok (.ireturn, 1) := by decide +kernel
theorem dX1_foresee_90 : decode cX1_foresee 90 = .ok (.aload_n 0, 1) := by decide +kernel
theorem dX1_foresee_91 : decode cX1_foresee 91 = .ok (.aload_n 0, 1) := by decide +kernel
theorem dX1_foresee_92 : decode cX1_foresee 92 = .ok (.getfield 15, 3) := by decide +kernel
theorem dX1_foresee_95 : decode cX1_foresee 95 = .ok (.bipush 8, 2) := by decide +kernel
theorem dX1_foresee_97 : decode cX1_foresee 97 = .ok (.invokevirtual 125, 3) := by decide +kernel
theorem dX1_foresee_100 : decode cX1_foresee 100 = .ok (.aload_n 0, 1) := by decide +kernel
theorem dX1_foresee_101 : decode cX1_foresee 101 = .ok (.aload_n 0, 1) := by decide +kernel
theorem dX1_foresee_102 : decode cX1_foresee 102 = .ok (.getfield 11, 3) := by decide +kernel
theorem dX1_foresee_105 : decode cX1_foresee 105 = .ok (.bipush 8, 2) := by decide +kernel
theorem dX1_foresee_107 : decode cX1_foresee 107 = .ok (.invokevirtual 125, 3) := by decide +kernel
theorem dX1_foresee_110 : decode cX1_foresee 110 = .ok (.isub, 1) := by decide +kernel
theorem dX1_foresee_111 : decode cX1_foresee 111 = .ok (.ireturn, 1) := by decide +kernel
theorem dX1_foresee_112 : decode cX1_foresee 112 = .ok (.aload_n 0, 1) := by decide +kernel
theorem dX1_foresee_113 : decode cX1_foresee 113 = .ok (.aload_n 0, 1) := by decide +kernel
theorem dX1_foresee_114 : decode cX1_foresee 114 = .ok (.getfield 15, 3) := by decide +kernel
theorem dX1_foresee_117 : decode cX1_foresee 117 = .ok (.iconst 5, 1) := by decide +kernel
theorem dX1_foresee_118 : decode cX1_foresee 118 = .ok (.invokevirtual 125, 3) := by decide +kernel
theorem dX1_foresee_121 : decode cX1_foresee 121 = .ok (.ireturn, 1) := by decide +kernel
theorem dX1_foresee_122 : decode cX1_foresee 122 = .ok (.aload_n 0, 1) := by decide +kernel
theorem dX1_foresee_123 : decode cX1_foresee 123 = .ok (.aload_n 0, 1) := by decide +kernel
theorem dX1_foresee_124 : decode cX1_foresee 124 = .ok (.getfield 15, 3) := by decide +kernel
theorem dX1_foresee_127 : decode cX1_foresee 127 = .ok (.aload_n 0, 1) := by decide +kernel
theorem dX1_foresee_128 : decode cX1_foresee 128 = .ok (.getfield 23, 3) := by decide +kernel
theorem dX1_foresee_131 : decode cX1_foresee 131 = .ok (.iload_n 1, 1) := by decide +kernel
theorem dX1_foresee_132 : decode cX1_foresee 132 = .ok (.iadd, 1) := by decide +kernel
theorem dX1_foresee_133 : decode cX1_foresee 133 = .ok (.invokevirtual 128, 3) := by decide +kernel
theorem dX1_foresee_136 : decode cX1_foresee 136 = .ok (.ireturn, 1) := by decide +kernel
set_option maxRecDepth 20000 in
theorem ggX1_mean_X0_advance : GoodIn wsX1_mean wsX0_advance := goodIn_r _ [6, 7, 8, 9, 10, 11, 4, 12, 13, 14, 19, 20, 21, 22, 23, 24, 25, 26, 27, 28, 29, 30, 31, 32] (by decide +kernel) (by decide +kernel)
set_option maxRecDepth 20000 in
theorem gX1_mean_X0_advance_n58 : GoodIn wsX1_mean (wsX0_advance) := ggX1_mean_X0_advance
theorem dX1_mean_0 : decode cX1_mean 0 = .ok (.iconst 0, 1) := by decide +kernel
theorem dX1_mean_1 : decode cX1_mean 1 = .ok (.istore_n 1, 1) := by decide +kernel
theorem dX1_mean_2 : decode cX1_mean 2 = .ok (.iconst 0, 1) := by decide +kernel
theorem dX1_mean_3 : decode cX1_mean 3 = .ok (.istore_n 2, 1) := by decide +kernel
theorem dX1_mean_4 : decode cX1_mean 4 = .ok (.iconst 0, 1) := by decide +kernel
theorem dX1_mean_5 : decode cX1_mean 5 = .ok (.istore_n 3, 1) := by decide +kernel
theorem dX1_mean_6 : decode cX1_mean 6 = .ok (.iload_n 3, 1) := by decide +kernel
theorem dX1_mean_7 : decode cX1_mean 7 = .ok (.aload_n 0, 1) := by decide +kernel
theorem dX1_mean_8 : decode cX1_mean 8 = .ok (.getfield 19, 3) := by decide +kernel
theorem dX1_mean_11 : decode cX1_mean 11 = .ok (.if_icmp .ge 36, 3) := by decide +kernel
theorem dX1_mean_14 : decode cX1_mean 14 = .ok (.aload_n 0, 1) := by decide +kernel
theorem dX1_mean_15 : decode cX1_mean 15 = .ok (.getfield 11, 3) := by decide +kernel
theorem dX1_mean_18 : decode cX1_mean 18 = .ok (.iload_n 3, 1) := by decide +kernel
theorem dX1_mean_19 : decode cX1_mean 19 = .ok (.aaload, 1) := by decide +kernel
theorem dX1_mean_20 : decode cX1_mean 20 = .ok (.getfield 134, 3) := by decide +kernel
theorem dX1_mean_23 : decode cX1_mean 23 = .ok (.ifCond .eq 18, 3) := by decide +kernel
theorem dX1_mean_26 : decode cX1_mean 26 = .ok (.iinc 1 1, 3) := by decide +kernel
theorem dX1_mean_29 : decode cX1_mean 29 = .ok (.iload_n 2, 1) := by decide +kernel
theorem dX1_mean_30 : decode cX1_mean 30 = .ok (.aload_n 0, 1) := by decide +kernel
theorem dX1_mean_31 : decode cX1_mean 31 = .ok (.getfield 11, 3) := by decide +kernel
theorem dX1_mean_34 : decode cX1_mean 34 = .ok (.iload_n 3, 1) := by decide +kernel
theorem dX1_mean_35 : decode cX1_mean 35 = .ok (.aaload, 1) := by decide +kernel
theorem dX1_mean_36 : decode cX1_mean 36 = .ok (.invokevirtual 58, 3) := by decide +kernel
theorem dX1_mean_39 : decode cX1_mean 39 = .ok (.iadd, 1) := by decide +kernel
theorem dX1_mean_40 : decode cX1_mean 40 = .ok (.istore_n 2, 1) := by decide +kernel
theorem dX1_mean_41 : decode cX1_mean 41 = .ok (.iinc 3 1, 3) := by decide +kernel
theorem dX1_mean_44 : decode cX1_mean 44 = .ok (.goto (-38), 3) := by decide +kernel
theorem dX1_mean_47 : decode cX1_mean 47 = .ok (.iload_n 1, 1) := by decide +kernel
theorem dX1_mean_48 : decode cX1_mean 48 = .ok (.ifCond .ne 5, 3) := by decide +kernel
theorem dX1_mean_51 : decode cX1_mean 51 = .ok (.dconst 0, 1) := by decide +kernel
theorem dX1_mean_52 : decode cX1_mean 52 = .ok (.dreturn, 1) := by decide +kernel
theorem dX1_mean_53 : decode cX1_mean 53 = .ok (.iload_n 2, 1) := by decide +kernel
theorem dX1_mean_54 : decode cX1_mean 54 = .ok (.i2d, 1) := by decide +kernel
theorem dX1_mean_55 : decode cX1_mean 55 = .ok (.iload_n 1, 1) := by decide +kernel
theorem dX1_mean_56 : decode cX1_mean 56 = .ok (.i2d, 1) := by decide +kernel
theorem dX1_mean_57 : decode cX1_mean 57 = .ok (.ddiv, 1) := by decide +kernel
theorem dX1_mean_58 : decode cX1_mean 58 = .ok (.dreturn, 1) := by decide +kernel
theorem dX1_checkClock_0 : decode cX1_checkClock 0 = .ok (.iload_n 1, 1) := by decide +kernel
theorem dX1_checkClock_1 : decode cX1_checkClock 1 = .ok (.ifCond .lt 11, 3) := by decide +kernel
theorem dX1_checkClock_4 : decode cX1_checkClock 4 = .ok (.iload_n 1, 1) := by decide +kernel
theorem dX1_checkClock_5 : decode cX1_checkClock 5 = .ok (.aload_n 0, 1) := by decide +kernel
theorem dX1_checkClock_6 : decode cX1_checkClock 6 = .ok (.getfield 19, 3) := by decide +kernel
theorem dX1_checkClock_9 : decode cX1_checkClock 9 = .ok (.if_icmp .lt 13, 3) := by decide +kernel
theorem dX1_checkClock_12 : decode cX1_checkClock 12 = .ok (.new 86, 3) := by decide +kernel
theorem dX1_checkClock_15 : decode cX1_checkClock 15 = .ok (.dup, 1) := by decide +kernel
theorem dX1_checkClock_16 : decode cX1_checkClock 16 = .ok (.ldc 146, 2) := by decide +kernel
theorem dX1_checkClock_18 : decode cX1_checkClock 18 = .ok (.invokespecial 90, 3) := by decide +kernel
theorem dX1_checkClock_21 : decode cX1_checkClock 21 = .ok (.athrow, 1) := by decide +kernel
theorem dX1_checkClock_22 : decode cX1_checkClock 22 = .ok (.return_, 1) := by decide +kernel
set_option maxRecDepth 20000 in
theorem ggX1_checkTime_X1_isWithin : GoodIn wsX1_checkTime wsX1_isWithin := goodIn_r _ [6] (by decide +kernel) (by decide +kernel)
set_option maxRecDepth 20000 in
theorem gX1_checkTime_X1_isWithin : GoodIn wsX1_checkTime (va_wsS RX1 43 yX1_isWithin wsX1_isWithin) := goodIn_app (goodIn_of _ (by decide +kernel)) ggX1_checkTime_X1_isWithin
theorem dX1_checkTime_0 : decode cX1_checkTime 0 = .ok (.iload_n 0, 1) := by decide +kernel
theorem dX1_checkTime_1 : decode cX1_checkTime 1 = .ok (.iconst 0, 1) := by decide +kernel
theorem dX1_checkTime_2 : decode cX1_checkTime 2 = .ok (.sipush 719, 3) := by decide +kernel
theorem dX1_checkTime_5 : decode cX1_checkTime 5 = .ok (.invokestatic 43, 3) := by decide +kernel
theorem dX1_checkTime_8 : decode cX1_checkTime 8 = .ok (.ifCond .ne 13, 3) := by decide +kernel
theorem dX1_checkTime_11 : decode cX1_checkTime 11 = .ok (.new 47, 3) := by decide +kernel
theorem dX1_checkTime_14 : decode cX1_checkTime 14 = .ok (.dup, 1) := by decide +kernel
theorem dX1_checkTime_15 : decode cX1_checkTime 15 = .ok (.ldc 148, 2) := by decide +kernel
theorem dX1_checkTime_17 : decode cX1_checkTime 17 = .ok (.invokespecial 51, 3) := by decide +kernel
theorem dX1_checkTime_20 : decode cX1_checkTime 20 = .ok (.athrow, 1) := by decide +kernel
theorem dX1_checkTime_21 : decode cX1_checkTime 21 = .ok (.return_, 1) := by decide +kernel
set_option maxRecDepth 20000 in
theorem ggX1_checkMinutes_X1_isWithin : GoodIn wsX1_checkMinutes wsX1_isWithin := goodIn_r _ [6] (by decide +kernel) (by decide +kernel)
set_option maxRecDepth 20000 in
theorem gX1_checkMinutes_X1_isWithin : GoodIn wsX1_checkMinutes (va_wsS RX1 43 yX1_isWithin wsX1_isWithin) := goodIn_app (goodIn_of _ (by decide +kernel)) ggX1_checkMinutes_X1_isWithin
theorem dX1_checkMinutes_0 : decode cX1_checkMinutes 0 = .ok (.iload_n 0, 1) := by decide +kernel
theorem dX1_checkMinutes_1 : decode cX1_checkMinutes 1 = .ok (.iconst 1, 1) := by decide +kernel
theorem dX1_checkMinutes_2 : decode cX1_checkMinutes 2 = .ok (.sipush 720, 3) := by decide +kernel
theorem dX1_checkMinutes_5 : decode cX1_checkMinutes 5 = .ok (.invokestatic 43, 3) := by decide +kernel
theorem dX1_checkMinutes_8 : decode cX1_checkMinutes 8 = .ok (.ifCond .ne 13, 3) := by decide +kernel
theorem dX1_checkMinutes_11 : decode cX1_checkMinutes 11 = .ok (.new 47, 3) := by decide +kernel
theorem dX1_checkMinutes_14 : decode cX1_checkMinutes 14 = .ok (.dup, 1) := by decide +kernel
theorem dX1_checkMinutes_15 : decode cX1_checkMinutes 15 = .ok (.ldc 150, 2) := by decide +kernel
theorem dX1_checkMinutes_17 : decode cX1_checkMinutes 17 = .ok (.invokespecial 51, 3) := by decide +kernel
theorem dX1_checkMinutes_20 : decode cX1_checkMinutes 20 = .ok (.athrow, 1) := by decide +kernel
theorem dX1_checkMinutes_21 : decode cX1_checkMinutes 21 = .ok (.return_, 1) := by decide +kernel
theorem dX1_isWithin_0 : decode cX1_isWithin 0 = .ok (.iload_n 0, 1) := by decide +kernel
theorem dX1_isWithin_1 : decode cX1_isWithin 1 = .ok (.iload_n 1, 1) := by decide +kernel
theorem dX1_isWithin_2 : decode cX1_isWithin 2 = .ok (.if_icmp .lt 12, 3) := by decide +kernel
theorem dX1_isWithin_5 : decode cX1_isWithin 5 = .ok (.iload_n 0, 1) := by decide +kernel
theorem dX1_isWithin_6 : decode cX1_isWithin 6 = .ok (.iload_n 2, 1) := by decide +kernel
theorem dX1_isWithin_7 : decode cX1_isWithin 7 = .ok (.if_icmp .gt 7, 3) := by decide +kernel
theorem dX1_isWithin_10 : decode cX1_isWithin 10 = .ok (.iconst 1, 1) := by decide +kernel
theorem dX1_isWithin_11 : decode cX1_isWithin 11 = .ok (.goto 4, 3) := by decide +kernel
theorem dX1_isWithin_14 : decode cX1_isWithin 14 = .ok (.iconst 0, 1) := by decide +kernel
theorem dX1_isWithin_15 : decode cX1_isWithin 15 = .ok (.ireturn, 1) := by decide +kernel
set_option maxRecDepth 20000 in
theorem ggX1_trueTime_J9_floorMod_7cf53 : GoodIn wsX1_trueTime wsJ9_floorMod_7cf53 := goodIn_r _ [4] (by decide +kernel) (by decide +kernel)
set_option maxRecDepth 20000 in
theorem gX1_trueTime_J9_floorMod_7cf53 : GoodIn wsX1_trueTime (va_wsS RX1 152 yJ9_floorMod_7cf53 wsJ9_floorMod_7cf53) := goodIn_app (goodIn_of _ (by decide +kernel)) ggX1_trueTime_J9_floorMod_7cf53
theorem dX1_trueTime_0 : decode cX1_trueTime 0 = .ok (.iload_n 0, 1) := by decide +kernel
theorem dX1_trueTime_1 : decode cX1_trueTime 1 = .ok (.sipush 720, 3) := by decide +kernel
theorem dX1_trueTime_4 : decode cX1_trueTime 4 = .ok (.invokestatic 152, 3) := by decide +kernel
theorem dX1_trueTime_7 : decode cX1_trueTime 7 = .ok (.ireturn, 1) := by decide +kernel
set_option maxRecDepth 20000 in
theorem ggX1_offOf_X1_trueTime : GoodIn wsX1_offOf wsX1_trueTime := goodIn_r _ [4, 5, 6, 7, 8] (by decide +kernel) (by decide +kernel)
set_option maxRecDepth 20000 in
theorem gX1_offOf_X1_trueTime : GoodIn wsX1_offOf (va_wsS RX1 160 yX1_trueTime wsX1_trueTime) := goodIn_app (goodIn_of _ (by decide +kernel)) ggX1_offOf_X1_trueTime
set_option maxRecDepth 20000 in
theorem ggX1_offOf_J9_floorMod_7cf53 : GoodIn wsX1_offOf wsJ9_floorMod_7cf53 := goodIn_r _ [8] (by decide +kernel) (by decide +kernel)
set_option maxRecDepth 20000 in
theorem gX1_offOf_J9_floorMod_7cf53 : GoodIn wsX1_offOf (va_wsS RX1 152 yJ9_floorMod_7cf53 wsJ9_floorMod_7cf53) := goodIn_app (goodIn_of _ (by decide +kernel)) ggX1_offOf_J9_floorMod_7cf53
theorem dX1_offOf_0 : decode cX1_offOf 0 = .ok (.aload_n 0, 1) := by decide +kernel
theorem dX1_offOf_1 : decode cX1_offOf 1 = .ok (.getfield 157, 3) := by decide +kernel
theorem dX1_offOf_4 : decode cX1_offOf 4 = .ok (.iload_n 1, 1) := by decide +kernel
theorem dX1_offOf_5 : decode cX1_offOf 5 = .ok (.invokestatic 160, 3) := by decide +kernel
theorem dX1_offOf_8 : decode cX1_offOf 8 = .ok (.isub, 1) := by decide +kernel
theorem dX1_offOf_9 : decode cX1_offOf 9 = .ok (.istore_n 2, 1) := by decide +kernel
theorem dX1_offOf_10 : decode cX1_offOf 10 = .ok (.iload_n 2, 1) := by decide +kernel
theorem dX1_offOf_11 : decode cX1_offOf 11 = .ok (.sipush 360, 3) := by decide +kernel
theorem dX1_offOf_14 : decode cX1_offOf 14 = .ok (.iadd, 1) := by decide +kernel
theorem dX1_offOf_15 : decode cX1_offOf 15 = .ok (.sipush 720, 3) := by decide +kernel
theorem dX1_offOf_18 : decode cX1_offOf 18 = .ok (.invokestatic 152, 3) := by decide +kernel
theorem dX1_offOf_21 : decode cX1_offOf 21 = .ok (.sipush 360, 3) := by decide +kernel
theorem dX1_offOf_24 : decode cX1_offOf 24 = .ok (.isub, 1) := by decide +kernel
theorem dX1_offOf_25 : decode cX1_offOf 25 = .ok (.ireturn, 1) := by decide +kernel
set_option maxRecDepth 20000 in
theorem ggX1_runRow_X0_runMinute : GoodIn wsX1_runRow wsX0_runMinute := goodIn_r _ [5, 6, 7, 8, 9, 10, 3, 11, 12, 13, 14, 15, 16, 17, 18, 19, 20, 21, 22, 23, 24, 25, 26, 27, 28, 29, 30, 31, 32, 33, 34, 35, 36, 37, 38, 39, 40, 41, 42, 43, 44, 45, 46, 47, 48, 49, 50, 55, 56, 57, 58, 59, 60, 61, 62, 63, 64, 65, 66, 67, 68] (by decide +kernel) (by decide +kernel)
set_option maxRecDepth 20000 in
theorem gX1_runRow_X0_runMinute_n111 : GoodIn wsX1_runRow (wsX0_runMinute) := ggX1_runRow_X0_runMinute
theorem dX1_runRow_0 : decode cX1_runRow 0 = .ok (.iconst 0, 1) := by decide +kernel
theorem dX1_runRow_1 : decode cX1_runRow 1 = .ok (.istore_n 3, 1) := by decide +kernel
theorem dX1_runRow_2 : decode cX1_runRow 2 = .ok (.iconst 0, 1) := by decide +kernel
theorem dX1_runRow_3 : decode cX1_runRow 3 = .ok (.istore 4, 2) := by decide +kernel
theorem dX1_runRow_5 : decode cX1_runRow 5 = .ok (.iload 4, 2) := by decide +kernel
theorem dX1_runRow_7 : decode cX1_runRow 7 = .ok (.aload_n 0, 1) := by decide +kernel
theorem dX1_runRow_8 : decode cX1_runRow 8 = .ok (.getfield 19, 3) := by decide +kernel
theorem dX1_runRow_11 : decode cX1_runRow 11 = .ok (.if_icmp .ge 27, 3) := by decide +kernel
theorem dX1_runRow_14 : decode cX1_runRow 14 = .ok (.aload_n 1, 1) := by decide +kernel
theorem dX1_runRow_15 : decode cX1_runRow 15 = .ok (.iload 4, 2) := by decide +kernel
theorem dX1_runRow_17 : decode cX1_runRow 17 = .ok (.aaload, 1) := by decide +kernel
theorem dX1_runRow_18 : decode cX1_runRow 18 = .ok (.iload_n 2, 1) := by decide +kernel
theorem dX1_runRow_19 : decode cX1_runRow 19 = .ok (.invokevirtual 111, 3) := by decide +kernel
theorem dX1_runRow_22 : decode cX1_runRow 22 = .ok (.iload_n 3, 1) := by decide +kernel
theorem dX1_runRow_23 : decode cX1_runRow 23 = .ok (.aload_n 1, 1) := by decide +kernel
theorem dX1_runRow_24 : decode cX1_runRow 24 = .ok (.iload 4, 2) := by decide +kernel
theorem dX1_runRow_26 : decode cX1_runRow 26 = .ok (.aaload, 1) := by decide +kernel
theorem dX1_runRow_27 : decode cX1_runRow 27 = .ok (.getfield 114, 3) := by decide +kernel
theorem dX1_runRow_30 : decode cX1_runRow 30 = .ok (.iadd, 1) := by decide +kernel
theorem dX1_runRow_31 : decode cX1_runRow 31 = .ok (.istore_n 3, 1) := by decide +kernel
theorem dX1_runRow_32 : decode cX1_runRow 32 = .ok (.iinc 4 1, 3) := by decide +kernel
theorem dX1_runRow_35 : decode cX1_runRow 35 = .ok (.goto (-30), 3) := by decide +kernel
theorem dX1_runRow_38 : decode cX1_runRow 38 = .ok (.iload_n 3, 1) := by decide +kernel
theorem dX1_runRow_39 : decode cX1_runRow 39 = .ok (.ireturn, 1) := by decide +kernel
set_option maxRecDepth 20000 in
theorem ggX1_copyClocks_X0_copyFrom : GoodIn wsX1_copyClocks wsX0_copyFrom := goodIn_r _ [7, 8, 9, 10, 11, 12, 13, 14, 15, 16, 17, 18, 19, 20, 21, 26, 27, 28, 29, 30, 31, 32, 33, 34, 35, 36, 37, 38, 39] (by decide +kernel) (by decide +kernel)
set_option maxRecDepth 20000 in
theorem gX1_copyClocks_X0_copyFrom_n107 : GoodIn wsX1_copyClocks (wsX0_copyFrom) := ggX1_copyClocks_X0_copyFrom
theorem dX1_copyClocks_0 : decode cX1_copyClocks 0 = .ok (.iconst 0, 1) := by decide +kernel
theorem dX1_copyClocks_1 : decode cX1_copyClocks 1 = .ok (.istore_n 1, 1) := by decide +kernel
theorem dX1_copyClocks_2 : decode cX1_copyClocks 2 = .ok (.iload_n 1, 1) := by decide +kernel
theorem dX1_copyClocks_3 : decode cX1_copyClocks 3 = .ok (.aload_n 0, 1) := by decide +kernel
theorem dX1_copyClocks_4 : decode cX1_copyClocks 4 = .ok (.getfield 19, 3) := by decide +kernel
theorem dX1_copyClocks_7 : decode cX1_copyClocks 7 = .ok (.if_icmp .ge 24, 3) := by decide +kernel
theorem dX1_copyClocks_10 : decode cX1_copyClocks 10 = .ok (.aload_n 0, 1) := by decide +kernel
theorem dX1_copyClocks_11 : decode cX1_copyClocks 11 = .ok (.getfield 15, 3) := by decide +kernel
theorem dX1_copyClocks_14 : decode cX1_copyClocks 14 = .ok (.iload_n 1, 1) := by decide +kernel
theorem dX1_copyClocks_15 : decode cX1_copyClocks 15 = .ok (.aaload, 1) := by decide +kernel
theorem dX1_copyClocks_16 : decode cX1_copyClocks 16 = .ok (.aload_n 0, 1) := by decide +kernel
theorem dX1_copyClocks_17 : decode cX1_copyClocks 17 = .ok (.getfield 11, 3) := by decide +kernel
theorem dX1_copyClocks_20 : decode cX1_copyClocks 20 = .ok (.iload_n 1, 1) := by decide +kernel
theorem dX1_copyClocks_21 : decode cX1_copyClocks 21 = .ok (.aaload, 1) := by decide +kernel
theorem dX1_copyClocks_22 : decode cX1_copyClocks 22 = .ok (.invokevirtual 107, 3) := by decide +kernel
theorem dX1_copyClocks_25 : decode cX1_copyClocks 25 = .ok (.iinc 1 1, 3) := by decide +kernel
theorem dX1_copyClocks_28 : decode cX1_copyClocks 28 = .ok (.goto (-26), 3) := by decide +kernel
theorem dX1_copyClocks_31 : decode cX1_copyClocks 31 = .ok (.return_, 1) := by decide +kernel
set_option maxRecDepth 20000 in
theorem ggX1_tally_X1_trueTime : GoodIn wsX1_tally wsX1_trueTime := goodIn_r _ [7, 8, 9, 10, 11] (by decide +kernel) (by decide +kernel)
set_option maxRecDepth 20000 in
theorem gX1_tally_X1_trueTime : GoodIn wsX1_tally (va_wsS RX1 160 yX1_trueTime wsX1_trueTime) := goodIn_app (goodIn_of _ (by decide +kernel)) ggX1_tally_X1_trueTime
set_option maxRecDepth 20000 in
theorem ggX1_tally_X1_sumOf : GoodIn wsX1_tally wsX1_sumOf := goodIn_r _ [15, 2, 16, 17, 18, 19, 20, 21, 22, 23, 24, 25, 26, 27, 28, 29, 30, 31, 32, 33, 34, 35, 36, 37, 38, 39, 40, 41, 42, 43, 44, 45, 61, 62, 63, 64, 65, 66, 67, 68, 69, 70, 71, 72, 73, 74, 75, 76, 77, 78] (by decide +kernel) (by decide +kernel)
set_option maxRecDepth 20000 in
theorem gX1_tally_X1_sumOf : GoodIn wsX1_tally (wsV RX1 125 RX1 yX1_sumOf wsX1_sumOf) := goodIn_app (goodIn_of _ (by decide +kernel)) ggX1_tally_X1_sumOf
set_option maxRecDepth 20000 in
theorem ggX1_tally_X1_trueClocks : GoodIn wsX1_tally wsX1_trueClocks := goodIn_r _ [49, 2, 3, 1, 50, 51, 6, 52, 4, 5, 7, 8, 9, 10, 11, 61, 62, 63, 64, 65, 66, 67, 68, 69, 70, 71, 72, 73, 74, 75, 76, 77, 78] (by decide +kernel) (by decide +kernel)
set_option maxRecDepth 20000 in
theorem gX1_tally_X1_trueClocks : GoodIn wsX1_tally (wsV RX1 163 RX1 yX1_trueClocks wsX1_trueClocks) := goodIn_app (goodIn_of _ (by decide +kernel)) ggX1_tally_X1_trueClocks
set_option maxRecDepth 20000 in
theorem ggX1_tally_X1_offOfAll : GoodIn wsX1_tally wsX1_offOfAll := goodIn_r _ [56, 2, 57, 58, 59, 60, 50, 51, 6, 52, 4, 5, 7, 8, 9, 10, 11, 61, 62, 63, 64, 65, 66, 67, 68, 69, 70, 71, 72, 73, 74, 75, 76, 77, 78] (by decide +kernel) (by decide +kernel)
set_option maxRecDepth 20000 in
theorem gX1_tally_X1_offOfAll : GoodIn wsX1_tally (wsV RX1 128 RX1 yX1_offOfAll wsX1_offOfAll) := goodIn_app (goodIn_of _ (by decide +kernel)) ggX1_tally_X1_offOfAll
theorem dX1_tally_0 : decode cX1_tally 0 = .ok (.iload_n 1, 1) := by decide +kernel
theorem dX1_tally_1 : decode cX1_tally 1 = .ok (.tableswitch 98 0 6 #[43, 48, 56, 61, 71, 82, 93], 43) := by decide +kernel
theorem dX1_tally_44 : decode cX1_tally 44 = .ok (.aload_n 0, 1) := by decide +kernel
theorem dX1_tally_45 : decode cX1_tally 45 = .ok (.getfield 23, 3) := by decide +kernel
theorem dX1_tally_48 : decode cX1_tally 48 = .ok (.ireturn, 1) := by decide +kernel
theorem dX1_tally_49 : decode cX1_tally 49 = .ok (.aload_n 0, 1) := by decide +kernel
theorem dX1_tally_50 : decode cX1_tally 50 = .ok (.getfield 23, 3) := by decide +kernel
theorem dX1_tally_53 : decode cX1_tally 53 = .ok (.invokestatic 160, 3) := by decide +kernel
theorem dX1_tally_56 : decode cX1_tally 56 = .ok (.ireturn, 1) := by decide +kernel
theorem dX1_tally_57 : decode cX1_tally 57 = .ok (.aload_n 0, 1) := by decide +kernel
theorem dX1_tally_58 : decode cX1_tally 58 = .ok (.getfield 19, 3) := by decide +kernel
theorem dX1_tally_61 : decode cX1_tally 61 = .ok (.ireturn, 1) := by decide +kernel
theorem dX1_tally_62 : decode cX1_tally 62 = .ok (.aload_n 0, 1) := by decide +kernel
theorem dX1_tally_63 : decode cX1_tally 63 = .ok (.aload_n 0, 1) := by decide +kernel
theorem dX1_tally_64 : decode cX1_tally 64 = .ok (.getfield 11, 3) := by decide +kernel
theorem dX1_tally_67 : decode cX1_tally 67 = .ok (.iconst 5, 1) := by decide +kernel
theorem dX1_tally_68 : decode cX1_tally 68 = .ok (.invokevirtual 125, 3) := by decide +kernel
theorem dX1_tally_71 : decode cX1_tally 71 = .ok (.ireturn, 1) := by decide +kernel
theorem dX1_tally_72 : decode cX1_tally 72 = .ok (.aload_n 0, 1) := by decide +kernel
theorem dX1_tally_73 : decode cX1_tally 73 = .ok (.aload_n 0, 1) := by decide +kernel
theorem dX1_tally_74 : decode cX1_tally 74 = .ok (.getfield 11, 3) := by decide +kernel
theorem dX1_tally_77 : decode cX1_tally 77 = .ok (.bipush 7, 2) := by decide +kernel
theorem dX1_tally_79 : decode cX1_tally 79 = .ok (.invokevirtual 125, 3) := by decide +kernel
theorem dX1_tally_82 : decode cX1_tally 82 = .ok (.ireturn, 1) := by decide +kernel
theorem dX1_tally_83 : decode cX1_tally 83 = .ok (.aload_n 0, 1) := by decide +kernel
theorem dX1_tally_84 : decode cX1_tally 84 = .ok (.aload_n 0, 1) := by decide +kernel
theorem dX1_tally_85 : decode cX1_tally 85 = .ok (.getfield 11, 3) := by decide +kernel
theorem dX1_tally_88 : decode cX1_tally 88 = .ok (.bipush 9, 2) := by decide +kernel
theorem dX1_tally_90 : decode cX1_tally 90 = .ok (.invokevirtual 125, 3) := by decide +kernel
theorem dX1_tally_93 : decode cX1_tally 93 = .ok (.ireturn, 1) := by decide +kernel
theorem dX1_tally_94 : decode cX1_tally 94 = .ok (.aload_n 0, 1) := by decide +kernel
theorem dX1_tally_95 : decode cX1_tally 95 = .ok (.invokevirtual 163, 3) := by decide +kernel
theorem dX1_tally_98 : decode cX1_tally 98 = .ok (.ireturn, 1) := by decide +kernel
theorem dX1_tally_99 : decode cX1_tally 99 = .ok (.aload_n 0, 1) := by decide +kernel
theorem dX1_tally_100 : decode cX1_tally 100 = .ok (.aload_n 0, 1) := by decide +kernel
theorem dX1_tally_101 : decode cX1_tally 101 = .ok (.getfield 11, 3) := by decide +kernel
theorem dX1_tally_104 : decode cX1_tally 104 = .ok (.aload_n 0, 1) := by decide +kernel
theorem dX1_tally_105 : decode cX1_tally 105 = .ok (.getfield 23, 3) := by decide +kernel
theorem dX1_tally_108 : decode cX1_tally 108 = .ok (.invokevirtual 128, 3) := by decide +kernel
theorem dX1_tally_111 : decode cX1_tally 111 = .ok (.ireturn, 1) := by decide +kernel
set_option maxRecDepth 20000 in
theorem ggX1_sumOf_X0_reading : GoodIn wsX1_sumOf wsX0_reading := goodIn_r _ [5, 6, 7, 8, 9, 10, 11, 12, 13, 14, 15, 16, 17, 3, 18, 19, 20, 21, 22, 23, 24, 25, 26, 27, 28, 29, 30, 31, 36, 37, 38, 39, 40, 41, 42, 43, 44, 45, 46, 47, 48, 49] (by decide +kernel) (by decide +kernel)
set_option maxRecDepth 20000 in
theorem gX1_sumOf_X0_reading_n91 : GoodIn wsX1_sumOf (wsX0_reading) := ggX1_sumOf_X0_reading
theorem dX1_sumOf_0 : decode cX1_sumOf 0 = .ok (.iconst 0, 1) := by decide +kernel
theorem dX1_sumOf_1 : decode cX1_sumOf 1 = .ok (.istore_n 3, 1) := by decide +kernel
theorem dX1_sumOf_2 : decode cX1_sumOf 2 = .ok (.iconst 0, 1) := by decide +kernel
theorem dX1_sumOf_3 : decode cX1_sumOf 3 = .ok (.istore 4, 2) := by decide +kernel
theorem dX1_sumOf_5 : decode cX1_sumOf 5 = .ok (.iload 4, 2) := by decide +kernel
theorem dX1_sumOf_7 : decode cX1_sumOf 7 = .ok (.aload_n 0, 1) := by decide +kernel
theorem dX1_sumOf_8 : decode cX1_sumOf 8 = .ok (.getfield 19, 3) := by decide +kernel
theorem dX1_sumOf_11 : decode cX1_sumOf 11 = .ok (.if_icmp .ge 20, 3) := by decide +kernel
theorem dX1_sumOf_14 : decode cX1_sumOf 14 = .ok (.iload_n 3, 1) := by decide +kernel
theorem dX1_sumOf_15 : decode cX1_sumOf 15 = .ok (.aload_n 1, 1) := by decide +kernel
theorem dX1_sumOf_16 : decode cX1_sumOf 16 = .ok (.iload 4, 2) := by decide +kernel
theorem dX1_sumOf_18 : decode cX1_sumOf 18 = .ok (.aaload, 1) := by decide +kernel
theorem dX1_sumOf_19 : decode cX1_sumOf 19 = .ok (.iload_n 2, 1) := by decide +kernel
theorem dX1_sumOf_20 : decode cX1_sumOf 20 = .ok (.invokevirtual 91, 3) := by decide +kernel
theorem dX1_sumOf_23 : decode cX1_sumOf 23 = .ok (.iadd, 1) := by decide +kernel
theorem dX1_sumOf_24 : decode cX1_sumOf 24 = .ok (.istore_n 3, 1) := by decide +kernel
theorem dX1_sumOf_25 : decode cX1_sumOf 25 = .ok (.iinc 4 1, 3) := by decide +kernel
theorem dX1_sumOf_28 : decode cX1_sumOf 28 = .ok (.goto (-23), 3) := by decide +kernel
theorem dX1_sumOf_31 : decode cX1_sumOf 31 = .ok (.iload_n 3, 1) := by decide +kernel
theorem dX1_sumOf_32 : decode cX1_sumOf 32 = .ok (.ireturn, 1) := by decide +kernel
set_option maxRecDepth 20000 in
theorem ggX1_offOfAll_X1_offOf : GoodIn wsX1_offOfAll wsX1_offOf := goodIn_r _ [9, 10, 11, 8, 12, 13, 14, 15, 16, 21, 22, 23, 24, 25, 26, 27, 28, 29, 30, 31, 32, 33, 34] (by decide +kernel) (by decide +kernel)
set_option maxRecDepth 20000 in
theorem gX1_offOfAll_X1_offOf : GoodIn wsX1_offOfAll (va_wsS RX1 62 yX1_offOf wsX1_offOf) := goodIn_app (goodIn_of _ (by decide +kernel)) ggX1_offOfAll_X1_offOf
theorem dX1_offOfAll_0 : decode cX1_offOfAll 0 = .ok (.iconst 0, 1) := by decide +kernel
theorem dX1_offOfAll_1 : decode cX1_offOfAll 1 = .ok (.istore_n 3, 1) := by decide +kernel
theorem dX1_offOfAll_2 : decode cX1_offOfAll 2 = .ok (.iconst 0, 1) := by decide +kernel
theorem dX1_offOfAll_3 : decode cX1_offOfAll 3 = .ok (.istore 4, 2) := by decide +kernel
theorem dX1_offOfAll_5 : decode cX1_offOfAll 5 = .ok (.iload 4, 2) := by decide +kernel
theorem dX1_offOfAll_7 : decode cX1_offOfAll 7 = .ok (.aload_n 0, 1) := by decide +kernel
theorem dX1_offOfAll_8 : decode cX1_offOfAll 8 = .ok (.getfield 19, 3) := by decide +kernel
theorem dX1_offOfAll_11 : decode cX1_offOfAll 11 = .ok (.if_icmp .ge 23, 3) := by decide +kernel
theorem dX1_offOfAll_14 : decode cX1_offOfAll 14 = .ok (.iload_n 3, 1) := by decide +kernel
theorem dX1_offOfAll_15 : decode cX1_offOfAll 15 = .ok (.aload_n 1, 1) := by decide +kernel
theorem dX1_offOfAll_16 : decode cX1_offOfAll 16 = .ok (.iload 4, 2) := by decide +kernel
theorem dX1_offOfAll_18 : decode cX1_offOfAll 18 = .ok (.aaload, 1) := by decide +kernel
theorem dX1_offOfAll_19 : decode cX1_offOfAll 19 = .ok (.iload_n 2, 1) := by decide +kernel
theorem dX1_offOfAll_20 : decode cX1_offOfAll 20 = .ok (.invokestatic 62, 3) := by decide +kernel
theorem dX1_offOfAll_23 : decode cX1_offOfAll 23 = .ok (.invokestatic 166, 3) := by decide +kernel
theorem dX1_offOfAll_26 : decode cX1_offOfAll 26 = .ok (.iadd, 1) := by decide +kernel
theorem dX1_offOfAll_27 : decode cX1_offOfAll 27 = .ok (.istore_n 3, 1) := by decide +kernel
theorem dX1_offOfAll_28 : decode cX1_offOfAll 28 = .ok (.iinc 4 1, 3) := by decide +kernel
theorem dX1_offOfAll_31 : decode cX1_offOfAll 31 = .ok (.goto (-26), 3) := by decide +kernel
theorem dX1_offOfAll_34 : decode cX1_offOfAll 34 = .ok (.iload_n 3, 1) := by decide +kernel
theorem dX1_offOfAll_35 : decode cX1_offOfAll 35 = .ok (.ireturn, 1) := by decide +kernel
set_option maxRecDepth 20000 in
theorem ggX1_trueClocks_X1_offOf : GoodIn wsX1_trueClocks wsX1_offOf := goodIn_r _ [7, 8, 9, 6, 10, 11, 12, 13, 14, 19, 20, 21, 22, 23, 24, 25, 26, 27, 28, 29, 30, 31, 32] (by decide +kernel) (by decide +kernel)
set_option maxRecDepth 20000 in
theorem gX1_trueClocks_X1_offOf : GoodIn wsX1_trueClocks (va_wsS RX1 62 yX1_offOf wsX1_offOf) := goodIn_app (goodIn_of _ (by decide +kernel)) ggX1_trueClocks_X1_offOf
theorem dX1_trueClocks_0 : decode cX1_trueClocks 0 = .ok (.iconst 0, 1) := by decide +kernel
theorem dX1_trueClocks_1 : decode cX1_trueClocks 1 = .ok (.istore_n 1, 1) := by decide +kernel
theorem dX1_trueClocks_2 : decode cX1_trueClocks 2 = .ok (.iconst 0, 1) := by decide +kernel
theorem dX1_trueClocks_3 : decode cX1_trueClocks 3 = .ok (.istore_n 2, 1) := by decide +kernel
theorem dX1_trueClocks_4 : decode cX1_trueClocks 4 = .ok (.iload_n 2, 1) := by decide +kernel
theorem dX1_trueClocks_5 : decode cX1_trueClocks 5 = .ok (.aload_n 0, 1) := by decide +kernel
theorem dX1_trueClocks_6 : decode cX1_trueClocks 6 = .ok (.getfield 19, 3) := by decide +kernel
theorem dX1_trueClocks_9 : decode cX1_trueClocks 9 = .ok (.if_icmp .ge 28, 3) := by decide +kernel
theorem dX1_trueClocks_12 : decode cX1_trueClocks 12 = .ok (.aload_n 0, 1) := by decide +kernel
theorem dX1_trueClocks_13 : decode cX1_trueClocks 13 = .ok (.getfield 11, 3) := by decide +kernel
theorem dX1_trueClocks_16 : decode cX1_trueClocks 16 = .ok (.iload_n 2, 1) := by decide +kernel
theorem dX1_trueClocks_17 : decode cX1_trueClocks 17 = .ok (.aaload, 1) := by decide +kernel
theorem dX1_trueClocks_18 : decode cX1_trueClocks 18 = .ok (.aload_n 0, 1) := by decide +kernel
theorem dX1_trueClocks_19 : decode cX1_trueClocks 19 = .ok (.getfield 23, 3) := by decide +kernel
theorem dX1_trueClocks_22 : decode cX1_trueClocks 22 = .ok (.invokestatic 62, 3) := by decide +kernel
theorem dX1_trueClocks_25 : decode cX1_trueClocks 25 = .ok (.ifCond .ne 6, 3) := by decide +kernel
theorem dX1_trueClocks_28 : decode cX1_trueClocks 28 = .ok (.iinc 1 1, 3) := by decide +kernel
theorem dX1_trueClocks_31 : decode cX1_trueClocks 31 = .ok (.iinc 2 1, 3) := by decide +kernel
theorem dX1_trueClocks_34 : decode cX1_trueClocks 34 = .ok (.goto (-30), 3) := by decide +kernel
theorem dX1_trueClocks_37 : decode cX1_trueClocks 37 = .ok (.iload_n 1, 1) := by decide +kernel
theorem dX1_trueClocks_38 : decode cX1_trueClocks 38 = .ok (.ireturn, 1) := by decide +kernel
