theorem dX0_init_0 : decode cX0_init 0 = .ok (.aload_n 0, 1) := by decide +kernel
theorem dX0_init_1 : decode cX0_init 1 = .ok (.invokespecial 3, 3) := by decide +kernel
theorem dX0_init_4 : decode cX0_init 4 = .ok (.aload_n 0, 1) := by decide +kernel
theorem dX0_init_5 : decode cX0_init 5 = .ok (.bipush 30, 2) := by decide +kernel
theorem dX0_init_7 : decode cX0_init 7 = .ok (.putfield 9, 3) := by decide +kernel
theorem dX0_init_10 : decode cX0_init 10 = .ok (.aload_n 0, 1) := by decide +kernel
theorem dX0_init_11 : decode cX0_init 11 = .ok (.bipush 30, 2) := by decide +kernel
theorem dX0_init_13 : decode cX0_init 13 = .ok (.putfield 15, 3) := by decide +kernel
theorem dX0_init_16 : decode cX0_init 16 = .ok (.aload_n 0, 1) := by decide +kernel
theorem dX0_init_17 : decode cX0_init 17 = .ok (.iconst 0, 1) := by decide +kernel
theorem dX0_init_18 : decode cX0_init 18 = .ok (.putfield 18, 3) := by decide +kernel
theorem dX0_init_21 : decode cX0_init 21 = .ok (.aload_n 0, 1) := by decide +kernel
theorem dX0_init_22 : decode cX0_init 22 = .ok (.sipush 600, 3) := by decide +kernel
theorem dX0_init_25 : decode cX0_init 25 = .ok (.putfield 21, 3) := by decide +kernel
theorem dX0_init_28 : decode cX0_init 28 = .ok (.aload_n 0, 1) := by decide +kernel
theorem dX0_init_29 : decode cX0_init 29 = .ok (.bipush 100, 2) := by decide +kernel
theorem dX0_init_31 : decode cX0_init 31 = .ok (.putfield 24, 3) := by decide +kernel
theorem dX0_init_34 : decode cX0_init 34 = .ok (.aload_n 0, 1) := by decide +kernel
theorem dX0_init_35 : decode cX0_init 35 = .ok (.bipush 60, 2) := by decide +kernel
theorem dX0_init_37 : decode cX0_init 37 = .ok (.putfield 27, 3) := by decide +kernel
theorem dX0_init_40 : decode cX0_init 40 = .ok (.aload_n 0, 1) := by decide +kernel
theorem dX0_init_41 : decode cX0_init 41 = .ok (.iconst 1, 1) := by decide +kernel
theorem dX0_init_42 : decode cX0_init 42 = .ok (.putfield 30, 3) := by decide +kernel
theorem dX0_init_45 : decode cX0_init 45 = .ok (.aload_n 0, 1) := by decide +kernel
theorem dX0_init_46 : decode cX0_init 46 = .ok (.iconst 0, 1) := by decide +kernel
theorem dX0_init_47 : decode cX0_init 47 = .ok (.putfield 34, 3) := by decide +kernel
theorem dX0_init_50 : decode cX0_init 50 = .ok (.aload_n 0, 1) := by decide +kernel
theorem dX0_init_51 : decode cX0_init 51 = .ok (.iconst 0, 1) := by decide +kernel
theorem dX0_init_52 : decode cX0_init 52 = .ok (.putfield 37, 3) := by decide +kernel
theorem dX0_init_55 : decode cX0_init 55 = .ok (.aload_n 0, 1) := by decide +kernel
theorem dX0_init_56 : decode cX0_init 56 = .ok (.iconst (-1), 1) := by decide +kernel
theorem dX0_init_57 : decode cX0_init 57 = .ok (.putfield 40, 3) := by decide +kernel
theorem dX0_init_60 : decode cX0_init 60 = .ok (.aload_n 0, 1) := by decide +kernel
theorem dX0_init_61 : decode cX0_init 61 = .ok (.iconst 0, 1) := by decide +kernel
theorem dX0_init_62 : decode cX0_init 62 = .ok (.putfield 43, 3) := by decide +kernel
theorem dX0_init_65 : decode cX0_init 65 = .ok (.aload_n 0, 1) := by decide +kernel
theorem dX0_init_66 : decode cX0_init 66 = .ok (.iconst 0, 1) := by decide +kernel
theorem dX0_init_67 : decode cX0_init 67 = .ok (.putfield 46, 3) := by decide +kernel
theorem dX0_init_70 : decode cX0_init 70 = .ok (.aload_n 0, 1) := by decide +kernel
theorem dX0_init_71 : decode cX0_init 71 = .ok (.iconst 0, 1) := by decide +kernel
theorem dX0_init_72 : decode cX0_init 72 = .ok (.putfield 49, 3) := by decide +kernel
theorem dX0_init_75 : decode cX0_init 75 = .ok (.aload_n 0, 1) := by decide +kernel
theorem dX0_init_76 : decode cX0_init 76 = .ok (.iconst 0, 1) := by decide +kernel
theorem dX0_init_77 : decode cX0_init 77 = .ok (.putfield 52, 3) := by decide +kernel
theorem dX0_init_80 : decode cX0_init 80 = .ok (.return_, 1) := by decide +kernel
theorem dX0_copyFrom_0 : decode cX0_copyFrom 0 = .ok (.aload_n 0, 1) := by decide +kernel
theorem dX0_copyFrom_1 : decode cX0_copyFrom 1 = .ok (.aload_n 1, 1) := by decide +kernel
theorem dX0_copyFrom_2 : decode cX0_copyFrom 2 = .ok (.getfield 9, 3) := by decide +kernel
theorem dX0_copyFrom_5 : decode cX0_copyFrom 5 = .ok (.putfield 9, 3) := by decide +kernel
theorem dX0_copyFrom_8 : decode cX0_copyFrom 8 = .ok (.aload_n 0, 1) := by decide +kernel
theorem dX0_copyFrom_9 : decode cX0_copyFrom 9 = .ok (.aload_n 1, 1) := by decide +kernel
theorem dX0_copyFrom_10 : decode cX0_copyFrom 10 = .ok (.getfield 15, 3) := by decide +kernel
theorem dX0_copyFrom_13 : decode cX0_copyFrom 13 = .ok (.putfield 15, 3) := by decide +kernel
theorem dX0_copyFrom_16 : decode cX0_copyFrom 16 = .ok (.aload_n 0, 1) := by decide +kernel
theorem dX0_copyFrom_17 : decode cX0_copyFrom 17 = .ok (.aload_n 1, 1) := by decide +kernel
theorem dX0_copyFrom_18 : decode cX0_copyFrom 18 = .ok (.getfield 18, 3) := by decide +kernel
theorem dX0_copyFrom_21 : decode cX0_copyFrom 21 = .ok (.putfield 18, 3) := by decide +kernel
theorem dX0_copyFrom_24 : decode cX0_copyFrom 24 = .ok (.aload_n 0, 1) := by decide +kernel
theorem dX0_copyFrom_25 : decode cX0_copyFrom 25 = .ok (.aload_n 1, 1) := by decide +kernel
theorem dX0_copyFrom_26 : decode cX0_copyFrom 26 = .ok (.getfield 21, 3) := by decide +kernel
theorem dX0_copyFrom_29 : decode cX0_copyFrom 29 = .ok (.putfield 21, 3) := by decide +kernel
theorem dX0_copyFrom_32 : decode cX0_copyFrom 32 = .ok (.aload_n 0, 1) := by decide +kernel
theorem dX0_copyFrom_33 : decode cX0_copyFrom 33 = .ok (.aload_n 1, 1) := by decide +kernel
theorem dX0_copyFrom_34 : decode cX0_copyFrom 34 = .ok (.getfield 24, 3) := by decide +kernel
theorem dX0_copyFrom_37 : decode cX0_copyFrom 37 = .ok (.putfield 24, 3) := by decide +kernel
theorem dX0_copyFrom_40 : decode cX0_copyFrom 40 = .ok (.aload_n 0, 1) := by decide +kernel
theorem dX0_copyFrom_41 : decode cX0_copyFrom 41 = .ok (.aload_n 1, 1) := by decide +kernel
theorem dX0_copyFrom_42 : decode cX0_copyFrom 42 = .ok (.getfield 27, 3) := by decide +kernel
theorem dX0_copyFrom_45 : decode cX0_copyFrom 45 = .ok (.putfield 27, 3) := by decide +kernel
theorem dX0_copyFrom_48 : decode cX0_copyFrom 48 = .ok (.aload_n 0, 1) := by decide +kernel
theorem dX0_copyFrom_49 : decode cX0_copyFrom 49 = .ok (.aload_n 1, 1) := by decide +kernel
theorem dX0_copyFrom_50 : decode cX0_copyFrom 50 = .ok (.getfield 30, 3) := by decide +kernel
theorem dX0_copyFrom_53 : decode cX0_copyFrom 53 = .ok (.putfield 30, 3) := by decide +kernel
theorem dX0_copyFrom_56 : decode cX0_copyFrom 56 = .ok (.aload_n 0, 1) := by decide +kernel
theorem dX0_copyFrom_57 : decode cX0_copyFrom 57 = .ok (.aload_n 1, 1) := by decide +kernel
theorem dX0_copyFrom_58 : decode cX0_copyFrom 58 = .ok (.getfield 34, 3) := by decide +kernel
theorem dX0_copyFrom_61 : decode cX0_copyFrom 61 = .ok (.putfield 34, 3) := by decide +kernel
theorem dX0_copyFrom_64 : decode cX0_copyFrom 64 = .ok (.aload_n 0, 1) := by decide +kernel
theorem dX0_copyFrom_65 : decode cX0_copyFrom 65 = .ok (.aload_n 1, 1) := by decide +kernel
theorem dX0_copyFrom_66 : decode cX0_copyFrom 66 = .ok (.getfield 37, 3) := by decide +kernel
theorem dX0_copyFrom_69 : decode cX0_copyFrom 69 = .ok (.putfield 37, 3) := by decide +kernel
theorem dX0_copyFrom_72 : decode cX0_copyFrom 72 = .ok (.aload_n 0, 1) := by decide +kernel
theorem dX0_copyFrom_73 : decode cX0_copyFrom 73 = .ok (.aload_n 1, 1) := by decide +kernel
theorem dX0_copyFrom_74 : decode cX0_copyFrom 74 = .ok (.getfield 40, 3) := by decide +kernel
theorem dX0_copyFrom_77 : decode cX0_copyFrom 77 = .ok (.putfield 40, 3) := by decide +kernel
theorem dX0_copyFrom_80 : decode cX0_copyFrom 80 = .ok (.aload_n 0, 1) := by decide +kernel
theorem dX0_copyFrom_81 : decode cX0_copyFrom 81 = .ok (.aload_n 1, 1) := by decide +kernel
theorem dX0_copyFrom_82 : decode cX0_copyFrom 82 = .ok (.getfield 43, 3) := by decide +kernel
theorem dX0_copyFrom_85 : decode cX0_copyFrom 85 = .ok (.putfield 43, 3) := by decide +kernel
theorem dX0_copyFrom_88 : decode cX0_copyFrom 88 = .ok (.aload_n 0, 1) := by decide +kernel
theorem dX0_copyFrom_89 : decode cX0_copyFrom 89 = .ok (.aload_n 1, 1) := by decide +kernel
theorem dX0_copyFrom_90 : decode cX0_copyFrom 90 = .ok (.getfield 46, 3) := by decide +kernel
theorem dX0_copyFrom_93 : decode cX0_copyFrom 93 = .ok (.putfield 46, 3) := by decide +kernel
theorem dX0_copyFrom_96 : decode cX0_copyFrom 96 = .ok (.aload_n 0, 1) := by decide +kernel
theorem dX0_copyFrom_97 : decode cX0_copyFrom 97 = .ok (.aload_n 1, 1) := by decide +kernel
theorem dX0_copyFrom_98 : decode cX0_copyFrom 98 = .ok (.getfield 49, 3) := by decide +kernel
theorem dX0_copyFrom_101 : decode cX0_copyFrom 101 = .ok (.putfield 49, 3) := by decide +kernel
theorem dX0_copyFrom_104 : decode cX0_copyFrom 104 = .ok (.aload_n 0, 1) := by decide +kernel
theorem dX0_copyFrom_105 : decode cX0_copyFrom 105 = .ok (.aload_n 1, 1) := by decide +kernel
theorem dX0_copyFrom_106 : decode cX0_copyFrom 106 = .ok (.getfield 52, 3) := by decide +kernel
theorem dX0_copyFrom_109 : decode cX0_copyFrom 109 = .ok (.putfield 52, 3) := by decide +kernel
theorem dX0_copyFrom_112 : decode cX0_copyFrom 112 = .ok (.return_, 1) := by decide +kernel
theorem dX0_putHands_0 : decode cX0_putHands 0 = .ok (.aload_n 0, 1) := by decide +kernel
theorem dX0_putHands_1 : decode cX0_putHands 1 = .ok (.iload_n 1, 1) := by decide +kernel
theorem dX0_putHands_2 : decode cX0_putHands 2 = .ok (.putfield 34, 3) := by decide +kernel
theorem dX0_putHands_5 : decode cX0_putHands 5 = .ok (.aload_n 0, 1) := by decide +kernel
theorem dX0_putHands_6 : decode cX0_putHands 6 = .ok (.iconst 0, 1) := by decide +kernel
theorem dX0_putHands_7 : decode cX0_putHands 7 = .ok (.putfield 37, 3) := by decide +kernel
theorem dX0_putHands_10 : decode cX0_putHands 10 = .ok (.return_, 1) := by decide +kernel
theorem dX0_fitTrain_0 : decode cX0_fitTrain 0 = .ok (.aload_n 0, 1) := by decide +kernel
theorem dX0_fitTrain_1 : decode cX0_fitTrain 1 = .ok (.iload_n 1, 1) := by decide +kernel
theorem dX0_fitTrain_2 : decode cX0_fitTrain 2 = .ok (.putfield 9, 3) := by decide +kernel
theorem dX0_fitTrain_5 : decode cX0_fitTrain 5 = .ok (.aload_n 0, 1) := by decide +kernel
theorem dX0_fitTrain_6 : decode cX0_fitTrain 6 = .ok (.iload_n 2, 1) := by decide +kernel
theorem dX0_fitTrain_7 : decode cX0_fitTrain 7 = .ok (.putfield 15, 3) := by decide +kernel
theorem dX0_fitTrain_10 : decode cX0_fitTrain 10 = .ok (.aload_n 0, 1) := by decide +kernel
theorem dX0_fitTrain_11 : decode cX0_fitTrain 11 = .ok (.iload_n 3, 1) := by decide +kernel
theorem dX0_fitTrain_12 : decode cX0_fitTrain 12 = .ok (.putfield 18, 3) := by decide +kernel
theorem dX0_fitTrain_15 : decode cX0_fitTrain 15 = .ok (.return_, 1) := by decide +kernel
theorem dX0_drawUp_0 : decode cX0_drawUp 0 = .ok (.sipush 600, 3) := by decide +kernel
theorem dX0_drawUp_3 : decode cX0_drawUp 3 = .ok (.aload_n 0, 1) := by decide +kernel
theorem dX0_drawUp_4 : decode cX0_drawUp 4 = .ok (.getfield 21, 3) := by decide +kernel
theorem dX0_drawUp_7 : decode cX0_drawUp 7 = .ok (.isub, 1) := by decide +kernel
theorem dX0_drawUp_8 : decode cX0_drawUp 8 = .ok (.istore_n 1, 1) := by decide +kernel
theorem dX0_drawUp_9 : decode cX0_drawUp 9 = .ok (.aload_n 0, 1) := by decide +kernel
theorem dX0_drawUp_10 : decode cX0_drawUp 10 = .ok (.sipush 600, 3) := by decide +kernel
theorem dX0_drawUp_13 : decode cX0_drawUp 13 = .ok (.putfield 21, 3) := by decide +kernel
theorem dX0_drawUp_16 : decode cX0_drawUp 16 = .ok (.aload_n 0, 1) := by decide +kernel
theorem dX0_drawUp_17 : decode cX0_drawUp 17 = .ok (.iconst 1, 1) := by decide +kernel
theorem dX0_drawUp_18 : decode cX0_drawUp 18 = .ok (.putfield 30, 3) := by decide +kernel
theorem dX0_drawUp_21 : decode cX0_drawUp 21 = .ok (.iload_n 1, 1) := by decide +kernel
theorem dX0_drawUp_22 : decode cX0_drawUp 22 = .ok (.ireturn, 1) := by decide +kernel
theorem dX0_fillOil_0 : decode cX0_fillOil 0 = .ok (.bipush 100, 2) := by decide +kernel
theorem dX0_fillOil_2 : decode cX0_fillOil 2 = .ok (.aload_n 0, 1) := by decide +kernel
theorem dX0_fillOil_3 : decode cX0_fillOil 3 = .ok (.getfield 24, 3) := by decide +kernel
theorem dX0_fillOil_6 : decode cX0_fillOil 6 = .ok (.isub, 1) := by decide +kernel
theorem dX0_fillOil_7 : decode cX0_fillOil 7 = .ok (.istore_n 1, 1) := by decide +kernel
theorem dX0_fillOil_8 : decode cX0_fillOil 8 = .ok (.aload_n 0, 1) := by decide +kernel
theorem dX0_fillOil_9 : decode cX0_fillOil 9 = .ok (.bipush 100, 2) := by decide +kernel
theorem dX0_fillOil_11 : decode cX0_fillOil 11 = .ok (.putfield 24, 3) := by decide +kernel
theorem dX0_fillOil_14 : decode cX0_fillOil 14 = .ok (.iload_n 1, 1) := by decide +kernel
theorem dX0_fillOil_15 : decode cX0_fillOil 15 = .ok (.ireturn, 1) := by decide +kernel
theorem dX0_patchBellows_0 : decode cX0_patchBellows 0 = .ok (.bipush 60, 2) := by decide +kernel
theorem dX0_patchBellows_2 : decode cX0_patchBellows 2 = .ok (.aload_n 0, 1) := by decide +kernel
theorem dX0_patchBellows_3 : decode cX0_patchBellows 3 = .ok (.getfield 27, 3) := by decide +kernel
theorem dX0_patchBellows_6 : decode cX0_patchBellows 6 = .ok (.isub, 1) := by decide +kernel
theorem dX0_patchBellows_7 : decode cX0_patchBellows 7 = .ok (.istore_n 1, 1) := by decide +kernel
theorem dX0_patchBellows_8 : decode cX0_patchBellows 8 = .ok (.aload_n 0, 1) := by decide +kernel
theorem dX0_patchBellows_9 : decode cX0_patchBellows 9 = .ok (.bipush 60, 2) := by decide +kernel
theorem dX0_patchBellows_11 : decode cX0_patchBellows 11 = .ok (.putfield 27, 3) := by decide +kernel
theorem dX0_patchBellows_14 : decode cX0_patchBellows 14 = .ok (.iload_n 1, 1) := by decide +kernel
theorem dX0_patchBellows_15 : decode cX0_patchBellows 15 = .ok (.ireturn, 1) := by decide +kernel
theorem dX0_nudge_0 : decode cX0_nudge 0 = .ok (.aload_n 0, 1) := by decide +kernel
theorem dX0_nudge_1 : decode cX0_nudge 1 = .ok (.aload_n 0, 1) := by decide +kernel
theorem dX0_nudge_2 : decode cX0_nudge 2 = .ok (.getfield 30, 3) := by decide +kernel
theorem dX0_nudge_5 : decode cX0_nudge 5 = .ok (.ifCond .ne 14, 3) := by decide +kernel
theorem dX0_nudge_8 : decode cX0_nudge 8 = .ok (.aload_n 0, 1) := by decide +kernel
theorem dX0_nudge_9 : decode cX0_nudge 9 = .ok (.getfield 21, 3) := by decide +kernel
theorem dX0_nudge_12 : decode cX0_nudge 12 = .ok (.ifCond .eq 7, 3) := by decide +kernel
theorem dX0_nudge_15 : decode cX0_nudge 15 = .ok (.iconst 1, 1) := by decide +kernel
theorem dX0_nudge_16 : decode cX0_nudge 16 = .ok (.goto 4, 3) := by decide +kernel
theorem dX0_nudge_19 : decode cX0_nudge 19 = .ok (.iconst 0, 1) := by decide +kernel
theorem dX0_nudge_20 : decode cX0_nudge 20 = .ok (.putfield 30, 3) := by decide +kernel
theorem dX0_nudge_23 : decode cX0_nudge 23 = .ok (.aload_n 0, 1) := by decide +kernel
theorem dX0_nudge_24 : decode cX0_nudge 24 = .ok (.getfield 30, 3) := by decide +kernel
theorem dX0_nudge_27 : decode cX0_nudge 27 = .ok (.ifCond .eq 7, 3) := by decide +kernel
theorem dX0_nudge_30 : decode cX0_nudge 30 = .ok (.iconst 1, 1) := by decide +kernel
theorem dX0_nudge_31 : decode cX0_nudge 31 = .ok (.goto 4, 3) := by decide +kernel
theorem dX0_nudge_34 : decode cX0_nudge 34 = .ok (.iconst 0, 1) := by decide +kernel
theorem dX0_nudge_35 : decode cX0_nudge 35 = .ok (.ireturn, 1) := by decide +kernel
theorem dX0_silence_0 : decode cX0_silence 0 = .ok (.aload_n 0, 1) := by decide +kernel
theorem dX0_silence_1 : decode cX0_silence 1 = .ok (.getfield 40, 3) := by decide +kernel
theorem dX0_silence_4 : decode cX0_silence 4 = .ok (.istore_n 3, 1) := by decide +kernel
theorem dX0_silence_5 : decode cX0_silence 5 = .ok (.aload_n 0, 1) := by decide +kernel
theorem dX0_silence_6 : decode cX0_silence 6 = .ok (.iload_n 1, 1) := by decide +kernel
theorem dX0_silence_7 : decode cX0_silence 7 = .ok (.putfield 40, 3) := by decide +kernel
theorem dX0_silence_10 : decode cX0_silence 10 = .ok (.aload_n 0, 1) := by decide +kernel
theorem dX0_silence_11 : decode cX0_silence 11 = .ok (.iload_n 2, 1) := by decide +kernel
theorem dX0_silence_12 : decode cX0_silence 12 = .ok (.putfield 43, 3) := by decide +kernel
theorem dX0_silence_15 : decode cX0_silence 15 = .ok (.iload_n 3, 1) := by decide +kernel
theorem dX0_silence_16 : decode cX0_silence 16 = .ok (.ireturn, 1) := by decide +kernel
set_option maxRecDepth 20000 in
theorem ggX0_advance_X0_advanceWith : GoodIn wsX0_advance wsX0_advanceWith := goodIn_r _ [7, 8, 9, 10, 11, 12, 13, 14, 15, 16, 17, 18, 19, 20, 21, 22, 23] (by decide +kernel) (by decide +kernel)
set_option maxRecDepth 20000 in
theorem gX0_advance_X0_advanceWith : GoodIn wsX0_advance (wsV RX0 55 RX0 yX0_advanceWith wsX0_advanceWith) := goodIn_app (goodIn_of _ (by decide +kernel)) ggX0_advance_X0_advanceWith
theorem dX0_advance_0 : decode cX0_advance 0 = .ok (.aload_n 0, 1) := by decide +kernel
theorem dX0_advance_1 : decode cX0_advance 1 = .ok (.aload_n 0, 1) := by decide +kernel
theorem dX0_advance_2 : decode cX0_advance 2 = .ok (.getfield 9, 3) := by decide +kernel
theorem dX0_advance_5 : decode cX0_advance 5 = .ok (.aload_n 0, 1) := by decide +kernel
theorem dX0_advance_6 : decode cX0_advance 6 = .ok (.getfield 15, 3) := by decide +kernel
theorem dX0_advance_9 : decode cX0_advance 9 = .ok (.invokevirtual 55, 3) := by decide +kernel
theorem dX0_advance_12 : decode cX0_advance 12 = .ok (.ireturn, 1) := by decide +kernel
theorem dX0_advanceWith_0 : decode cX0_advanceWith 0 = .ok (.iload_n 2, 1) := by decide +kernel
theorem dX0_advanceWith_1 : decode cX0_advanceWith 1 = .ok (.ifCond .ne 5, 3) := by decide +kernel
theorem dX0_advanceWith_4 : decode cX0_advanceWith 4 = .ok (.iconst 0, 1) := by decide +kernel
theorem dX0_advanceWith_5 : decode cX0_advanceWith 5 = .ok (.ireturn, 1) := by decide +kernel
theorem dX0_advanceWith_6 : decode cX0_advanceWith 6 = .ok (.sipush 900, 3) := by decide +kernel
theorem dX0_advanceWith_9 : decode cX0_advanceWith 9 = .ok (.iload_n 1, 1) := by decide +kernel
theorem dX0_advanceWith_10 : decode cX0_advanceWith 10 = .ok (.imul, 1) := by decide +kernel
theorem dX0_advanceWith_11 : decode cX0_advanceWith 11 = .ok (.iload_n 2, 1) := by decide +kernel
theorem dX0_advanceWith_12 : decode cX0_advanceWith 12 = .ok (.idiv, 1) := by decide +kernel
theorem dX0_advanceWith_13 : decode cX0_advanceWith 13 = .ok (.aload_n 0, 1) := by decide +kernel
theorem dX0_advanceWith_14 : decode cX0_advanceWith 14 = .ok (.getfield 18, 3) := by decide +kernel
theorem dX0_advanceWith_17 : decode cX0_advanceWith 17 = .ok (.iadd, 1) := by decide +kernel
theorem dX0_advanceWith_18 : decode cX0_advanceWith 18 = .ok (.istore_n 3, 1) := by decide +kernel
theorem dX0_advanceWith_19 : decode cX0_advanceWith 19 = .ok (.aload_n 0, 1) := by decide +kernel
theorem dX0_advanceWith_20 : decode cX0_advanceWith 20 = .ok (.getfield 24, 3) := by decide +kernel
theorem dX0_advanceWith_23 : decode cX0_advanceWith 23 = .ok (.bipush 20, 2) := by decide +kernel
theorem dX0_advanceWith_25 : decode cX0_advanceWith 25 = .ok (.if_icmp .ge 12, 3) := by decide +kernel
theorem dX0_advanceWith_28 : decode cX0_advanceWith 28 = .ok (.iload_n 3, 1) := by decide +kernel
theorem dX0_advanceWith_29 : decode cX0_advanceWith 29 = .ok (.iload_n 3, 1) := by decide +kernel
theorem dX0_advanceWith_30 : decode cX0_advanceWith 30 = .ok (.bipush 10, 2) := by decide +kernel
theorem dX0_advanceWith_32 : decode cX0_advanceWith 32 = .ok (.idiv, 1) := by decide +kernel
theorem dX0_advanceWith_33 : decode cX0_advanceWith 33 = .ok (.isub, 1) := by decide +kernel
theorem dX0_advanceWith_34 : decode cX0_advanceWith 34 = .ok (.goto 4, 3) := by decide +kernel
theorem dX0_advanceWith_37 : decode cX0_advanceWith 37 = .ok (.iload_n 3, 1) := by decide +kernel
theorem dX0_advanceWith_38 : decode cX0_advanceWith 38 = .ok (.ireturn, 1) := by decide +kernel
set_option maxRecDepth 20000 in
theorem ggX0_runMinute_X0_turn : GoodIn wsX0_runMinute wsX0_turn := goodIn_r _ [7, 8, 9, 10, 11, 12, 6, 13, 14, 15, 16, 17, 18, 19, 20, 21, 22, 23, 24, 25, 26, 27, 28, 29, 30, 31, 32, 33, 34, 35, 36, 37, 38, 39, 40, 1, 41, 47, 48, 49, 50, 51, 52, 53, 54, 55, 56, 57, 58, 59, 60] (by decide +kernel) (by decide +kernel)
set_option maxRecDepth 20000 in
theorem gX0_runMinute_X0_turn : GoodIn wsX0_runMinute (wsV RX0 66 RX0 yX0_turn wsX0_turn) := goodIn_app (goodIn_of _ (by decide +kernel)) ggX0_runMinute_X0_turn
set_option maxRecDepth 20000 in
theorem ggX0_runMinute_X0_wear : GoodIn wsX0_runMinute wsX0_wear := goodIn_r _ [45, 46, 21, 2, 47, 48, 49, 50, 51, 52, 53, 54, 55, 56, 57, 58, 59, 60] (by decide +kernel) (by decide +kernel)
set_option maxRecDepth 20000 in
theorem gX0_runMinute_X0_wear : GoodIn wsX0_runMinute (wsV RX0 69 RX0 yX0_wear wsX0_wear) := goodIn_app (goodIn_of _ (by decide +kernel)) ggX0_runMinute_X0_wear
theorem dX0_runMinute_0 : decode cX0_runMinute 0 = .ok (.aload_n 0, 1) := by decide +kernel
theorem dX0_runMinute_1 : decode cX0_runMinute 1 = .ok (.iconst 0, 1) := by decide +kernel
theorem dX0_runMinute_2 : decode cX0_runMinute 2 = .ok (.putfield 52, 3) := by decide +kernel
theorem dX0_runMinute_5 : decode cX0_runMinute 5 = .ok (.aload_n 0, 1) := by decide +kernel
theorem dX0_runMinute_6 : decode cX0_runMinute 6 = .ok (.getfield 30, 3) := by decide +kernel
theorem dX0_runMinute_9 : decode cX0_runMinute 9 = .ok (.ifCond .eq 12, 3) := by decide +kernel
theorem dX0_runMinute_12 : decode cX0_runMinute 12 = .ok (.aload_n 0, 1) := by decide +kernel
theorem dX0_runMinute_13 : decode cX0_runMinute 13 = .ok (.invokevirtual 66, 3) := by decide +kernel
theorem dX0_runMinute_16 : decode cX0_runMinute 16 = .ok (.aload_n 0, 1) := by decide +kernel
theorem dX0_runMinute_17 : decode cX0_runMinute 17 = .ok (.iload_n 1, 1) := by decide +kernel
theorem dX0_runMinute_18 : decode cX0_runMinute 18 = .ok (.invokevirtual 69, 3) := by decide +kernel
theorem dX0_runMinute_21 : decode cX0_runMinute 21 = .ok (.return_, 1) := by decide +kernel
set_option maxRecDepth 20000 in
theorem ggX0_turn_X0_advance : GoodIn wsX0_turn wsX0_advance := goodIn_r _ [7, 8, 9, 10, 11, 12, 6, 13, 14, 15, 37, 38, 39, 40, 41, 42, 43, 44, 45, 46, 47, 48, 49, 50] (by decide +kernel) (by decide +kernel)
set_option maxRecDepth 20000 in
theorem gX0_turn_X0_advance : GoodIn wsX0_turn (wsV RX0 73 RX0 yX0_advance wsX0_advance) := goodIn_app (goodIn_of _ (by decide +kernel)) ggX0_turn_X0_advance
set_option maxRecDepth 20000 in
theorem ggX0_turn_X0_isShutAt : GoodIn wsX0_turn wsX0_isShutAt := goodIn_r _ [19, 20, 21, 37, 38, 39, 40, 41, 42, 43, 44, 45, 46, 47, 48, 49, 50] (by decide +kernel) (by decide +kernel)
set_option maxRecDepth 20000 in
theorem gX0_turn_X0_isShutAt : GoodIn wsX0_turn (wsV RX0 77 RX0 yX0_isShutAt wsX0_isShutAt) := goodIn_app (goodIn_of _ (by decide +kernel)) ggX0_turn_X0_isShutAt
set_option maxRecDepth 20000 in
theorem ggX0_turn_X0_callsDueAt : GoodIn wsX0_turn wsX0_callsDueAt := goodIn_r _ [24] (by decide +kernel) (by decide +kernel)
set_option maxRecDepth 20000 in
theorem gX0_turn_X0_callsDueAt : GoodIn wsX0_turn (va_wsS RX0 81 yX0_callsDueAt wsX0_callsDueAt) := goodIn_app (goodIn_of _ (by decide +kernel)) ggX0_turn_X0_callsDueAt
set_option maxRecDepth 20000 in
theorem ggX0_turn_X0_cuckoo : GoodIn wsX0_turn wsX0_cuckoo := goodIn_r _ [28, 29, 30, 31, 32, 33, 34, 35, 36, 37, 38, 39, 40, 41, 42, 43, 44, 45, 46, 47, 48, 49, 50] (by decide +kernel) (by decide +kernel)
set_option maxRecDepth 20000 in
theorem gX0_turn_X0_cuckoo : GoodIn wsX0_turn (wsV RX0 84 RX0 yX0_cuckoo wsX0_cuckoo) := goodIn_app (goodIn_of _ (by decide +kernel)) ggX0_turn_X0_cuckoo
theorem dX0_turn_0 : decode cX0_turn 0 = .ok (.aload_n 0, 1) := by decide +kernel
theorem dX0_turn_1 : decode cX0_turn 1 = .ok (.getfield 37, 3) := by decide +kernel
theorem dX0_turn_4 : decode cX0_turn 4 = .ok (.aload_n 0, 1) := by decide +kernel
theorem dX0_turn_5 : decode cX0_turn 5 = .ok (.invokevirtual 73, 3) := by decide +kernel
theorem dX0_turn_8 : decode cX0_turn 8 = .ok (.iadd, 1) := by decide +kernel
theorem dX0_turn_9 : decode cX0_turn 9 = .ok (.istore_n 1, 1) := by decide +kernel
theorem dX0_turn_10 : decode cX0_turn 10 = .ok (.aload_n 0, 1) := by decide +kernel
theorem dX0_turn_11 : decode cX0_turn 11 = .ok (.iload_n 1, 1) := by decide +kernel
theorem dX0_turn_12 : decode cX0_turn 12 = .ok (.sipush 900, 3) := by decide +kernel
theorem dX0_turn_15 : decode cX0_turn 15 = .ok (.irem, 1) := by decide +kernel
theorem dX0_turn_16 : decode cX0_turn 16 = .ok (.putfield 37, 3) := by decide +kernel
theorem dX0_turn_19 : decode cX0_turn 19 = .ok (.iload_n 1, 1) := by decide +kernel
theorem dX0_turn_20 : decode cX0_turn 20 = .ok (.sipush 900, 3) := by decide +kernel
theorem dX0_turn_23 : decode cX0_turn 23 = .ok (.idiv, 1) := by decide +kernel
theorem dX0_turn_24 : decode cX0_turn 24 = .ok (.istore_n 2, 1) := by decide +kernel
theorem dX0_turn_25 : decode cX0_turn 25 = .ok (.iload_n 2, 1) := by decide +kernel
theorem dX0_turn_26 : decode cX0_turn 26 = .ok (.ifCond .le 45, 3) := by decide +kernel
theorem dX0_turn_29 : decode cX0_turn 29 = .ok (.aload_n 0, 1) := by decide +kernel
theorem dX0_turn_30 : decode cX0_turn 30 = .ok (.aload_n 0, 1) := by decide +kernel
theorem dX0_turn_31 : decode cX0_turn 31 = .ok (.getfield 34, 3) := by decide +kernel
theorem dX0_turn_34 : decode cX0_turn 34 = .ok (.iconst 1, 1) := by decide +kernel
theorem dX0_turn_35 : decode cX0_turn 35 = .ok (.iadd, 1) := by decide +kernel
theorem dX0_turn_36 : decode cX0_turn 36 = .ok (.sipush 720, 3) := by decide +kernel
theorem dX0_turn_39 : decode cX0_turn 39 = .ok (.irem, 1) := by decide +kernel
theorem dX0_turn_40 : decode cX0_turn 40 = .ok (.putfield 34, 3) := by decide +kernel
theorem dX0_turn_43 : decode cX0_turn 43 = .ok (.aload_n 0, 1) := by decide +kernel
theorem dX0_turn_44 : decode cX0_turn 44 = .ok (.aload_n 0, 1) := by decide +kernel
theorem dX0_turn_45 : decode cX0_turn 45 = .ok (.getfield 34, 3) := by decide +kernel
theorem dX0_turn_48 : decode cX0_turn 48 = .ok (.invokevirtual 77, 3) := by decide +kernel
theorem dX0_turn_51 : decode cX0_turn 51 = .ok (.ifCond .ne 14, 3) := by decide +kernel
theorem dX0_turn_54 : decode cX0_turn 54 = .ok (.aload_n 0, 1) := by decide +kernel
theorem dX0_turn_55 : decode cX0_turn 55 = .ok (.aload_n 0, 1) := by decide +kernel
theorem dX0_turn_56 : decode cX0_turn 56 = .ok (.getfield 34, 3) := by decide +kernel
theorem dX0_turn_59 : decode cX0_turn 59 = .ok (.invokestatic 81, 3) := by decide +kernel
theorem dX0_turn_62 : decode cX0_turn 62 = .ok (.invokevirtual 84, 3) := by decide +kernel
theorem dX0_turn_65 : decode cX0_turn 65 = .ok (.iinc 2 (-1), 3) := by decide +kernel
theorem dX0_turn_68 : decode cX0_turn 68 = .ok (.goto (-43), 3) := by decide +kernel
theorem dX0_turn_71 : decode cX0_turn 71 = .ok (.return_, 1) := by decide +kernel
theorem dX0_wear_0 : decode cX0_wear 0 = .ok (.aload_n 0, 1) := by decide +kernel
theorem dX0_wear_1 : decode cX0_wear 1 = .ok (.dup, 1) := by decide +kernel
theorem dX0_wear_2 : decode cX0_wear 2 = .ok (.getfield 21, 3) := by decide +kernel
theorem dX0_wear_5 : decode cX0_wear 5 = .ok (.iconst 1, 1) := by decide +kernel
theorem dX0_wear_6 : decode cX0_wear 6 = .ok (.isub, 1) := by decide +kernel
theorem dX0_wear_7 : decode cX0_wear 7 = .ok (.putfield 21, 3) := by decide +kernel
theorem dX0_wear_10 : decode cX0_wear 10 = .ok (.iload_n 1, 1) := by decide +kernel
theorem dX0_wear_11 : decode cX0_wear 11 = .ok (.bipush 10, 2) := by decide +kernel
theorem dX0_wear_13 : decode cX0_wear 13 = .ok (.irem, 1) := by decide +kernel
theorem dX0_wear_14 : decode cX0_wear 14 = .ok (.ifCond .ne 20, 3) := by decide +kernel
theorem dX0_wear_17 : decode cX0_wear 17 = .ok (.aload_n 0, 1) := by decide +kernel
theorem dX0_wear_18 : decode cX0_wear 18 = .ok (.getfield 24, 3) := by decide +kernel
theorem dX0_wear_21 : decode cX0_wear 21 = .ok (.ifCond .le 13, 3) := by decide +kernel
theorem dX0_wear_24 : decode cX0_wear 24 = .ok (.aload_n 0, 1) := by decide +kernel
theorem dX0_wear_25 : decode cX0_wear 25 = .ok (.dup, 1) := by decide +kernel
theorem dX0_wear_26 : decode cX0_wear 26 = .ok (.getfield 24, 3) := by decide +kernel
theorem dX0_wear_29 : decode cX0_wear 29 = .ok (.iconst 1, 1) := by decide +kernel
theorem dX0_wear_30 : decode cX0_wear 30 = .ok (.isub, 1) := by decide +kernel
theorem dX0_wear_31 : decode cX0_wear 31 = .ok (.putfield 24, 3) := by decide +kernel
theorem dX0_wear_34 : decode cX0_wear 34 = .ok (.aload_n 0, 1) := by decide +kernel
theorem dX0_wear_35 : decode cX0_wear 35 = .ok (.getfield 21, 3) := by decide +kernel
theorem dX0_wear_38 : decode cX0_wear 38 = .ok (.ifCond .gt 8, 3) := by decide +kernel
theorem dX0_wear_41 : decode cX0_wear 41 = .ok (.aload_n 0, 1) := by decide +kernel
theorem dX0_wear_42 : decode cX0_wear 42 = .ok (.iconst 0, 1) := by decide +kernel
theorem dX0_wear_43 : decode cX0_wear 43 = .ok (.putfield 30, 3) := by decide +kernel
theorem dX0_wear_46 : decode cX0_wear 46 = .ok (.return_, 1) := by decide +kernel
theorem dX0_callsDueAt_0 : decode cX0_callsDueAt 0 = .ok (.iload_n 0, 1) := by decide +kernel
theorem dX0_callsDueAt_1 : decode cX0_callsDueAt 1 = .ok (.ifCond .ne 6, 3) := by decide +kernel
theorem dX0_callsDueAt_4 : decode cX0_callsDueAt 4 = .ok (.bipush 12, 2) := by decide +kernel
theorem dX0_callsDueAt_6 : decode cX0_callsDueAt 6 = .ok (.ireturn, 1) := by decide +kernel
theorem dX0_callsDueAt_7 : decode cX0_callsDueAt 7 = .ok (.iload_n 0, 1) := by decide +kernel
theorem dX0_callsDueAt_8 : decode cX0_callsDueAt 8 = .ok (.bipush 60, 2) := by decide +kernel
theorem dX0_callsDueAt_10 : decode cX0_callsDueAt 10 = .ok (.irem, 1) := by decide +kernel
theorem dX0_callsDueAt_11 : decode cX0_callsDueAt 11 = .ok (.ifCond .ne 8, 3) := by decide +kernel
theorem dX0_callsDueAt_14 : decode cX0_callsDueAt 14 = .ok (.iload_n 0, 1) := by decide +kernel
theorem dX0_callsDueAt_15 : decode cX0_callsDueAt 15 = .ok (.bipush 60, 2) := by decide +kernel
theorem dX0_callsDueAt_17 : decode cX0_callsDueAt 17 = .ok (.idiv, 1) := by decide +kernel
theorem dX0_callsDueAt_18 : decode cX0_callsDueAt 18 = .ok (.ireturn, 1) := by decide +kernel
theorem dX0_callsDueAt_19 : decode cX0_callsDueAt 19 = .ok (.iload_n 0, 1) := by decide +kernel
theorem dX0_callsDueAt_20 : decode cX0_callsDueAt 20 = .ok (.bipush 30, 2) := by decide +kernel
theorem dX0_callsDueAt_22 : decode cX0_callsDueAt 22 = .ok (.irem, 1) := by decide +kernel
theorem dX0_callsDueAt_23 : decode cX0_callsDueAt 23 = .ok (.ifCond .ne 7, 3) := by decide +kernel
theorem dX0_callsDueAt_26 : decode cX0_callsDueAt 26 = .ok (.iconst 1, 1) := by decide +kernel
theorem dX0_callsDueAt_27 : decode cX0_callsDueAt 27 = .ok (.goto 4, 3) := by decide +kernel
theorem dX0_callsDueAt_30 : decode cX0_callsDueAt 30 = .ok (.iconst 0, 1) := by decide +kernel
theorem dX0_callsDueAt_31 : decode cX0_callsDueAt 31 = .ok (.ireturn, 1) := by decide +kernel
theorem dX0_cuckoo_0 : decode cX0_cuckoo 0 = .ok (.iload_n 1, 1) := by decide +kernel
theorem dX0_cuckoo_1 : decode cX0_cuckoo 1 = .ok (.aload_n 0, 1) := by decide +kernel
theorem dX0_cuckoo_2 : decode cX0_cuckoo 2 = .ok (.getfield 27, 3) := by decide +kernel
theorem dX0_cuckoo_5 : decode cX0_cuckoo 5 = .ok (.invokestatic 87, 3) := by decide +kernel
theorem dX0_cuckoo_8 : decode cX0_cuckoo 8 = .ok (.istore_n 2, 1) := by decide +kernel
theorem dX0_cuckoo_9 : decode cX0_cuckoo 9 = .ok (.aload_n 0, 1) := by decide +kernel
theorem dX0_cuckoo_10 : decode cX0_cuckoo 10 = .ok (.dup, 1) := by decide +kernel
theorem dX0_cuckoo_11 : decode cX0_cuckoo 11 = .ok (.getfield 27, 3) := by decide +kernel
theorem dX0_cuckoo_14 : decode cX0_cuckoo 14 = .ok (.iload_n 2, 1) := by decide +kernel
theorem dX0_cuckoo_15 : decode cX0_cuckoo 15 = .ok (.isub, 1) := by decide +kernel
theorem dX0_cuckoo_16 : decode cX0_cuckoo 16 = .ok (.putfield 27, 3) := by decide +kernel
theorem dX0_cuckoo_19 : decode cX0_cuckoo 19 = .ok (.aload_n 0, 1) := by decide +kernel
theorem dX0_cuckoo_20 : decode cX0_cuckoo 20 = .ok (.dup, 1) := by decide +kernel
theorem dX0_cuckoo_21 : decode cX0_cuckoo 21 = .ok (.getfield 46, 3) := by decide +kernel
theorem dX0_cuckoo_24 : decode cX0_cuckoo 24 = .ok (.iload_n 2, 1) := by decide +kernel
theorem dX0_cuckoo_25 : decode cX0_cuckoo 25 = .ok (.iadd, 1) := by decide +kernel
theorem dX0_cuckoo_26 : decode cX0_cuckoo 26 = .ok (.putfield 46, 3) := by decide +kernel
theorem dX0_cuckoo_29 : decode cX0_cuckoo 29 = .ok (.aload_n 0, 1) := by decide +kernel
theorem dX0_cuckoo_30 : decode cX0_cuckoo 30 = .ok (.dup, 1) := by decide +kernel
theorem dX0_cuckoo_31 : decode cX0_cuckoo 31 = .ok (.getfield 52, 3) := by decide +kernel
theorem dX0_cuckoo_34 : decode cX0_cuckoo 34 = .ok (.iload_n 2, 1) := by decide +kernel
theorem dX0_cuckoo_35 : decode cX0_cuckoo 35 = .ok (.iadd, 1) := by decide +kernel
theorem dX0_cuckoo_36 : decode cX0_cuckoo 36 = .ok (.putfield 52, 3) := by decide +kernel
theorem dX0_cuckoo_39 : decode cX0_cuckoo 39 = .ok (.aload_n 0, 1) := by decide +kernel
theorem dX0_cuckoo_40 : decode cX0_cuckoo 40 = .ok (.dup, 1) := by decide +kernel
theorem dX0_cuckoo_41 : decode cX0_cuckoo 41 = .ok (.getfield 49, 3) := by decide +kernel
theorem dX0_cuckoo_44 : decode cX0_cuckoo 44 = .ok (.iload_n 1, 1) := by decide +kernel
theorem dX0_cuckoo_45 : decode cX0_cuckoo 45 = .ok (.iload_n 2, 1) := by decide +kernel
theorem dX0_cuckoo_46 : decode cX0_cuckoo 46 = .ok (.isub, 1) := by decide +kernel
theorem dX0_cuckoo_47 : decode cX0_cuckoo 47 = .ok (.iadd, 1) := by decide +kernel
theorem dX0_cuckoo_48 : decode cX0_cuckoo 48 = .ok (.putfield 49, 3) := by decide +kernel
theorem dX0_cuckoo_51 : decode cX0_cuckoo 51 = .ok (.return_, 1) := by decide +kernel
theorem dX0_isShutAt_0 : decode cX0_isShutAt 0 = .ok (.aload_n 0, 1) := by decide +kernel
theorem dX0_isShutAt_1 : decode cX0_isShutAt 1 = .ok (.getfield 40, 3) := by decide +kernel
theorem dX0_isShutAt_4 : decode cX0_isShutAt 4 = .ok (.iconst (-1), 1) := by decide +kernel
theorem dX0_isShutAt_5 : decode cX0_isShutAt 5 = .ok (.if_icmp .ne 5, 3) := by decide +kernel
theorem dX0_isShutAt_8 : decode cX0_isShutAt 8 = .ok (.iconst 0, 1) := by decide +kernel
theorem dX0_isShutAt_9 : decode cX0_isShutAt 9 = .ok (.ireturn, 1) := by decide +kernel
theorem dX0_isShutAt_10 : decode cX0_isShutAt 10 = .ok (.aload_n 0, 1) := by decide +kernel
theorem dX0_isShutAt_11 : decode cX0_isShutAt 11 = .ok (.getfield 40, 3) := by decide +kernel
theorem dX0_isShutAt_14 : decode cX0_isShutAt 14 = .ok (.aload_n 0, 1) := by decide +kernel
theorem dX0_isShutAt_15 : decode cX0_isShutAt 15 = .ok (.getfield 43, 3) := by decide +kernel
theorem dX0_isShutAt_18 : decode cX0_isShutAt 18 = .ok (.if_icmp .ge 25, 3) := by decide +kernel
theorem dX0_isShutAt_21 : decode cX0_isShutAt 21 = .ok (.iload_n 1, 1) := by decide +kernel
theorem dX0_isShutAt_22 : decode cX0_isShutAt 22 = .ok (.aload_n 0, 1) := by decide +kernel
theorem dX0_isShutAt_23 : decode cX0_isShutAt 23 = .ok (.getfield 40, 3) := by decide +kernel
theorem dX0_isShutAt_26 : decode cX0_isShutAt 26 = .ok (.if_icmp .lt 15, 3) := by decide +kernel
theorem dX0_isShutAt_29 : decode cX0_isShutAt 29 = .ok (.iload_n 1, 1) := by decide +kernel
theorem dX0_isShutAt_30 : decode cX0_isShutAt 30 = .ok (.aload_n 0, 1) := by decide +kernel
theorem dX0_isShutAt_31 : decode cX0_isShutAt 31 = .ok (.getfield 43, 3) := by decide +kernel
theorem dX0_isShutAt_34 : decode cX0_isShutAt 34 = .ok (.if_icmp .ge 7, 3) := by decide +kernel
theorem dX0_isShutAt_37 : decode cX0_isShutAt 37 = .ok (.iconst 1, 1) := by decide +kernel
theorem dX0_isShutAt_38 : decode cX0_isShutAt 38 = .ok (.goto 4, 3) := by decide +kernel
theorem dX0_isShutAt_41 : decode cX0_isShutAt 41 = .ok (.iconst 0, 1) := by decide +kernel
theorem dX0_isShutAt_42 : decode cX0_isShutAt 42 = .ok (.ireturn, 1) := by decide +kernel
theorem dX0_isShutAt_43 : decode cX0_isShutAt 43 = .ok (.iload_n 1, 1) := by decide +kernel
theorem dX0_isShutAt_44 : decode cX0_isShutAt 44 = .ok (.aload_n 0, 1) := by decide +kernel
theorem dX0_isShutAt_45 : decode cX0_isShutAt 45 = .ok (.getfield 40, 3) := by decide +kernel
theorem dX0_isShutAt_48 : decode cX0_isShutAt 48 = .ok (.if_icmp .ge 11, 3) := by decide +kernel
theorem dX0_isShutAt_51 : decode cX0_isShutAt 51 = .ok (.iload_n 1, 1) := by decide +kernel
theorem dX0_isShutAt_52 : decode cX0_isShutAt 52 = .ok (.aload_n 0, 1) := by decide +kernel
theorem dX0_isShutAt_53 : decode cX0_isShutAt 53 = .ok (.getfield 43, 3) := by decide +kernel
theorem dX0_isShutAt_56 : decode cX0_isShutAt 56 = .ok (.if_icmp .ge 7, 3) := by decide +kernel
theorem dX0_isShutAt_59 : decode cX0_isShutAt 59 = .ok (.iconst 1, 1) := by decide +kernel
theorem dX0_isShutAt_60 : decode cX0_isShutAt 60 = .ok (.goto 4, 3) := by decide +kernel
theorem dX0_isShutAt_63 : decode cX0_isShutAt 63 = .ok (.iconst 0, 1) := by decide +kernel
theorem dX0_isShutAt_64 : decode cX0_isShutAt 64 = .ok (.ireturn, 1) := by decide +kernel
theorem dX0_minutesToStand_0 : decode cX0_minutesToStand 0 = .ok (.aload_n 0, 1) := by decide +kernel
theorem dX0_minutesToStand_1 : decode cX0_minutesToStand 1 = .ok (.getfield 30, 3) := by decide +kernel
theorem dX0_minutesToStand_4 : decode cX0_minutesToStand 4 = .ok (.ifCond .eq 10, 3) := by decide +kernel
theorem dX0_minutesToStand_7 : decode cX0_minutesToStand 7 = .ok (.aload_n 0, 1) := by decide +kernel
theorem dX0_minutesToStand_8 : decode cX0_minutesToStand 8 = .ok (.getfield 21, 3) := by decide +kernel
theorem dX0_minutesToStand_11 : decode cX0_minutesToStand 11 = .ok (.goto 4, 3) := by decide +kernel
theorem dX0_minutesToStand_14 : decode cX0_minutesToStand 14 = .ok (.iconst 0, 1) := by decide +kernel
theorem dX0_minutesToStand_15 : decode cX0_minutesToStand 15 = .ok (.ireturn, 1) := by decide +kernel
set_option maxRecDepth 20000 in
theorem ggX0_reading_X0_advance : GoodIn wsX0_reading wsX0_advance := goodIn_r _ [14, 15, 16, 17, 18, 19, 13, 20, 21, 4, 28, 29, 30, 31, 32, 33, 34, 35, 36, 37, 38, 39, 40, 41] (by decide +kernel) (by decide +kernel)
set_option maxRecDepth 20000 in
theorem gX0_reading_X0_advance : GoodIn wsX0_reading (wsV RX0 73 RX0 yX0_advance wsX0_advance) := goodIn_app (goodIn_of _ (by decide +kernel)) ggX0_reading_X0_advance
set_option maxRecDepth 20000 in
theorem ggX0_reading_X0_isShutAt : GoodIn wsX0_reading wsX0_isShutAt := goodIn_r _ [25, 26, 27, 28, 29, 30, 31, 32, 33, 34, 35, 36, 37, 38, 39, 40, 41] (by decide +kernel) (by decide +kernel)
set_option maxRecDepth 20000 in
theorem gX0_reading_X0_isShutAt : GoodIn wsX0_reading (wsV RX0 77 RX0 yX0_isShutAt wsX0_isShutAt) := goodIn_app (goodIn_of _ (by decide +kernel)) ggX0_reading_X0_isShutAt
theorem dX0_reading_0 : decode cX0_reading 0 = .ok (.iload_n 1, 1) := by decide +kernel
theorem dX0_reading_1 : decode cX0_reading 1 = .ok (.tableswitch 113 0 9 #[55, 60, 65, 70, 75, 80, 93, 98, 103, 108], 55) := by decide +kernel
theorem dX0_reading_56 : decode cX0_reading 56 = .ok (.aload_n 0, 1) := by decide +kernel
theorem dX0_reading_57 : decode cX0_reading 57 = .ok (.getfield 34, 3) := by decide +kernel
theorem dX0_reading_60 : decode cX0_reading 60 = .ok (.ireturn, 1) := by decide +kernel
theorem dX0_reading_61 : decode cX0_reading 61 = .ok (.aload_n 0, 1) := by decide +kernel
theorem dX0_reading_62 : decode cX0_reading 62 = .ok (.getfield 37, 3) := by decide +kernel
theorem dX0_reading_65 : decode cX0_reading 65 = .ok (.ireturn, 1) := by decide +kernel
theorem dX0_reading_66 : decode cX0_reading 66 = .ok (.aload_n 0, 1) := by decide +kernel
theorem dX0_reading_67 : decode cX0_reading 67 = .ok (.getfield 21, 3) := by decide +kernel
theorem dX0_reading_70 : decode cX0_reading 70 = .ok (.ireturn, 1) := by decide +kernel
theorem dX0_reading_71 : decode cX0_reading 71 = .ok (.aload_n 0, 1) := by decide +kernel
theorem dX0_reading_72 : decode cX0_reading 72 = .ok (.getfield 24, 3) := by decide +kernel
theorem dX0_reading_75 : decode cX0_reading 75 = .ok (.ireturn, 1) := by decide +kernel
theorem dX0_reading_76 : decode cX0_reading 76 = .ok (.aload_n 0, 1) := by decide +kernel
theorem dX0_reading_77 : decode cX0_reading 77 = .ok (.getfield 27, 3) := by decide +kernel
theorem dX0_reading_80 : decode cX0_reading 80 = .ok (.ireturn, 1) := by decide +kernel
theorem dX0_reading_81 : decode cX0_reading 81 = .ok (.aload_n 0, 1) := by decide +kernel
theorem dX0_reading_82 : decode cX0_reading 82 = .ok (.getfield 30, 3) := by decide +kernel
theorem dX0_reading_85 : decode cX0_reading 85 = .ok (.ifCond .eq 7, 3) := by decide +kernel
theorem dX0_reading_88 : decode cX0_reading 88 = .ok (.iconst 1, 1) := by decide +kernel
theorem dX0_reading_89 : decode cX0_reading 89 = .ok (.goto 4, 3) := by decide +kernel
theorem dX0_reading_92 : decode cX0_reading 92 = .ok (.iconst 0, 1) := by decide +kernel
theorem dX0_reading_93 : decode cX0_reading 93 = .ok (.ireturn, 1) := by decide +kernel
theorem dX0_reading_94 : decode cX0_reading 94 = .ok (.aload_n 0, 1) := by decide +kernel
theorem dX0_reading_95 : decode cX0_reading 95 = .ok (.invokevirtual 73, 3) := by decide +kernel
theorem dX0_reading_98 : decode cX0_reading 98 = .ok (.ireturn, 1) := by decide +kernel
theorem dX0_reading_99 : decode cX0_reading 99 = .ok (.aload_n 0, 1) := by decide +kernel
theorem dX0_reading_100 : decode cX0_reading 100 = .ok (.getfield 46, 3) := by decide +kernel
theorem dX0_reading_103 : decode cX0_reading 103 = .ok (.ireturn, 1) := by decide +kernel
theorem dX0_reading_104 : decode cX0_reading 104 = .ok (.aload_n 0, 1) := by decide +kernel
theorem dX0_reading_105 : decode cX0_reading 105 = .ok (.getfield 49, 3) := by decide +kernel
theorem dX0_reading_108 : decode cX0_reading 108 = .ok (.ireturn, 1) := by decide +kernel
theorem dX0_reading_109 : decode cX0_reading 109 = .ok (.aload_n 0, 1) := by decide +kernel
theorem dX0_reading_110 : decode cX0_reading 110 = .ok (.getfield 52, 3) := by decide +kernel
theorem dX0_reading_113 : decode cX0_reading 113 = .ok (.ireturn, 1) := by decide +kernel
theorem dX0_reading_114 : decode cX0_reading 114 = .ok (.aload_n 0, 1) := by decide +kernel
theorem dX0_reading_115 : decode cX0_reading 115 = .ok (.aload_n 0, 1) := by decide +kernel
theorem dX0_reading_116 : decode cX0_reading 116 = .ok (.getfield 34, 3) := by decide +kernel
theorem dX0_reading_119 : decode cX0_reading 119 = .ok (.invokevirtual 77, 3) := by decide +kernel
theorem dX0_reading_122 : decode cX0_reading 122 = .ok (.ifCond .eq 7, 3) := by decide +kernel
theorem dX0_reading_125 : decode cX0_reading 125 = .ok (.iconst 1, 1) := by decide +kernel
theorem dX0_reading_126 : decode cX0_reading 126 = .ok (.goto 4, 3) := by decide +kernel
theorem dX0_reading_129 : decode cX0_reading 129 = .ok (.iconst 0, 1) := by decide +kernel
theorem dX0_reading_130 : decode cX0_reading 130 = .ok (.ireturn, 1) := by decide +kernel
