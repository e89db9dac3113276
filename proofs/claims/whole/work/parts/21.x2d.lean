theorem dX2_init_0 : decode cX2_init 0 = .ok (.aload_n 0, 1) := by decide +kernel
theorem dX2_init_1 : decode cX2_init 1 = .ok (.invokespecial 1, 3) := by decide +kernel
theorem dX2_init_4 : decode cX2_init 4 = .ok (.aload_n 0, 1) := by decide +kernel
theorem dX2_init_5 : decode cX2_init 5 = .ok (.sipush 140, 3) := by decide +kernel
theorem dX2_init_8 : decode cX2_init 8 = .ok (.newarray .int, 2) := by decide +kernel
theorem dX2_init_10 : decode cX2_init 10 = .ok (.putfield 9, 3) := by decide +kernel
theorem dX2_init_13 : decode cX2_init 13 = .ok (.aload_n 0, 1) := by decide +kernel
theorem dX2_init_14 : decode cX2_init 14 = .ok (.iconst 1, 1) := by decide +kernel
theorem dX2_init_15 : decode cX2_init 15 = .ok (.newarray .int, 2) := by decide +kernel
theorem dX2_init_17 : decode cX2_init 17 = .ok (.dup, 1) := by decide +kernel
theorem dX2_init_18 : decode cX2_init 18 = .ok (.iconst 0, 1) := by decide +kernel
theorem dX2_init_19 : decode cX2_init 19 = .ok (.iconst 0, 1) := by decide +kernel
theorem dX2_init_20 : decode cX2_init 20 = .ok (.iastore, 1) := by decide +kernel
theorem dX2_init_21 : decode cX2_init 21 = .ok (.putfield 13, 3) := by decide +kernel
theorem dX2_init_24 : decode cX2_init 24 = .ok (.return_, 1) := by decide +kernel
theorem dX2_thrown_0 : decode cX2_thrown 0 = .ok (.aload_n 0, 1) := by decide +kernel
theorem dX2_thrown_1 : decode cX2_thrown 1 = .ok (.getfield 16, 3) := by decide +kernel
theorem dX2_thrown_4 : decode cX2_thrown 4 = .ok (.ireturn, 1) := by decide +kernel
theorem dX2_fail_0 : decode cX2_fail 0 = .ok (.aload_n 0, 1) := by decide +kernel
theorem dX2_fail_1 : decode cX2_fail 1 = .ok (.iload_n 1, 1) := by decide +kernel
theorem dX2_fail_2 : decode cX2_fail 2 = .ok (.putfield 16, 3) := by decide +kernel
theorem dX2_fail_5 : decode cX2_fail 5 = .ok (.iconst 0, 1) := by decide +kernel
theorem dX2_fail_6 : decode cX2_fail 6 = .ok (.ireturn, 1) := by decide +kernel
theorem dX2_isIn_0 : decode cX2_isIn 0 = .ok (.iload_n 0, 1) := by decide +kernel
theorem dX2_isIn_1 : decode cX2_isIn 1 = .ok (.iload_n 1, 1) := by decide +kernel
theorem dX2_isIn_2 : decode cX2_isIn 2 = .ok (.if_icmp .lt 12, 3) := by decide +kernel
theorem dX2_isIn_5 : decode cX2_isIn 5 = .ok (.iload_n 0, 1) := by decide +kernel
theorem dX2_isIn_6 : decode cX2_isIn 6 = .ok (.iload_n 2, 1) := by decide +kernel
theorem dX2_isIn_7 : decode cX2_isIn 7 = .ok (.if_icmp .gt 7, 3) := by decide +kernel
theorem dX2_isIn_10 : decode cX2_isIn 10 = .ok (.iconst 1, 1) := by decide +kernel
theorem dX2_isIn_11 : decode cX2_isIn 11 = .ok (.goto 4, 3) := by decide +kernel
theorem dX2_isIn_14 : decode cX2_isIn 14 = .ok (.iconst 0, 1) := by decide +kernel
theorem dX2_isIn_15 : decode cX2_isIn 15 = .ok (.ireturn, 1) := by decide +kernel
set_option maxRecDepth 20000 in
theorem ggX2_isClock_X2_isIn : GoodIn wsX2_isClock wsX2_isIn := goodIn_r _ [5] (by decide +kernel) (by decide +kernel)
set_option maxRecDepth 20000 in
theorem gX2_isClock_X2_isIn : GoodIn wsX2_isClock (va_wsS RX2 23 yX2_isIn wsX2_isIn) := goodIn_app (goodIn_of _ (by decide +kernel)) ggX2_isClock_X2_isIn
theorem dX2_isClock_0 : decode cX2_isClock 0 = .ok (.iload_n 1, 1) := by decide +kernel
theorem dX2_isClock_1 : decode cX2_isClock 1 = .ok (.iconst 0, 1) := by decide +kernel
theorem dX2_isClock_2 : decode cX2_isClock 2 = .ok (.aload_n 0, 1) := by decide +kernel
theorem dX2_isClock_3 : decode cX2_isClock 3 = .ok (.getfield 20, 3) := by decide +kernel
theorem dX2_isClock_6 : decode cX2_isClock 6 = .ok (.iconst 1, 1) := by decide +kernel
theorem dX2_isClock_7 : decode cX2_isClock 7 = .ok (.isub, 1) := by decide +kernel
theorem dX2_isClock_8 : decode cX2_isClock 8 = .ok (.invokestatic 23, 3) := by decide +kernel
theorem dX2_isClock_11 : decode cX2_isClock 11 = .ok (.ireturn, 1) := by decide +kernel
theorem dX2_sh_0 : decode cX2_sh 0 = .ok (.aload_n 0, 1) := by decide +kernel
theorem dX2_sh_1 : decode cX2_sh 1 = .ok (.getfield 9, 3) := by decide +kernel
theorem dX2_sh_4 : decode cX2_sh 4 = .ok (.bipush 14, 2) := by decide +kernel
theorem dX2_sh_6 : decode cX2_sh 6 = .ok (.iload_n 1, 1) := by decide +kernel
theorem dX2_sh_7 : decode cX2_sh 7 = .ok (.imul, 1) := by decide +kernel
theorem dX2_sh_8 : decode cX2_sh 8 = .ok (.iload_n 2, 1) := by decide +kernel
theorem dX2_sh_9 : decode cX2_sh 9 = .ok (.iadd, 1) := by decide +kernel
theorem dX2_sh_10 : decode cX2_sh 10 = .ok (.iaload, 1) := by decide +kernel
theorem dX2_sh_11 : decode cX2_sh 11 = .ok (.ireturn, 1) := by decide +kernel
theorem dX2_put_0 : decode cX2_put 0 = .ok (.aload_n 0, 1) := by decide +kernel
theorem dX2_put_1 : decode cX2_put 1 = .ok (.getfield 9, 3) := by decide +kernel
theorem dX2_put_4 : decode cX2_put 4 = .ok (.bipush 14, 2) := by decide +kernel
theorem dX2_put_6 : decode cX2_put 6 = .ok (.iload_n 1, 1) := by decide +kernel
theorem dX2_put_7 : decode cX2_put 7 = .ok (.imul, 1) := by decide +kernel
theorem dX2_put_8 : decode cX2_put 8 = .ok (.iload_n 2, 1) := by decide +kernel
theorem dX2_put_9 : decode cX2_put 9 = .ok (.iadd, 1) := by decide +kernel
theorem dX2_put_10 : decode cX2_put 10 = .ok (.iload_n 3, 1) := by decide +kernel
theorem dX2_put_11 : decode cX2_put 11 = .ok (.iastore, 1) := by decide +kernel
theorem dX2_put_12 : decode cX2_put 12 = .ok (.return_, 1) := by decide +kernel
theorem dX2_add_0 : decode cX2_add 0 = .ok (.aload_n 0, 1) := by decide +kernel
theorem dX2_add_1 : decode cX2_add 1 = .ok (.getfield 9, 3) := by decide +kernel
theorem dX2_add_4 : decode cX2_add 4 = .ok (.bipush 14, 2) := by decide +kernel
theorem dX2_add_6 : decode cX2_add 6 = .ok (.iload_n 1, 1) := by decide +kernel
theorem dX2_add_7 : decode cX2_add 7 = .ok (.imul, 1) := by decide +kernel
theorem dX2_add_8 : decode cX2_add 8 = .ok (.iload_n 2, 1) := by decide +kernel
theorem dX2_add_9 : decode cX2_add 9 = .ok (.iadd, 1) := by decide +kernel
theorem dX2_add_10 : decode cX2_add 10 = .ok (.dup2, 1) := by decide +kernel
theorem dX2_add_11 : decode cX2_add 11 = .ok (.iaload, 1) := by decide +kernel
theorem dX2_add_12 : decode cX2_add 12 = .ok (.iload_n 3, 1) := by decide +kernel
theorem dX2_add_13 : decode cX2_add 13 = .ok (.iadd, 1) := by decide +kernel
theorem dX2_add_14 : decode cX2_add 14 = .ok (.iastore, 1) := by decide +kernel
theorem dX2_add_15 : decode cX2_add 15 = .ok (.return_, 1) := by decide +kernel
set_option maxRecDepth 20000 in
theorem ggX2_come_X2_isIn : GoodIn wsX2_come wsX2_isIn := goodIn_r _ [12] (by decide +kernel) (by decide +kernel)
set_option maxRecDepth 20000 in
theorem gX2_come_X2_isIn : GoodIn wsX2_come (va_wsS RX2 23 yX2_isIn wsX2_isIn) := goodIn_app (goodIn_of _ (by decide +kernel)) ggX2_come_X2_isIn
set_option maxRecDepth 20000 in
theorem ggX2_come_X2_fail : GoodIn wsX2_come wsX2_fail := goodIn_r _ [16, 1, 17, 18, 19, 20] (by decide +kernel) (by decide +kernel)
set_option maxRecDepth 20000 in
theorem gX2_come_X2_fail : GoodIn wsX2_come (wsV RX2 27 RX2 yX2_fail wsX2_fail) := goodIn_app (goodIn_of _ (by decide +kernel)) ggX2_come_X2_fail
theorem dX2_come_0 : decode cX2_come 0 = .ok (.aload_n 0, 1) := by decide +kernel
theorem dX2_come_1 : decode cX2_come 1 = .ok (.iconst 0, 1) := by decide +kernel
theorem dX2_come_2 : decode cX2_come 2 = .ok (.putfield 16, 3) := by decide +kernel
theorem dX2_come_5 : decode cX2_come 5 = .ok (.iload_n 1, 1) := by decide +kernel
theorem dX2_come_6 : decode cX2_come 6 = .ok (.iconst 0, 1) := by decide +kernel
theorem dX2_come_7 : decode cX2_come 7 = .ok (.sipush 719, 3) := by decide +kernel
theorem dX2_come_10 : decode cX2_come 10 = .ok (.invokestatic 23, 3) := by decide +kernel
theorem dX2_come_13 : decode cX2_come 13 = .ok (.ifCond .ne 9, 3) := by decide +kernel
theorem dX2_come_16 : decode cX2_come 16 = .ok (.aload_n 0, 1) := by decide +kernel
theorem dX2_come_17 : decode cX2_come 17 = .ok (.iconst 1, 1) := by decide +kernel
theorem dX2_come_18 : decode cX2_come 18 = .ok (.invokevirtual 27, 3) := by decide +kernel
theorem dX2_come_21 : decode cX2_come 21 = .ok (.ireturn, 1) := by decide +kernel
theorem dX2_come_22 : decode cX2_come 22 = .ok (.aload_n 0, 1) := by decide +kernel
theorem dX2_come_23 : decode cX2_come 23 = .ok (.getfield 20, 3) := by decide +kernel
theorem dX2_come_26 : decode cX2_come 26 = .ok (.bipush 10, 2) := by decide +kernel
theorem dX2_come_28 : decode cX2_come 28 = .ok (.if_icmp .ne 9, 3) := by decide +kernel
theorem dX2_come_31 : decode cX2_come 31 = .ok (.aload_n 0, 1) := by decide +kernel
theorem dX2_come_32 : decode cX2_come 32 = .ok (.iconst 2, 1) := by decide +kernel
theorem dX2_come_33 : decode cX2_come 33 = .ok (.invokevirtual 27, 3) := by decide +kernel
theorem dX2_come_36 : decode cX2_come 36 = .ok (.ireturn, 1) := by decide +kernel
theorem dX2_come_37 : decode cX2_come 37 = .ok (.bipush 14, 2) := by decide +kernel
theorem dX2_come_39 : decode cX2_come 39 = .ok (.newarray .int, 2) := by decide +kernel
theorem dX2_come_41 : decode cX2_come 41 = .ok (.dup, 1) := by decide +kernel
theorem dX2_come_42 : decode cX2_come 42 = .ok (.iconst 0, 1) := by decide +kernel
theorem dX2_come_43 : decode cX2_come 43 = .ok (.iload_n 1, 1) := by decide +kernel
theorem dX2_come_44 : decode cX2_come 44 = .ok (.iastore, 1) := by decide +kernel
theorem dX2_come_45 : decode cX2_come 45 = .ok (.dup, 1) := by decide +kernel
theorem dX2_come_46 : decode cX2_come 46 = .ok (.iconst 1, 1) := by decide +kernel
theorem dX2_come_47 : decode cX2_come 47 = .ok (.iconst 0, 1) := by decide +kernel
theorem dX2_come_48 : decode cX2_come 48 = .ok (.iastore, 1) := by decide +kernel
theorem dX2_come_49 : decode cX2_come 49 = .ok (.dup, 1) := by decide +kernel
theorem dX2_come_50 : decode cX2_come 50 = .ok (.iconst 2, 1) := by decide +kernel
theorem dX2_come_51 : decode cX2_come 51 = .ok (.sipush 600, 3) := by decide +kernel
theorem dX2_come_54 : decode cX2_come 54 = .ok (.iastore, 1) := by decide +kernel
theorem dX2_come_55 : decode cX2_come 55 = .ok (.dup, 1) := by decide +kernel
theorem dX2_come_56 : decode cX2_come 56 = .ok (.iconst 3, 1) := by decide +kernel
theorem dX2_come_57 : decode cX2_come 57 = .ok (.bipush 100, 2) := by decide +kernel
theorem dX2_come_59 : decode cX2_come 59 = .ok (.iastore, 1) := by decide +kernel
theorem dX2_come_60 : decode cX2_come 60 = .ok (.dup, 1) := by decide +kernel
theorem dX2_come_61 : decode cX2_come 61 = .ok (.iconst 4, 1) := by decide +kernel
theorem dX2_come_62 : decode cX2_come 62 = .ok (.bipush 60, 2) := by decide +kernel
theorem dX2_come_64 : decode cX2_come 64 = .ok (.iastore, 1) := by decide +kernel
theorem dX2_come_65 : decode cX2_come 65 = .ok (.dup, 1) := by decide +kernel
theorem dX2_come_66 : decode cX2_come 66 = .ok (.iconst 5, 1) := by decide +kernel
theorem dX2_come_67 : decode cX2_come 67 = .ok (.iconst 1, 1) := by decide +kernel
theorem dX2_come_68 : decode cX2_come 68 = .ok (.iastore, 1) := by decide +kernel
theorem dX2_come_69 : decode cX2_come 69 = .ok (.dup, 1) := by decide +kernel
theorem dX2_come_70 : decode cX2_come 70 = .ok (.bipush 6, 2) := by decide +kernel
theorem dX2_come_72 : decode cX2_come 72 = .ok (.iconst 0, 1) := by decide +kernel
theorem dX2_come_73 : decode cX2_come 73 = .ok (.iastore, 1) := by decide +kernel
theorem dX2_come_74 : decode cX2_come 74 = .ok (.dup, 1) := by decide +kernel
theorem dX2_come_75 : decode cX2_come 75 = .ok (.bipush 7, 2) := by decide +kernel
theorem dX2_come_77 : decode cX2_come 77 = .ok (.iconst 0, 1) := by decide +kernel
theorem dX2_come_78 : decode cX2_come 78 = .ok (.iastore, 1) := by decide +kernel
theorem dX2_come_79 : decode cX2_come 79 = .ok (.dup, 1) := by decide +kernel
theorem dX2_come_80 : decode cX2_come 80 = .ok (.bipush 8, 2) := by decide +kernel
theorem dX2_come_82 : decode cX2_come 82 = .ok (.iconst 0, 1) := by decide +kernel
theorem dX2_come_83 : decode cX2_come 83 = .ok (.iastore, 1) := by decide +kernel
theorem dX2_come_84 : decode cX2_come 84 = .ok (.dup, 1) := by decide +kernel
theorem dX2_come_85 : decode cX2_come 85 = .ok (.bipush 9, 2) := by decide +kernel
theorem dX2_come_87 : decode cX2_come 87 = .ok (.bipush 30, 2) := by decide +kernel
theorem dX2_come_89 : decode cX2_come 89 = .ok (.iastore, 1) := by decide +kernel
theorem dX2_come_90 : decode cX2_come 90 = .ok (.dup, 1) := by decide +kernel
theorem dX2_come_91 : decode cX2_come 91 = .ok (.bipush 10, 2) := by decide +kernel
theorem dX2_come_93 : decode cX2_come 93 = .ok (.bipush 30, 2) := by decide +kernel
theorem dX2_come_95 : decode cX2_come 95 = .ok (.iastore, 1) := by decide +kernel
theorem dX2_come_96 : decode cX2_come 96 = .ok (.dup, 1) := by decide +kernel
theorem dX2_come_97 : decode cX2_come 97 = .ok (.bipush 11, 2) := by decide +kernel
theorem dX2_come_99 : decode cX2_come 99 = .ok (.iconst 0, 1) := by decide +kernel
theorem dX2_come_100 : decode cX2_come 100 = .ok (.iastore, 1) := by decide +kernel
theorem dX2_come_101 : decode cX2_come 101 = .ok (.dup, 1) := by decide +kernel
theorem dX2_come_102 : decode cX2_come 102 = .ok (.bipush 12, 2) := by decide +kernel
theorem dX2_come_104 : decode cX2_come 104 = .ok (.iconst (-1), 1) := by decide +kernel
theorem dX2_come_105 : decode cX2_come 105 = .ok (.iastore, 1) := by decide +kernel
theorem dX2_come_106 : decode cX2_come 106 = .ok (.dup, 1) := by decide +kernel
theorem dX2_come_107 : decode cX2_come 107 = .ok (.bipush 13, 2) := by decide +kernel
theorem dX2_come_109 : decode cX2_come 109 = .ok (.iconst 0, 1) := by decide +kernel
theorem dX2_come_110 : decode cX2_come 110 = .ok (.iastore, 1) := by decide +kernel
theorem dX2_come_111 : decode cX2_come 111 = .ok (.astore_n 2, 1) := by decide +kernel
theorem dX2_come_112 : decode cX2_come 112 = .ok (.aload_n 2, 1) := by decide +kernel
theorem dX2_come_113 : decode cX2_come 113 = .ok (.iconst 0, 1) := by decide +kernel
theorem dX2_come_114 : decode cX2_come 114 = .ok (.aload_n 0, 1) := by decide +kernel
theorem dX2_come_115 : decode cX2_come 115 = .ok (.getfield 9, 3) := by decide +kernel
theorem dX2_come_118 : decode cX2_come 118 = .ok (.bipush 14, 2) := by decide +kernel
theorem dX2_come_120 : decode cX2_come 120 = .ok (.aload_n 0, 1) := by decide +kernel
theorem dX2_come_121 : decode cX2_come 121 = .ok (.getfield 20, 3) := by decide +kernel
theorem dX2_come_124 : decode cX2_come 124 = .ok (.imul, 1) := by decide +kernel
theorem dX2_come_125 : decode cX2_come 125 = .ok (.bipush 14, 2) := by decide +kernel
theorem dX2_come_127 : decode cX2_come 127 = .ok (.invokestatic 31, 3) := by decide +kernel
theorem dX2_come_130 : decode cX2_come 130 = .ok (.aload_n 0, 1) := by decide +kernel
theorem dX2_come_131 : decode cX2_come 131 = .ok (.dup, 1) := by decide +kernel
theorem dX2_come_132 : decode cX2_come 132 = .ok (.getfield 20, 3) := by decide +kernel
theorem dX2_come_135 : decode cX2_come 135 = .ok (.iconst 1, 1) := by decide +kernel
theorem dX2_come_136 : decode cX2_come 136 = .ok (.iadd, 1) := by decide +kernel
theorem dX2_come_137 : decode cX2_come 137 = .ok (.putfield 20, 3) := by decide +kernel
theorem dX2_come_140 : decode cX2_come 140 = .ok (.aload_n 0, 1) := by decide +kernel
theorem dX2_come_141 : decode cX2_come 141 = .ok (.getfield 20, 3) := by decide +kernel
theorem dX2_come_144 : decode cX2_come 144 = .ok (.iconst 1, 1) := by decide +kernel
theorem dX2_come_145 : decode cX2_come 145 = .ok (.isub, 1) := by decide +kernel
theorem dX2_come_146 : decode cX2_come 146 = .ok (.ireturn, 1) := by decide +kernel
set_option maxRecDepth 20000 in
theorem ggX2_advance_X2_sh : GoodIn wsX2_advance wsX2_sh := goodIn_r _ [5, 6, 7, 8, 9, 10] (by decide +kernel) (by decide +kernel)
set_option maxRecDepth 20000 in
theorem gX2_advance_X2_sh : GoodIn wsX2_advance (wsV RX2 37 RX2 yX2_sh wsX2_sh) := goodIn_app (goodIn_of _ (by decide +kernel)) ggX2_advance_X2_sh
theorem dX2_advance_0 : decode cX2_advance 0 = .ok (.sipush 900, 3) := by decide +kernel
theorem dX2_advance_3 : decode cX2_advance 3 = .ok (.iload_n 2, 1) := by decide +kernel
theorem dX2_advance_4 : decode cX2_advance 4 = .ok (.imul, 1) := by decide +kernel
theorem dX2_advance_5 : decode cX2_advance 5 = .ok (.iload_n 3, 1) := by decide +kernel
theorem dX2_advance_6 : decode cX2_advance 6 = .ok (.idiv, 1) := by decide +kernel
theorem dX2_advance_7 : decode cX2_advance 7 = .ok (.aload_n 0, 1) := by decide +kernel
theorem dX2_advance_8 : decode cX2_advance 8 = .ok (.iload_n 1, 1) := by decide +kernel
theorem dX2_advance_9 : decode cX2_advance 9 = .ok (.bipush 11, 2) := by decide +kernel
theorem dX2_advance_11 : decode cX2_advance 11 = .ok (.invokevirtual 37, 3) := by decide +kernel
theorem dX2_advance_14 : decode cX2_advance 14 = .ok (.iadd, 1) := by decide +kernel
theorem dX2_advance_15 : decode cX2_advance 15 = .ok (.istore 4, 2) := by decide +kernel
theorem dX2_advance_17 : decode cX2_advance 17 = .ok (.aload_n 0, 1) := by decide +kernel
theorem dX2_advance_18 : decode cX2_advance 18 = .ok (.iload_n 1, 1) := by decide +kernel
theorem dX2_advance_19 : decode cX2_advance 19 = .ok (.iconst 3, 1) := by decide +kernel
theorem dX2_advance_20 : decode cX2_advance 20 = .ok (.invokevirtual 37, 3) := by decide +kernel
theorem dX2_advance_23 : decode cX2_advance 23 = .ok (.bipush 20, 2) := by decide +kernel
theorem dX2_advance_25 : decode cX2_advance 25 = .ok (.if_icmp .ge 14, 3) := by decide +kernel
theorem dX2_advance_28 : decode cX2_advance 28 = .ok (.iload 4, 2) := by decide +kernel
theorem dX2_advance_30 : decode cX2_advance 30 = .ok (.iload 4, 2) := by decide +kernel
theorem dX2_advance_32 : decode cX2_advance 32 = .ok (.bipush 10, 2) := by decide +kernel
theorem dX2_advance_34 : decode cX2_advance 34 = .ok (.idiv, 1) := by decide +kernel
theorem dX2_advance_35 : decode cX2_advance 35 = .ok (.isub, 1) := by decide +kernel
theorem dX2_advance_36 : decode cX2_advance 36 = .ok (.goto 5, 3) := by decide +kernel
theorem dX2_advance_39 : decode cX2_advance 39 = .ok (.iload 4, 2) := by decide +kernel
theorem dX2_advance_41 : decode cX2_advance 41 = .ok (.ireturn, 1) := by decide +kernel
set_option maxRecDepth 20000 in
theorem ggX2_advance__X2_sh : GoodIn wsX2_advance_ wsX2_sh := goodIn_r _ [5, 6, 11, 12, 13, 14] (by decide +kernel) (by decide +kernel)
set_option maxRecDepth 20000 in
theorem gX2_advance__X2_sh : GoodIn wsX2_advance_ (wsV RX2 37 RX2 yX2_sh wsX2_sh) := goodIn_app (goodIn_of _ (by decide +kernel)) ggX2_advance__X2_sh
set_option maxRecDepth 20000 in
theorem ggX2_advance__X2_advance : GoodIn wsX2_advance_ wsX2_advance := goodIn_r _ [10, 1, 2, 3, 4, 5, 6, 11, 12, 13, 14] (by decide +kernel) (by decide +kernel)
set_option maxRecDepth 20000 in
theorem gX2_advance__X2_advance : GoodIn wsX2_advance_ (wsV RX2 41 RX2 yX2_advance wsX2_advance) := goodIn_app (goodIn_of _ (by decide +kernel)) ggX2_advance__X2_advance
theorem dX2_advance__0 : decode cX2_advance_ 0 = .ok (.aload_n 0, 1) := by decide +kernel
theorem dX2_advance__1 : decode cX2_advance_ 1 = .ok (.iload_n 1, 1) := by decide +kernel
theorem dX2_advance__2 : decode cX2_advance_ 2 = .ok (.aload_n 0, 1) := by decide +kernel
theorem dX2_advance__3 : decode cX2_advance_ 3 = .ok (.iload_n 1, 1) := by decide +kernel
theorem dX2_advance__4 : decode cX2_advance_ 4 = .ok (.bipush 9, 2) := by decide +kernel
theorem dX2_advance__6 : decode cX2_advance_ 6 = .ok (.invokevirtual 37, 3) := by decide +kernel
theorem dX2_advance__9 : decode cX2_advance_ 9 = .ok (.aload_n 0, 1) := by decide +kernel
theorem dX2_advance__10 : decode cX2_advance_ 10 = .ok (.iload_n 1, 1) := by decide +kernel
theorem dX2_advance__11 : decode cX2_advance_ 11 = .ok (.bipush 10, 2) := by decide +kernel
theorem dX2_advance__13 : decode cX2_advance_ 13 = .ok (.invokevirtual 37, 3) := by decide +kernel
theorem dX2_advance__16 : decode cX2_advance_ 16 = .ok (.invokevirtual 41, 3) := by decide +kernel
theorem dX2_advance__19 : decode cX2_advance_ 19 = .ok (.ireturn, 1) := by decide +kernel
set_option maxRecDepth 20000 in
theorem ggX2_gear_X2_isClock : GoodIn wsX2_gear wsX2_isClock := goodIn_r _ [6, 7, 8, 9, 5, 10, 32, 33, 34, 35] (by decide +kernel) (by decide +kernel)
set_option maxRecDepth 20000 in
theorem gX2_gear_X2_isClock : GoodIn wsX2_gear (wsV RX2 45 RX2 yX2_isClock wsX2_isClock) := goodIn_app (goodIn_of _ (by decide +kernel)) ggX2_gear_X2_isClock
set_option maxRecDepth 20000 in
theorem ggX2_gear_X2_fail : GoodIn wsX2_gear wsX2_fail := goodIn_r _ [14, 1, 32, 33, 34, 35] (by decide +kernel) (by decide +kernel)
set_option maxRecDepth 20000 in
theorem gX2_gear_X2_fail : GoodIn wsX2_gear (wsV RX2 27 RX2 yX2_fail wsX2_fail) := goodIn_app (goodIn_of _ (by decide +kernel)) ggX2_gear_X2_fail
set_option maxRecDepth 20000 in
theorem ggX2_gear_X2_isIn : GoodIn wsX2_gear wsX2_isIn := goodIn_r _ [10] (by decide +kernel) (by decide +kernel)
set_option maxRecDepth 20000 in
theorem gX2_gear_X2_isIn : GoodIn wsX2_gear (va_wsS RX2 23 yX2_isIn wsX2_isIn) := goodIn_app (goodIn_of _ (by decide +kernel)) ggX2_gear_X2_isIn
set_option maxRecDepth 20000 in
theorem ggX2_gear_X2_put : GoodIn wsX2_gear wsX2_put := goodIn_r _ [18, 19, 32, 33, 34, 35] (by decide +kernel) (by decide +kernel)
set_option maxRecDepth 20000 in
theorem gX2_gear_X2_put : GoodIn wsX2_gear (wsV RX2 49 RX2 yX2_put wsX2_put) := goodIn_app (goodIn_of _ (by decide +kernel)) ggX2_gear_X2_put
set_option maxRecDepth 20000 in
theorem ggX2_gear_X2_advance_ : GoodIn wsX2_gear wsX2_advance_ := goodIn_r _ [23, 24, 25, 26, 5, 27, 19, 28, 29, 30, 31, 32, 33, 34, 35] (by decide +kernel) (by decide +kernel)
set_option maxRecDepth 20000 in
theorem gX2_gear_X2_advance_ : GoodIn wsX2_gear (wsV RX2 53 RX2 yX2_advance_ wsX2_advance_) := goodIn_app (goodIn_of _ (by decide +kernel)) ggX2_gear_X2_advance_
theorem dX2_gear_0 : decode cX2_gear 0 = .ok (.aload_n 0, 1) := by decide +kernel
theorem dX2_gear_1 : decode cX2_gear 1 = .ok (.iconst 0, 1) := by decide +kernel
theorem dX2_gear_2 : decode cX2_gear 2 = .ok (.putfield 16, 3) := by decide +kernel
theorem dX2_gear_5 : decode cX2_gear 5 = .ok (.aload_n 0, 1) := by decide +kernel
theorem dX2_gear_6 : decode cX2_gear 6 = .ok (.iload_n 1, 1) := by decide +kernel
theorem dX2_gear_7 : decode cX2_gear 7 = .ok (.invokevirtual 45, 3) := by decide +kernel
theorem dX2_gear_10 : decode cX2_gear 10 = .ok (.ifCond .ne 9, 3) := by decide +kernel
theorem dX2_gear_13 : decode cX2_gear 13 = .ok (.aload_n 0, 1) := by decide +kernel
theorem dX2_gear_14 : decode cX2_gear 14 = .ok (.iconst 1, 1) := by decide +kernel
theorem dX2_gear_15 : decode cX2_gear 15 = .ok (.invokevirtual 27, 3) := by decide +kernel
theorem dX2_gear_18 : decode cX2_gear 18 = .ok (.ireturn, 1) := by decide +kernel
theorem dX2_gear_19 : decode cX2_gear 19 = .ok (.iload_n 2, 1) := by decide +kernel
theorem dX2_gear_20 : decode cX2_gear 20 = .ok (.bipush 20, 2) := by decide +kernel
theorem dX2_gear_22 : decode cX2_gear 22 = .ok (.bipush 40, 2) := by decide +kernel
theorem dX2_gear_24 : decode cX2_gear 24 = .ok (.invokestatic 23, 3) := by decide +kernel
theorem dX2_gear_27 : decode cX2_gear 27 = .ok (.ifCond .eq 26, 3) := by decide +kernel
theorem dX2_gear_30 : decode cX2_gear 30 = .ok (.iload_n 3, 1) := by decide +kernel
theorem dX2_gear_31 : decode cX2_gear 31 = .ok (.bipush 20, 2) := by decide +kernel
theorem dX2_gear_33 : decode cX2_gear 33 = .ok (.bipush 40, 2) := by decide +kernel
theorem dX2_gear_35 : decode cX2_gear 35 = .ok (.invokestatic 23, 3) := by decide +kernel
theorem dX2_gear_38 : decode cX2_gear 38 = .ok (.ifCond .eq 15, 3) := by decide +kernel
theorem dX2_gear_41 : decode cX2_gear 41 = .ok (.iload 4, 2) := by decide +kernel
theorem dX2_gear_43 : decode cX2_gear 43 = .ok (.bipush (-20), 2) := by decide +kernel
theorem dX2_gear_45 : decode cX2_gear 45 = .ok (.bipush 20, 2) := by decide +kernel
theorem dX2_gear_47 : decode cX2_gear 47 = .ok (.invokestatic 23, 3) := by decide +kernel
theorem dX2_gear_50 : decode cX2_gear 50 = .ok (.ifCond .ne 9, 3) := by decide +kernel
theorem dX2_gear_53 : decode cX2_gear 53 = .ok (.aload_n 0, 1) := by decide +kernel
theorem dX2_gear_54 : decode cX2_gear 54 = .ok (.iconst 2, 1) := by decide +kernel
theorem dX2_gear_55 : decode cX2_gear 55 = .ok (.invokevirtual 27, 3) := by decide +kernel
theorem dX2_gear_58 : decode cX2_gear 58 = .ok (.ireturn, 1) := by decide +kernel
theorem dX2_gear_59 : decode cX2_gear 59 = .ok (.aload_n 0, 1) := by decide +kernel
theorem dX2_gear_60 : decode cX2_gear 60 = .ok (.iload_n 1, 1) := by decide +kernel
theorem dX2_gear_61 : decode cX2_gear 61 = .ok (.bipush 9, 2) := by decide +kernel
theorem dX2_gear_63 : decode cX2_gear 63 = .ok (.iload_n 2, 1) := by decide +kernel
theorem dX2_gear_64 : decode cX2_gear 64 = .ok (.invokevirtual 49, 3) := by decide +kernel
theorem dX2_gear_67 : decode cX2_gear 67 = .ok (.aload_n 0, 1) := by decide +kernel
theorem dX2_gear_68 : decode cX2_gear 68 = .ok (.iload_n 1, 1) := by decide +kernel
theorem dX2_gear_69 : decode cX2_gear 69 = .ok (.bipush 10, 2) := by decide +kernel
theorem dX2_gear_71 : decode cX2_gear 71 = .ok (.iload_n 3, 1) := by decide +kernel
theorem dX2_gear_72 : decode cX2_gear 72 = .ok (.invokevirtual 49, 3) := by decide +kernel
theorem dX2_gear_75 : decode cX2_gear 75 = .ok (.aload_n 0, 1) := by decide +kernel
theorem dX2_gear_76 : decode cX2_gear 76 = .ok (.iload_n 1, 1) := by decide +kernel
theorem dX2_gear_77 : decode cX2_gear 77 = .ok (.bipush 11, 2) := by decide +kernel
theorem dX2_gear_79 : decode cX2_gear 79 = .ok (.iload 4, 2) := by decide +kernel
theorem dX2_gear_81 : decode cX2_gear 81 = .ok (.invokevirtual 49, 3) := by decide +kernel
theorem dX2_gear_84 : decode cX2_gear 84 = .ok (.aload_n 0, 1) := by decide +kernel
theorem dX2_gear_85 : decode cX2_gear 85 = .ok (.iload_n 1, 1) := by decide +kernel
theorem dX2_gear_86 : decode cX2_gear 86 = .ok (.invokevirtual 53, 3) := by decide +kernel
theorem dX2_gear_89 : decode cX2_gear 89 = .ok (.ireturn, 1) := by decide +kernel
set_option maxRecDepth 20000 in
theorem ggX2_offBy_X2_sh : GoodIn wsX2_offBy wsX2_sh := goodIn_r _ [6, 7, 8, 9, 10, 11] (by decide +kernel) (by decide +kernel)
set_option maxRecDepth 20000 in
theorem gX2_offBy_X2_sh : GoodIn wsX2_offBy (wsV RX2 37 RX2 yX2_sh wsX2_sh) := goodIn_app (goodIn_of _ (by decide +kernel)) ggX2_offBy_X2_sh
theorem dX2_offBy_0 : decode cX2_offBy 0 = .ok (.aload_n 0, 1) := by decide +kernel
theorem dX2_offBy_1 : decode cX2_offBy 1 = .ok (.iload_n 1, 1) := by decide +kernel
theorem dX2_offBy_2 : decode cX2_offBy 2 = .ok (.iconst 0, 1) := by decide +kernel
theorem dX2_offBy_3 : decode cX2_offBy 3 = .ok (.invokevirtual 37, 3) := by decide +kernel
theorem dX2_offBy_6 : decode cX2_offBy 6 = .ok (.sipush 720, 3) := by decide +kernel
theorem dX2_offBy_9 : decode cX2_offBy 9 = .ok (.iadd, 1) := by decide +kernel
theorem dX2_offBy_10 : decode cX2_offBy 10 = .ok (.sipush 360, 3) := by decide +kernel
theorem dX2_offBy_13 : decode cX2_offBy 13 = .ok (.iadd, 1) := by decide +kernel
theorem dX2_offBy_14 : decode cX2_offBy 14 = .ok (.aload_n 0, 1) := by decide +kernel
theorem dX2_offBy_15 : decode cX2_offBy 15 = .ok (.getfield 13, 3) := by decide +kernel
theorem dX2_offBy_18 : decode cX2_offBy 18 = .ok (.iconst 0, 1) := by decide +kernel
theorem dX2_offBy_19 : decode cX2_offBy 19 = .ok (.iaload, 1) := by decide +kernel
theorem dX2_offBy_20 : decode cX2_offBy 20 = .ok (.sipush 720, 3) := by decide +kernel
theorem dX2_offBy_23 : decode cX2_offBy 23 = .ok (.irem, 1) := by decide +kernel
theorem dX2_offBy_24 : decode cX2_offBy 24 = .ok (.isub, 1) := by decide +kernel
theorem dX2_offBy_25 : decode cX2_offBy 25 = .ok (.sipush 720, 3) := by decide +kernel
theorem dX2_offBy_28 : decode cX2_offBy 28 = .ok (.irem, 1) := by decide +kernel
theorem dX2_offBy_29 : decode cX2_offBy 29 = .ok (.sipush 360, 3) := by decide +kernel
theorem dX2_offBy_32 : decode cX2_offBy 32 = .ok (.isub, 1) := by decide +kernel
theorem dX2_offBy_33 : decode cX2_offBy 33 = .ok (.ireturn, 1) := by decide +kernel
set_option maxRecDepth 20000 in
theorem ggX2_set_X2_isClock : GoodIn wsX2_set wsX2_isClock := goodIn_r _ [6, 7, 8, 9, 5, 10, 29, 30, 31, 32] (by decide +kernel) (by decide +kernel)
set_option maxRecDepth 20000 in
theorem gX2_set_X2_isClock : GoodIn wsX2_set (wsV RX2 45 RX2 yX2_isClock wsX2_isClock) := goodIn_app (goodIn_of _ (by decide +kernel)) ggX2_set_X2_isClock
set_option maxRecDepth 20000 in
theorem ggX2_set_X2_fail : GoodIn wsX2_set wsX2_fail := goodIn_r _ [14, 1, 29, 30, 31, 32] (by decide +kernel) (by decide +kernel)
set_option maxRecDepth 20000 in
theorem gX2_set_X2_fail : GoodIn wsX2_set (wsV RX2 27 RX2 yX2_fail wsX2_fail) := goodIn_app (goodIn_of _ (by decide +kernel)) ggX2_set_X2_fail
set_option maxRecDepth 20000 in
theorem ggX2_set_X2_isIn : GoodIn wsX2_set wsX2_isIn := goodIn_r _ [10] (by decide +kernel) (by decide +kernel)
set_option maxRecDepth 20000 in
theorem gX2_set_X2_isIn : GoodIn wsX2_set (va_wsS RX2 23 yX2_isIn wsX2_isIn) := goodIn_app (goodIn_of _ (by decide +kernel)) ggX2_set_X2_isIn
set_option maxRecDepth 20000 in
theorem ggX2_set_X2_offBy : GoodIn wsX2_set wsX2_offBy := goodIn_r _ [18, 19, 20, 21, 22, 5, 23, 24, 29, 30, 31, 32] (by decide +kernel) (by decide +kernel)
set_option maxRecDepth 20000 in
theorem gX2_set_X2_offBy : GoodIn wsX2_set (wsV RX2 55 RX2 yX2_offBy wsX2_offBy) := goodIn_app (goodIn_of _ (by decide +kernel)) ggX2_set_X2_offBy
set_option maxRecDepth 20000 in
theorem ggX2_set_X2_put : GoodIn wsX2_set wsX2_put := goodIn_r _ [28, 24, 29, 30, 31, 32] (by decide +kernel) (by decide +kernel)
set_option maxRecDepth 20000 in
theorem gX2_set_X2_put : GoodIn wsX2_set (wsV RX2 49 RX2 yX2_put wsX2_put) := goodIn_app (goodIn_of _ (by decide +kernel)) ggX2_set_X2_put
theorem dX2_set_0 : decode cX2_set 0 = .ok (.aload_n 0, 1) := by decide +kernel
theorem dX2_set_1 : decode cX2_set 1 = .ok (.iconst 0, 1) := by decide +kernel
theorem dX2_set_2 : decode cX2_set 2 = .ok (.putfield 16, 3) := by decide +kernel
theorem dX2_set_5 : decode cX2_set 5 = .ok (.aload_n 0, 1) := by decide +kernel
theorem dX2_set_6 : decode cX2_set 6 = .ok (.iload_n 1, 1) := by decide +kernel
theorem dX2_set_7 : decode cX2_set 7 = .ok (.invokevirtual 45, 3) := by decide +kernel
theorem dX2_set_10 : decode cX2_set 10 = .ok (.ifCond .ne 9, 3) := by decide +kernel
theorem dX2_set_13 : decode cX2_set 13 = .ok (.aload_n 0, 1) := by decide +kernel
theorem dX2_set_14 : decode cX2_set 14 = .ok (.iconst 1, 1) := by decide +kernel
theorem dX2_set_15 : decode cX2_set 15 = .ok (.invokevirtual 27, 3) := by decide +kernel
theorem dX2_set_18 : decode cX2_set 18 = .ok (.ireturn, 1) := by decide +kernel
theorem dX2_set_19 : decode cX2_set 19 = .ok (.iload_n 2, 1) := by decide +kernel
theorem dX2_set_20 : decode cX2_set 20 = .ok (.iconst 0, 1) := by decide +kernel
theorem dX2_set_21 : decode cX2_set 21 = .ok (.sipush 719, 3) := by decide +kernel
theorem dX2_set_24 : decode cX2_set 24 = .ok (.invokestatic 23, 3) := by decide +kernel
theorem dX2_set_27 : decode cX2_set 27 = .ok (.ifCond .ne 9, 3) := by decide +kernel
theorem dX2_set_30 : decode cX2_set 30 = .ok (.aload_n 0, 1) := by decide +kernel
theorem dX2_set_31 : decode cX2_set 31 = .ok (.iconst 2, 1) := by decide +kernel
theorem dX2_set_32 : decode cX2_set 32 = .ok (.invokevirtual 27, 3) := by decide +kernel
theorem dX2_set_35 : decode cX2_set 35 = .ok (.ireturn, 1) := by decide +kernel
theorem dX2_set_36 : decode cX2_set 36 = .ok (.aload_n 0, 1) := by decide +kernel
theorem dX2_set_37 : decode cX2_set 37 = .ok (.iload_n 1, 1) := by decide +kernel
theorem dX2_set_38 : decode cX2_set 38 = .ok (.invokevirtual 55, 3) := by decide +kernel
theorem dX2_set_41 : decode cX2_set 41 = .ok (.istore_n 3, 1) := by decide +kernel
theorem dX2_set_42 : decode cX2_set 42 = .ok (.aload_n 0, 1) := by decide +kernel
theorem dX2_set_43 : decode cX2_set 43 = .ok (.iload_n 1, 1) := by decide +kernel
theorem dX2_set_44 : decode cX2_set 44 = .ok (.iconst 0, 1) := by decide +kernel
theorem dX2_set_45 : decode cX2_set 45 = .ok (.iload_n 2, 1) := by decide +kernel
theorem dX2_set_46 : decode cX2_set 46 = .ok (.invokevirtual 49, 3) := by decide +kernel
theorem dX2_set_49 : decode cX2_set 49 = .ok (.aload_n 0, 1) := by decide +kernel
theorem dX2_set_50 : decode cX2_set 50 = .ok (.iload_n 1, 1) := by decide +kernel
theorem dX2_set_51 : decode cX2_set 51 = .ok (.iconst 1, 1) := by decide +kernel
theorem dX2_set_52 : decode cX2_set 52 = .ok (.iconst 0, 1) := by decide +kernel
theorem dX2_set_53 : decode cX2_set 53 = .ok (.invokevirtual 49, 3) := by decide +kernel
theorem dX2_set_56 : decode cX2_set 56 = .ok (.iload_n 3, 1) := by decide +kernel
theorem dX2_set_57 : decode cX2_set 57 = .ok (.ireturn, 1) := by decide +kernel
set_option maxRecDepth 20000 in
theorem ggX2_wind_X2_isClock : GoodIn wsX2_wind wsX2_isClock := goodIn_r _ [6, 7, 8, 9, 5, 10, 24, 25, 26, 27] (by decide +kernel) (by decide +kernel)
set_option maxRecDepth 20000 in
theorem gX2_wind_X2_isClock : GoodIn wsX2_wind (wsV RX2 45 RX2 yX2_isClock wsX2_isClock) := goodIn_app (goodIn_of _ (by decide +kernel)) ggX2_wind_X2_isClock
set_option maxRecDepth 20000 in
theorem ggX2_wind_X2_fail : GoodIn wsX2_wind wsX2_fail := goodIn_r _ [14, 1, 24, 25, 26, 27] (by decide +kernel) (by decide +kernel)
set_option maxRecDepth 20000 in
theorem gX2_wind_X2_fail : GoodIn wsX2_wind (wsV RX2 27 RX2 yX2_fail wsX2_fail) := goodIn_app (goodIn_of _ (by decide +kernel)) ggX2_wind_X2_fail
set_option maxRecDepth 20000 in
theorem ggX2_wind_X2_sh : GoodIn wsX2_wind wsX2_sh := goodIn_r _ [18, 19, 24, 25, 26, 27] (by decide +kernel) (by decide +kernel)
set_option maxRecDepth 20000 in
theorem gX2_wind_X2_sh : GoodIn wsX2_wind (wsV RX2 37 RX2 yX2_sh wsX2_sh) := goodIn_app (goodIn_of _ (by decide +kernel)) ggX2_wind_X2_sh
set_option maxRecDepth 20000 in
theorem ggX2_wind_X2_put : GoodIn wsX2_wind wsX2_put := goodIn_r _ [23, 19, 24, 25, 26, 27] (by decide +kernel) (by decide +kernel)
set_option maxRecDepth 20000 in
theorem gX2_wind_X2_put : GoodIn wsX2_wind (wsV RX2 49 RX2 yX2_put wsX2_put) := goodIn_app (goodIn_of _ (by decide +kernel)) ggX2_wind_X2_put
theorem dX2_wind_0 : decode cX2_wind 0 = .ok (.aload_n 0, 1) := by decide +kernel
theorem dX2_wind_1 : decode cX2_wind 1 = .ok (.iconst 0, 1) := by decide +kernel
theorem dX2_wind_2 : decode cX2_wind 2 = .ok (.putfield 16, 3) := by decide +kernel
theorem dX2_wind_5 : decode cX2_wind 5 = .ok (.aload_n 0, 1) := by decide +kernel
theorem dX2_wind_6 : decode cX2_wind 6 = .ok (.iload_n 1, 1) := by decide +kernel
theorem dX2_wind_7 : decode cX2_wind 7 = .ok (.invokevirtual 45, 3) := by decide +kernel
theorem dX2_wind_10 : decode cX2_wind 10 = .ok (.ifCond .ne 9, 3) := by decide +kernel
theorem dX2_wind_13 : decode cX2_wind 13 = .ok (.aload_n 0, 1) := by decide +kernel
theorem dX2_wind_14 : decode cX2_wind 14 = .ok (.iconst 1, 1) := by decide +kernel
theorem dX2_wind_15 : decode cX2_wind 15 = .ok (.invokevirtual 27, 3) := by decide +kernel
theorem dX2_wind_18 : decode cX2_wind 18 = .ok (.ireturn, 1) := by decide +kernel
theorem dX2_wind_19 : decode cX2_wind 19 = .ok (.sipush 600, 3) := by decide +kernel
theorem dX2_wind_22 : decode cX2_wind 22 = .ok (.aload_n 0, 1) := by decide +kernel
theorem dX2_wind_23 : decode cX2_wind 23 = .ok (.iload_n 1, 1) := by decide +kernel
theorem dX2_wind_24 : decode cX2_wind 24 = .ok (.iconst 2, 1) := by decide +kernel
theorem dX2_wind_25 : decode cX2_wind 25 = .ok (.invokevirtual 37, 3) := by decide +kernel
theorem dX2_wind_28 : decode cX2_wind 28 = .ok (.isub, 1) := by decide +kernel
theorem dX2_wind_29 : decode cX2_wind 29 = .ok (.istore_n 2, 1) := by decide +kernel
theorem dX2_wind_30 : decode cX2_wind 30 = .ok (.aload_n 0, 1) := by decide +kernel
theorem dX2_wind_31 : decode cX2_wind 31 = .ok (.iload_n 1, 1) := by decide +kernel
theorem dX2_wind_32 : decode cX2_wind 32 = .ok (.iconst 2, 1) := by decide +kernel
theorem dX2_wind_33 : decode cX2_wind 33 = .ok (.sipush 600, 3) := by decide +kernel
theorem dX2_wind_36 : decode cX2_wind 36 = .ok (.invokevirtual 49, 3) := by decide +kernel
theorem dX2_wind_39 : decode cX2_wind 39 = .ok (.aload_n 0, 1) := by decide +kernel
theorem dX2_wind_40 : decode cX2_wind 40 = .ok (.iload_n 1, 1) := by decide +kernel
theorem dX2_wind_41 : decode cX2_wind 41 = .ok (.iconst 5, 1) := by decide +kernel
theorem dX2_wind_42 : decode cX2_wind 42 = .ok (.iconst 1, 1) := by decide +kernel
theorem dX2_wind_43 : decode cX2_wind 43 = .ok (.invokevirtual 49, 3) := by decide +kernel
theorem dX2_wind_46 : decode cX2_wind 46 = .ok (.iload_n 2, 1) := by decide +kernel
theorem dX2_wind_47 : decode cX2_wind 47 = .ok (.ireturn, 1) := by decide +kernel
set_option maxRecDepth 20000 in
theorem ggX2_mend_X2_isClock : GoodIn wsX2_mend wsX2_isClock := goodIn_r _ [6, 7, 8, 9, 5, 10, 24, 25, 26, 27] (by decide +kernel) (by decide +kernel)
set_option maxRecDepth 20000 in
theorem gX2_mend_X2_isClock : GoodIn wsX2_mend (wsV RX2 45 RX2 yX2_isClock wsX2_isClock) := goodIn_app (goodIn_of _ (by decide +kernel)) ggX2_mend_X2_isClock
set_option maxRecDepth 20000 in
theorem ggX2_mend_X2_fail : GoodIn wsX2_mend wsX2_fail := goodIn_r _ [14, 1, 24, 25, 26, 27] (by decide +kernel) (by decide +kernel)
set_option maxRecDepth 20000 in
theorem gX2_mend_X2_fail : GoodIn wsX2_mend (wsV RX2 27 RX2 yX2_fail wsX2_fail) := goodIn_app (goodIn_of _ (by decide +kernel)) ggX2_mend_X2_fail
set_option maxRecDepth 20000 in
theorem ggX2_mend_X2_isIn : GoodIn wsX2_mend wsX2_isIn := goodIn_r _ [10] (by decide +kernel) (by decide +kernel)
set_option maxRecDepth 20000 in
theorem gX2_mend_X2_isIn : GoodIn wsX2_mend (va_wsS RX2 23 yX2_isIn wsX2_isIn) := goodIn_app (goodIn_of _ (by decide +kernel)) ggX2_mend_X2_isIn
set_option maxRecDepth 20000 in
theorem ggX2_mend_X2_sh : GoodIn wsX2_mend wsX2_sh := goodIn_r _ [18, 19, 24, 25, 26, 27] (by decide +kernel) (by decide +kernel)
set_option maxRecDepth 20000 in
theorem gX2_mend_X2_sh : GoodIn wsX2_mend (wsV RX2 37 RX2 yX2_sh wsX2_sh) := goodIn_app (goodIn_of _ (by decide +kernel)) ggX2_mend_X2_sh
set_option maxRecDepth 20000 in
theorem ggX2_mend_X2_put : GoodIn wsX2_mend wsX2_put := goodIn_r _ [23, 19, 24, 25, 26, 27] (by decide +kernel) (by decide +kernel)
set_option maxRecDepth 20000 in
theorem gX2_mend_X2_put : GoodIn wsX2_mend (wsV RX2 49 RX2 yX2_put wsX2_put) := goodIn_app (goodIn_of _ (by decide +kernel)) ggX2_mend_X2_put
theorem dX2_mend_0 : decode cX2_mend 0 = .ok (.aload_n 0, 1) := by decide +kernel
theorem dX2_mend_1 : decode cX2_mend 1 = .ok (.iconst 0, 1) := by decide +kernel
theorem dX2_mend_2 : decode cX2_mend 2 = .ok (.putfield 16, 3) := by decide +kernel
theorem dX2_mend_5 : decode cX2_mend 5 = .ok (.aload_n 0, 1) := by decide +kernel
theorem dX2_mend_6 : decode cX2_mend 6 = .ok (.iload_n 1, 1) := by decide +kernel
theorem dX2_mend_7 : decode cX2_mend 7 = .ok (.invokevirtual 45, 3) := by decide +kernel
theorem dX2_mend_10 : decode cX2_mend 10 = .ok (.ifCond .ne 9, 3) := by decide +kernel
theorem dX2_mend_13 : decode cX2_mend 13 = .ok (.aload_n 0, 1) := by decide +kernel
theorem dX2_mend_14 : decode cX2_mend 14 = .ok (.iconst 1, 1) := by decide +kernel
theorem dX2_mend_15 : decode cX2_mend 15 = .ok (.invokevirtual 27, 3) := by decide +kernel
theorem dX2_mend_18 : decode cX2_mend 18 = .ok (.ireturn, 1) := by decide +kernel
theorem dX2_mend_19 : decode cX2_mend 19 = .ok (.iload_n 2, 1) := by decide +kernel
theorem dX2_mend_20 : decode cX2_mend 20 = .ok (.iconst 0, 1) := by decide +kernel
theorem dX2_mend_21 : decode cX2_mend 21 = .ok (.iconst 2, 1) := by decide +kernel
theorem dX2_mend_22 : decode cX2_mend 22 = .ok (.invokestatic 23, 3) := by decide +kernel
theorem dX2_mend_25 : decode cX2_mend 25 = .ok (.ifCond .ne 9, 3) := by decide +kernel
theorem dX2_mend_28 : decode cX2_mend 28 = .ok (.aload_n 0, 1) := by decide +kernel
theorem dX2_mend_29 : decode cX2_mend 29 = .ok (.iconst 2, 1) := by decide +kernel
theorem dX2_mend_30 : decode cX2_mend 30 = .ok (.invokevirtual 27, 3) := by decide +kernel
theorem dX2_mend_33 : decode cX2_mend 33 = .ok (.ireturn, 1) := by decide +kernel
theorem dX2_mend_34 : decode cX2_mend 34 = .ok (.iload_n 2, 1) := by decide +kernel
theorem dX2_mend_35 : decode cX2_mend 35 = .ok (.iconst 2, 1) := by decide +kernel
theorem dX2_mend_36 : decode cX2_mend 36 = .ok (.if_icmp .ne 39, 3) := by decide +kernel
theorem dX2_mend_39 : decode cX2_mend 39 = .ok (.aload_n 0, 1) := by decide +kernel
theorem dX2_mend_40 : decode cX2_mend 40 = .ok (.iload_n 1, 1) := by decide +kernel
theorem dX2_mend_41 : decode cX2_mend 41 = .ok (.iconst 5, 1) := by decide +kernel
theorem dX2_mend_42 : decode cX2_mend 42 = .ok (.aload_n 0, 1) := by decide +kernel
theorem dX2_mend_43 : decode cX2_mend 43 = .ok (.iload_n 1, 1) := by decide +kernel
theorem dX2_mend_44 : decode cX2_mend 44 = .ok (.iconst 5, 1) := by decide +kernel
theorem dX2_mend_45 : decode cX2_mend 45 = .ok (.invokevirtual 37, 3) := by decide +kernel
theorem dX2_mend_48 : decode cX2_mend 48 = .ok (.ifCond .ne 16, 3) := by decide +kernel
theorem dX2_mend_51 : decode cX2_mend 51 = .ok (.aload_n 0, 1) := by decide +kernel
theorem dX2_mend_52 : decode cX2_mend 52 = .ok (.iload_n 1, 1) := by decide +kernel
theorem dX2_mend_53 : decode cX2_mend 53 = .ok (.iconst 2, 1) := by decide +kernel
theorem dX2_mend_54 : decode cX2_mend 54 = .ok (.invokevirtual 37, 3) := by decide +kernel
theorem dX2_mend_57 : decode cX2_mend 57 = .ok (.ifCond .le 7, 3) := by decide +kernel
theorem dX2_mend_60 : decode cX2_mend 60 = .ok (.iconst 1, 1) := by decide +kernel
theorem dX2_mend_61 : decode cX2_mend 61 = .ok (.goto 4, 3) := by decide +kernel
theorem dX2_mend_64 : decode cX2_mend 64 = .ok (.iconst 0, 1) := by decide +kernel
theorem dX2_mend_65 : decode cX2_mend 65 = .ok (.invokevirtual 49, 3) := by decide +kernel
theorem dX2_mend_68 : decode cX2_mend 68 = .ok (.aload_n 0, 1) := by decide +kernel
theorem dX2_mend_69 : decode cX2_mend 69 = .ok (.iload_n 1, 1) := by decide +kernel
theorem dX2_mend_70 : decode cX2_mend 70 = .ok (.iconst 5, 1) := by decide +kernel
theorem dX2_mend_71 : decode cX2_mend 71 = .ok (.invokevirtual 37, 3) := by decide +kernel
theorem dX2_mend_74 : decode cX2_mend 74 = .ok (.ireturn, 1) := by decide +kernel
theorem dX2_mend_75 : decode cX2_mend 75 = .ok (.iload_n 2, 1) := by decide +kernel
theorem dX2_mend_76 : decode cX2_mend 76 = .ok (.ifCond .ne 7, 3) := by decide +kernel
theorem dX2_mend_79 : decode cX2_mend 79 = .ok (.iconst 3, 1) := by decide +kernel
theorem dX2_mend_80 : decode cX2_mend 80 = .ok (.goto 4, 3) := by decide +kernel
theorem dX2_mend_83 : decode cX2_mend 83 = .ok (.iconst 4, 1) := by decide +kernel
theorem dX2_mend_84 : decode cX2_mend 84 = .ok (.istore_n 3, 1) := by decide +kernel
theorem dX2_mend_85 : decode cX2_mend 85 = .ok (.iload_n 2, 1) := by decide +kernel
theorem dX2_mend_86 : decode cX2_mend 86 = .ok (.ifCond .ne 8, 3) := by decide +kernel
theorem dX2_mend_89 : decode cX2_mend 89 = .ok (.bipush 100, 2) := by decide +kernel
theorem dX2_mend_91 : decode cX2_mend 91 = .ok (.goto 5, 3) := by decide +kernel
theorem dX2_mend_94 : decode cX2_mend 94 = .ok (.bipush 60, 2) := by decide +kernel
theorem dX2_mend_96 : decode cX2_mend 96 = .ok (.istore 4, 2) := by decide +kernel
theorem dX2_mend_98 : decode cX2_mend 98 = .ok (.iload 4, 2) := by decide +kernel
theorem dX2_mend_100 : decode cX2_mend 100 = .ok (.aload_n 0, 1) := by decide +kernel
theorem dX2_mend_101 : decode cX2_mend 101 = .ok (.iload_n 1, 1) := by decide +kernel
theorem dX2_mend_102 : decode cX2_mend 102 = .ok (.iload_n 3, 1) := by decide +kernel
theorem dX2_mend_103 : decode cX2_mend 103 = .ok (.invokevirtual 37, 3) := by decide +kernel
theorem dX2_mend_106 : decode cX2_mend 106 = .ok (.isub, 1) := by decide +kernel
theorem dX2_mend_107 : decode cX2_mend 107 = .ok (.istore 5, 2) := by decide +kernel
theorem dX2_mend_109 : decode cX2_mend 109 = .ok (.aload_n 0, 1) := by decide +kernel
theorem dX2_mend_110 : decode cX2_mend 110 = .ok (.iload_n 1, 1) := by decide +kernel
theorem dX2_mend_111 : decode cX2_mend 111 = .ok (.iload_n 3, 1) := by decide +kernel
theorem dX2_mend_112 : decode cX2_mend 112 = .ok (.iload 4, 2) := by decide +kernel
theorem dX2_mend_114 : decode cX2_mend 114 = .ok (.invokevirtual 49, 3) := by decide +kernel
theorem dX2_mend_117 : decode cX2_mend 117 = .ok (.iload 5, 2) := by decide +kernel
theorem dX2_mend_119 : decode cX2_mend 119 = .ok (.ireturn, 1) := by decide +kernel
set_option maxRecDepth 20000 in
theorem ggX2_shut_X2_isClock : GoodIn wsX2_shut wsX2_isClock := goodIn_r _ [6, 7, 8, 9, 5, 10, 24, 25, 26, 27] (by decide +kernel) (by decide +kernel)
set_option maxRecDepth 20000 in
theorem gX2_shut_X2_isClock : GoodIn wsX2_shut (wsV RX2 45 RX2 yX2_isClock wsX2_isClock) := goodIn_app (goodIn_of _ (by decide +kernel)) ggX2_shut_X2_isClock
set_option maxRecDepth 20000 in
theorem ggX2_shut_X2_fail : GoodIn wsX2_shut wsX2_fail := goodIn_r _ [14, 1, 24, 25, 26, 27] (by decide +kernel) (by decide +kernel)
set_option maxRecDepth 20000 in
theorem gX2_shut_X2_fail : GoodIn wsX2_shut (wsV RX2 27 RX2 yX2_fail wsX2_fail) := goodIn_app (goodIn_of _ (by decide +kernel)) ggX2_shut_X2_fail
set_option maxRecDepth 20000 in
theorem ggX2_shut_X2_isIn : GoodIn wsX2_shut wsX2_isIn := goodIn_r _ [10] (by decide +kernel) (by decide +kernel)
set_option maxRecDepth 20000 in
theorem gX2_shut_X2_isIn : GoodIn wsX2_shut (va_wsS RX2 23 yX2_isIn wsX2_isIn) := goodIn_app (goodIn_of _ (by decide +kernel)) ggX2_shut_X2_isIn
set_option maxRecDepth 20000 in
theorem ggX2_shut_X2_sh : GoodIn wsX2_shut wsX2_sh := goodIn_r _ [18, 19, 24, 25, 26, 27] (by decide +kernel) (by decide +kernel)
set_option maxRecDepth 20000 in
theorem gX2_shut_X2_sh : GoodIn wsX2_shut (wsV RX2 37 RX2 yX2_sh wsX2_sh) := goodIn_app (goodIn_of _ (by decide +kernel)) ggX2_shut_X2_sh
set_option maxRecDepth 20000 in
theorem ggX2_shut_X2_put : GoodIn wsX2_shut wsX2_put := goodIn_r _ [23, 19, 24, 25, 26, 27] (by decide +kernel) (by decide +kernel)
set_option maxRecDepth 20000 in
theorem gX2_shut_X2_put : GoodIn wsX2_shut (wsV RX2 49 RX2 yX2_put wsX2_put) := goodIn_app (goodIn_of _ (by decide +kernel)) ggX2_shut_X2_put
theorem dX2_shut_0 : decode cX2_shut 0 = .ok (.aload_n 0, 1) := by decide +kernel
theorem dX2_shut_1 : decode cX2_shut 1 = .ok (.iconst 0, 1) := by decide +kernel
theorem dX2_shut_2 : decode cX2_shut 2 = .ok (.putfield 16, 3) := by decide +kernel
theorem dX2_shut_5 : decode cX2_shut 5 = .ok (.aload_n 0, 1) := by decide +kernel
theorem dX2_shut_6 : decode cX2_shut 6 = .ok (.iload_n 1, 1) := by decide +kernel
theorem dX2_shut_7 : decode cX2_shut 7 = .ok (.invokevirtual 45, 3) := by decide +kernel
theorem dX2_shut_10 : decode cX2_shut 10 = .ok (.ifCond .ne 9, 3) := by decide +kernel
theorem dX2_shut_13 : decode cX2_shut 13 = .ok (.aload_n 0, 1) := by decide +kernel
theorem dX2_shut_14 : decode cX2_shut 14 = .ok (.iconst 1, 1) := by decide +kernel
theorem dX2_shut_15 : decode cX2_shut 15 = .ok (.invokevirtual 27, 3) := by decide +kernel
theorem dX2_shut_18 : decode cX2_shut 18 = .ok (.ireturn, 1) := by decide +kernel
theorem dX2_shut_19 : decode cX2_shut 19 = .ok (.iload_n 2, 1) := by decide +kernel
theorem dX2_shut_20 : decode cX2_shut 20 = .ok (.iconst (-1), 1) := by decide +kernel
theorem dX2_shut_21 : decode cX2_shut 21 = .ok (.sipush 719, 3) := by decide +kernel
theorem dX2_shut_24 : decode cX2_shut 24 = .ok (.invokestatic 23, 3) := by decide +kernel
theorem dX2_shut_27 : decode cX2_shut 27 = .ok (.ifCond .eq 23, 3) := by decide +kernel
theorem dX2_shut_30 : decode cX2_shut 30 = .ok (.iload_n 3, 1) := by decide +kernel
theorem dX2_shut_31 : decode cX2_shut 31 = .ok (.iconst 0, 1) := by decide +kernel
theorem dX2_shut_32 : decode cX2_shut 32 = .ok (.sipush 719, 3) := by decide +kernel
theorem dX2_shut_35 : decode cX2_shut 35 = .ok (.invokestatic 23, 3) := by decide +kernel
theorem dX2_shut_38 : decode cX2_shut 38 = .ok (.ifCond .eq 12, 3) := by decide +kernel
theorem dX2_shut_41 : decode cX2_shut 41 = .ok (.iload_n 2, 1) := by decide +kernel
theorem dX2_shut_42 : decode cX2_shut 42 = .ok (.iconst (-1), 1) := by decide +kernel
theorem dX2_shut_43 : decode cX2_shut 43 = .ok (.if_icmp .ne 13, 3) := by decide +kernel
theorem dX2_shut_46 : decode cX2_shut 46 = .ok (.iload_n 3, 1) := by decide +kernel
theorem dX2_shut_47 : decode cX2_shut 47 = .ok (.ifCond .eq 9, 3) := by decide +kernel
theorem dX2_shut_50 : decode cX2_shut 50 = .ok (.aload_n 0, 1) := by decide +kernel
theorem dX2_shut_51 : decode cX2_shut 51 = .ok (.iconst 2, 1) := by decide +kernel
theorem dX2_shut_52 : decode cX2_shut 52 = .ok (.invokevirtual 27, 3) := by decide +kernel
theorem dX2_shut_55 : decode cX2_shut 55 = .ok (.ireturn, 1) := by decide +kernel
theorem dX2_shut_56 : decode cX2_shut 56 = .ok (.aload_n 0, 1) := by decide +kernel
theorem dX2_shut_57 : decode cX2_shut 57 = .ok (.iload_n 1, 1) := by decide +kernel
theorem dX2_shut_58 : decode cX2_shut 58 = .ok (.bipush 12, 2) := by decide +kernel
theorem dX2_shut_60 : decode cX2_shut 60 = .ok (.invokevirtual 37, 3) := by decide +kernel
theorem dX2_shut_63 : decode cX2_shut 63 = .ok (.istore 4, 2) := by decide +kernel
theorem dX2_shut_65 : decode cX2_shut 65 = .ok (.aload_n 0, 1) := by decide +kernel
theorem dX2_shut_66 : decode cX2_shut 66 = .ok (.iload_n 1, 1) := by decide +kernel
theorem dX2_shut_67 : decode cX2_shut 67 = .ok (.bipush 12, 2) := by decide +kernel
theorem dX2_shut_69 : decode cX2_shut 69 = .ok (.iload_n 2, 1) := by decide +kernel
theorem dX2_shut_70 : decode cX2_shut 70 = .ok (.invokevirtual 49, 3) := by decide +kernel
theorem dX2_shut_73 : decode cX2_shut 73 = .ok (.aload_n 0, 1) := by decide +kernel
theorem dX2_shut_74 : decode cX2_shut 74 = .ok (.iload_n 1, 1) := by decide +kernel
theorem dX2_shut_75 : decode cX2_shut 75 = .ok (.bipush 13, 2) := by decide +kernel
theorem dX2_shut_77 : decode cX2_shut 77 = .ok (.iload_n 3, 1) := by decide +kernel
theorem dX2_shut_78 : decode cX2_shut 78 = .ok (.invokevirtual 49, 3) := by decide +kernel
theorem dX2_shut_81 : decode cX2_shut 81 = .ok (.iload 4, 2) := by decide +kernel
theorem dX2_shut_83 : decode cX2_shut 83 = .ok (.ireturn, 1) := by decide +kernel
set_option maxRecDepth 20000 in
theorem ggX2_isShut_X2_sh : GoodIn wsX2_isShut wsX2_sh := goodIn_r _ [5, 6, 7, 8, 9, 10] (by decide +kernel) (by decide +kernel)
set_option maxRecDepth 20000 in
theorem gX2_isShut_X2_sh : GoodIn wsX2_isShut (wsV RX2 37 RX2 yX2_sh wsX2_sh) := goodIn_app (goodIn_of _ (by decide +kernel)) ggX2_isShut_X2_sh
theorem dX2_isShut_0 : decode cX2_isShut 0 = .ok (.aload_n 0, 1) := by decide +kernel
theorem dX2_isShut_1 : decode cX2_isShut 1 = .ok (.iload_n 1, 1) := by decide +kernel
theorem dX2_isShut_2 : decode cX2_isShut 2 = .ok (.bipush 12, 2) := by decide +kernel
theorem dX2_isShut_4 : decode cX2_isShut 4 = .ok (.invokevirtual 37, 3) := by decide +kernel
theorem dX2_isShut_7 : decode cX2_isShut 7 = .ok (.istore_n 2, 1) := by decide +kernel
theorem dX2_isShut_8 : decode cX2_isShut 8 = .ok (.iload_n 2, 1) := by decide +kernel
theorem dX2_isShut_9 : decode cX2_isShut 9 = .ok (.iconst (-1), 1) := by decide +kernel
theorem dX2_isShut_10 : decode cX2_isShut 10 = .ok (.if_icmp .ne 5, 3) := by decide +kernel
theorem dX2_isShut_13 : decode cX2_isShut 13 = .ok (.iconst 0, 1) := by decide +kernel
theorem dX2_isShut_14 : decode cX2_isShut 14 = .ok (.ireturn, 1) := by decide +kernel
theorem dX2_isShut_15 : decode cX2_isShut 15 = .ok (.aload_n 0, 1) := by decide +kernel
theorem dX2_isShut_16 : decode cX2_isShut 16 = .ok (.iload_n 1, 1) := by decide +kernel
theorem dX2_isShut_17 : decode cX2_isShut 17 = .ok (.bipush 13, 2) := by decide +kernel
theorem dX2_isShut_19 : decode cX2_isShut 19 = .ok (.invokevirtual 37, 3) := by decide +kernel
theorem dX2_isShut_22 : decode cX2_isShut 22 = .ok (.sipush 720, 3) := by decide +kernel
theorem dX2_isShut_25 : decode cX2_isShut 25 = .ok (.iadd, 1) := by decide +kernel
theorem dX2_isShut_26 : decode cX2_isShut 26 = .ok (.iload_n 2, 1) := by decide +kernel
theorem dX2_isShut_27 : decode cX2_isShut 27 = .ok (.isub, 1) := by decide +kernel
theorem dX2_isShut_28 : decode cX2_isShut 28 = .ok (.sipush 720, 3) := by decide +kernel
theorem dX2_isShut_31 : decode cX2_isShut 31 = .ok (.irem, 1) := by decide +kernel
theorem dX2_isShut_32 : decode cX2_isShut 32 = .ok (.istore_n 3, 1) := by decide +kernel
theorem dX2_isShut_33 : decode cX2_isShut 33 = .ok (.iload_n 3, 1) := by decide +kernel
theorem dX2_isShut_34 : decode cX2_isShut 34 = .ok (.ifCond .eq 23, 3) := by decide +kernel
theorem dX2_isShut_37 : decode cX2_isShut 37 = .ok (.aload_n 0, 1) := by decide +kernel
theorem dX2_isShut_38 : decode cX2_isShut 38 = .ok (.iload_n 1, 1) := by decide +kernel
theorem dX2_isShut_39 : decode cX2_isShut 39 = .ok (.iconst 0, 1) := by decide +kernel
theorem dX2_isShut_40 : decode cX2_isShut 40 = .ok (.invokevirtual 37, 3) := by decide +kernel
theorem dX2_isShut_43 : decode cX2_isShut 43 = .ok (.sipush 720, 3) := by decide +kernel
theorem dX2_isShut_46 : decode cX2_isShut 46 = .ok (.iadd, 1) := by decide +kernel
theorem dX2_isShut_47 : decode cX2_isShut 47 = .ok (.iload_n 2, 1) := by decide +kernel
theorem dX2_isShut_48 : decode cX2_isShut 48 = .ok (.isub, 1) := by decide +kernel
theorem dX2_isShut_49 : decode cX2_isShut 49 = .ok (.sipush 720, 3) := by decide +kernel
theorem dX2_isShut_52 : decode cX2_isShut 52 = .ok (.irem, 1) := by decide +kernel
theorem dX2_isShut_53 : decode cX2_isShut 53 = .ok (.iload_n 3, 1) := by decide +kernel
theorem dX2_isShut_54 : decode cX2_isShut 54 = .ok (.if_icmp .ge 7, 3) := by decide +kernel
theorem dX2_isShut_57 : decode cX2_isShut 57 = .ok (.iconst 1, 1) := by decide +kernel
theorem dX2_isShut_58 : decode cX2_isShut 58 = .ok (.goto 4, 3) := by decide +kernel
theorem dX2_isShut_61 : decode cX2_isShut 61 = .ok (.iconst 0, 1) := by decide +kernel
theorem dX2_isShut_62 : decode cX2_isShut 62 = .ok (.ireturn, 1) := by decide +kernel
set_option maxRecDepth 20000 in
theorem ggX2_clockTold_X2_advance_ : GoodIn wsX2_clockTold wsX2_advance_ := goodIn_r _ [5, 6, 7, 8, 4, 9, 10, 11, 12, 13, 14, 19, 20, 21, 22] (by decide +kernel) (by decide +kernel)
set_option maxRecDepth 20000 in
theorem gX2_clockTold_X2_advance_ : GoodIn wsX2_clockTold (wsV RX2 53 RX2 yX2_advance_ wsX2_advance_) := goodIn_app (goodIn_of _ (by decide +kernel)) ggX2_clockTold_X2_advance_
set_option maxRecDepth 20000 in
theorem ggX2_clockTold_X2_sh : GoodIn wsX2_clockTold wsX2_sh := goodIn_r _ [9, 10, 19, 20, 21, 22] (by decide +kernel) (by decide +kernel)
set_option maxRecDepth 20000 in
theorem gX2_clockTold_X2_sh : GoodIn wsX2_clockTold (wsV RX2 37 RX2 yX2_sh wsX2_sh) := goodIn_app (goodIn_of _ (by decide +kernel)) ggX2_clockTold_X2_sh
set_option maxRecDepth 20000 in
theorem ggX2_clockTold_X2_isShut : GoodIn wsX2_clockTold wsX2_isShut := goodIn_r _ [18, 6, 7, 8, 4, 9, 10, 19, 20, 21, 22] (by decide +kernel) (by decide +kernel)
set_option maxRecDepth 20000 in
theorem gX2_clockTold_X2_isShut : GoodIn wsX2_clockTold (wsV RX2 58 RX2 yX2_isShut wsX2_isShut) := goodIn_app (goodIn_of _ (by decide +kernel)) ggX2_clockTold_X2_isShut
theorem dX2_clockTold_0 : decode cX2_clockTold 0 = .ok (.iload_n 2, 1) := by decide +kernel
theorem dX2_clockTold_1 : decode cX2_clockTold 1 = .ok (.tableswitch 79 6 10 #[35, 41, 49, 57, 65], 35) := by decide +kernel
theorem dX2_clockTold_36 : decode cX2_clockTold 36 = .ok (.aload_n 0, 1) := by decide +kernel
theorem dX2_clockTold_37 : decode cX2_clockTold 37 = .ok (.iload_n 1, 1) := by decide +kernel
theorem dX2_clockTold_38 : decode cX2_clockTold 38 = .ok (.invokevirtual 53, 3) := by decide +kernel
theorem dX2_clockTold_41 : decode cX2_clockTold 41 = .ok (.ireturn, 1) := by decide +kernel
theorem dX2_clockTold_42 : decode cX2_clockTold 42 = .ok (.aload_n 0, 1) := by decide +kernel
theorem dX2_clockTold_43 : decode cX2_clockTold 43 = .ok (.iload_n 1, 1) := by decide +kernel
theorem dX2_clockTold_44 : decode cX2_clockTold 44 = .ok (.bipush 6, 2) := by decide +kernel
theorem dX2_clockTold_46 : decode cX2_clockTold 46 = .ok (.invokevirtual 37, 3) := by decide +kernel
theorem dX2_clockTold_49 : decode cX2_clockTold 49 = .ok (.ireturn, 1) := by decide +kernel
theorem dX2_clockTold_50 : decode cX2_clockTold 50 = .ok (.aload_n 0, 1) := by decide +kernel
theorem dX2_clockTold_51 : decode cX2_clockTold 51 = .ok (.iload_n 1, 1) := by decide +kernel
theorem dX2_clockTold_52 : decode cX2_clockTold 52 = .ok (.bipush 7, 2) := by decide +kernel
theorem dX2_clockTold_54 : decode cX2_clockTold 54 = .ok (.invokevirtual 37, 3) := by decide +kernel
theorem dX2_clockTold_57 : decode cX2_clockTold 57 = .ok (.ireturn, 1) := by decide +kernel
theorem dX2_clockTold_58 : decode cX2_clockTold 58 = .ok (.aload_n 0, 1) := by decide +kernel
theorem dX2_clockTold_59 : decode cX2_clockTold 59 = .ok (.iload_n 1, 1) := by decide +kernel
theorem dX2_clockTold_60 : decode cX2_clockTold 60 = .ok (.bipush 8, 2) := by decide +kernel
theorem dX2_clockTold_62 : decode cX2_clockTold 62 = .ok (.invokevirtual 37, 3) := by decide +kernel
theorem dX2_clockTold_65 : decode cX2_clockTold 65 = .ok (.ireturn, 1) := by decide +kernel
theorem dX2_clockTold_66 : decode cX2_clockTold 66 = .ok (.aload_n 0, 1) := by decide +kernel
theorem dX2_clockTold_67 : decode cX2_clockTold 67 = .ok (.iload_n 1, 1) := by decide +kernel
theorem dX2_clockTold_68 : decode cX2_clockTold 68 = .ok (.invokevirtual 58, 3) := by decide +kernel
theorem dX2_clockTold_71 : decode cX2_clockTold 71 = .ok (.ifCond .eq 7, 3) := by decide +kernel
theorem dX2_clockTold_74 : decode cX2_clockTold 74 = .ok (.iconst 1, 1) := by decide +kernel
theorem dX2_clockTold_75 : decode cX2_clockTold 75 = .ok (.goto 4, 3) := by decide +kernel
theorem dX2_clockTold_78 : decode cX2_clockTold 78 = .ok (.iconst 0, 1) := by decide +kernel
theorem dX2_clockTold_79 : decode cX2_clockTold 79 = .ok (.ireturn, 1) := by decide +kernel
theorem dX2_clockTold_80 : decode cX2_clockTold 80 = .ok (.aload_n 0, 1) := by decide +kernel
theorem dX2_clockTold_81 : decode cX2_clockTold 81 = .ok (.iload_n 1, 1) := by decide +kernel
theorem dX2_clockTold_82 : decode cX2_clockTold 82 = .ok (.iload_n 2, 1) := by decide +kernel
theorem dX2_clockTold_83 : decode cX2_clockTold 83 = .ok (.invokevirtual 37, 3) := by decide +kernel
theorem dX2_clockTold_86 : decode cX2_clockTold 86 = .ok (.ireturn, 1) := by decide +kernel
set_option maxRecDepth 20000 in
theorem ggX2_clock_X2_isClock : GoodIn wsX2_clock wsX2_isClock := goodIn_r _ [6, 7, 8, 9, 5, 10, 36, 37, 38, 39] (by decide +kernel) (by decide +kernel)
set_option maxRecDepth 20000 in
theorem gX2_clock_X2_isClock : GoodIn wsX2_clock (wsV RX2 45 RX2 yX2_isClock wsX2_isClock) := goodIn_app (goodIn_of _ (by decide +kernel)) ggX2_clock_X2_isClock
set_option maxRecDepth 20000 in
theorem ggX2_clock_X2_isIn : GoodIn wsX2_clock wsX2_isIn := goodIn_r _ [10] (by decide +kernel) (by decide +kernel)
set_option maxRecDepth 20000 in
theorem gX2_clock_X2_isIn : GoodIn wsX2_clock (va_wsS RX2 23 yX2_isIn wsX2_isIn) := goodIn_app (goodIn_of _ (by decide +kernel)) ggX2_clock_X2_isIn
set_option maxRecDepth 20000 in
theorem ggX2_clock_X2_clockTold : GoodIn wsX2_clock wsX2_clockTold := goodIn_r _ [14, 15, 16, 17, 5, 18, 19, 20, 21, 22, 23, 24, 25, 26, 27, 28, 29, 30, 31, 36, 37, 38, 39] (by decide +kernel) (by decide +kernel)
set_option maxRecDepth 20000 in
theorem gX2_clock_X2_clockTold : GoodIn wsX2_clock (wsV RX2 61 RX2 yX2_clockTold wsX2_clockTold) := goodIn_app (goodIn_of _ (by decide +kernel)) ggX2_clock_X2_clockTold
set_option maxRecDepth 20000 in
theorem ggX2_clock_X2_fail : GoodIn wsX2_clock wsX2_fail := goodIn_r _ [35, 1, 36, 37, 38, 39] (by decide +kernel) (by decide +kernel)
set_option maxRecDepth 20000 in
theorem gX2_clock_X2_fail : GoodIn wsX2_clock (wsV RX2 27 RX2 yX2_fail wsX2_fail) := goodIn_app (goodIn_of _ (by decide +kernel)) ggX2_clock_X2_fail
theorem dX2_clock_0 : decode cX2_clock 0 = .ok (.aload_n 0, 1) := by decide +kernel
theorem dX2_clock_1 : decode cX2_clock 1 = .ok (.iconst 0, 1) := by decide +kernel
theorem dX2_clock_2 : decode cX2_clock 2 = .ok (.putfield 16, 3) := by decide +kernel
theorem dX2_clock_5 : decode cX2_clock 5 = .ok (.aload_n 0, 1) := by decide +kernel
theorem dX2_clock_6 : decode cX2_clock 6 = .ok (.iload_n 1, 1) := by decide +kernel
theorem dX2_clock_7 : decode cX2_clock 7 = .ok (.invokevirtual 45, 3) := by decide +kernel
theorem dX2_clock_10 : decode cX2_clock 10 = .ok (.ifCond .eq 22, 3) := by decide +kernel
theorem dX2_clock_13 : decode cX2_clock 13 = .ok (.iload_n 2, 1) := by decide +kernel
theorem dX2_clock_14 : decode cX2_clock 14 = .ok (.iconst 0, 1) := by decide +kernel
theorem dX2_clock_15 : decode cX2_clock 15 = .ok (.bipush 10, 2) := by decide +kernel
theorem dX2_clock_17 : decode cX2_clock 17 = .ok (.invokestatic 23, 3) := by decide +kernel
theorem dX2_clock_20 : decode cX2_clock 20 = .ok (.ifCond .eq 12, 3) := by decide +kernel
theorem dX2_clock_23 : decode cX2_clock 23 = .ok (.aload_n 0, 1) := by decide +kernel
theorem dX2_clock_24 : decode cX2_clock 24 = .ok (.iload_n 1, 1) := by decide +kernel
theorem dX2_clock_25 : decode cX2_clock 25 = .ok (.iload_n 2, 1) := by decide +kernel
theorem dX2_clock_26 : decode cX2_clock 26 = .ok (.invokevirtual 61, 3) := by decide +kernel
theorem dX2_clock_29 : decode cX2_clock 29 = .ok (.goto 8, 3) := by decide +kernel
theorem dX2_clock_32 : decode cX2_clock 32 = .ok (.aload_n 0, 1) := by decide +kernel
theorem dX2_clock_33 : decode cX2_clock 33 = .ok (.iconst 1, 1) := by decide +kernel
theorem dX2_clock_34 : decode cX2_clock 34 = .ok (.invokevirtual 27, 3) := by decide +kernel
theorem dX2_clock_37 : decode cX2_clock 37 = .ok (.ireturn, 1) := by decide +kernel
set_option maxRecDepth 20000 in
theorem ggX2_off_X2_isClock : GoodIn wsX2_off wsX2_isClock := goodIn_r _ [6, 7, 8, 9, 5, 10, 25, 26, 27, 28] (by decide +kernel) (by decide +kernel)
set_option maxRecDepth 20000 in
theorem gX2_off_X2_isClock : GoodIn wsX2_off (wsV RX2 45 RX2 yX2_isClock wsX2_isClock) := goodIn_app (goodIn_of _ (by decide +kernel)) ggX2_off_X2_isClock
set_option maxRecDepth 20000 in
theorem ggX2_off_X2_offBy : GoodIn wsX2_off wsX2_offBy := goodIn_r _ [14, 15, 16, 17, 18, 5, 19, 20, 25, 26, 27, 28] (by decide +kernel) (by decide +kernel)
set_option maxRecDepth 20000 in
theorem gX2_off_X2_offBy : GoodIn wsX2_off (wsV RX2 55 RX2 yX2_offBy wsX2_offBy) := goodIn_app (goodIn_of _ (by decide +kernel)) ggX2_off_X2_offBy
set_option maxRecDepth 20000 in
theorem ggX2_off_X2_fail : GoodIn wsX2_off wsX2_fail := goodIn_r _ [24, 1, 25, 26, 27, 28] (by decide +kernel) (by decide +kernel)
set_option maxRecDepth 20000 in
theorem gX2_off_X2_fail : GoodIn wsX2_off (wsV RX2 27 RX2 yX2_fail wsX2_fail) := goodIn_app (goodIn_of _ (by decide +kernel)) ggX2_off_X2_fail
theorem dX2_off_0 : decode cX2_off 0 = .ok (.aload_n 0, 1) := by decide +kernel
theorem dX2_off_1 : decode cX2_off 1 = .ok (.iconst 0, 1) := by decide +kernel
theorem dX2_off_2 : decode cX2_off 2 = .ok (.putfield 16, 3) := by decide +kernel
theorem dX2_off_5 : decode cX2_off 5 = .ok (.aload_n 0, 1) := by decide +kernel
theorem dX2_off_6 : decode cX2_off 6 = .ok (.iload_n 1, 1) := by decide +kernel
theorem dX2_off_7 : decode cX2_off 7 = .ok (.invokevirtual 45, 3) := by decide +kernel
theorem dX2_off_10 : decode cX2_off 10 = .ok (.ifCond .eq 11, 3) := by decide +kernel
theorem dX2_off_13 : decode cX2_off 13 = .ok (.aload_n 0, 1) := by decide +kernel
theorem dX2_off_14 : decode cX2_off 14 = .ok (.iload_n 1, 1) := by decide +kernel
theorem dX2_off_15 : decode cX2_off 15 = .ok (.invokevirtual 55, 3) := by decide +kernel
theorem dX2_off_18 : decode cX2_off 18 = .ok (.goto 8, 3) := by decide +kernel
theorem dX2_off_21 : decode cX2_off 21 = .ok (.aload_n 0, 1) := by decide +kernel
theorem dX2_off_22 : decode cX2_off 22 = .ok (.iconst 1, 1) := by decide +kernel
theorem dX2_off_23 : decode cX2_off 23 = .ok (.invokevirtual 27, 3) := by decide +kernel
theorem dX2_off_26 : decode cX2_off 26 = .ok (.ireturn, 1) := by decide +kernel
set_option maxRecDepth 20000 in
theorem ggX2_all_X2_sh : GoodIn wsX2_all wsX2_sh := goodIn_r _ [6, 7, 8, 9, 10, 11] (by decide +kernel) (by decide +kernel)
set_option maxRecDepth 20000 in
theorem gX2_all_X2_sh : GoodIn wsX2_all (wsV RX2 37 RX2 yX2_sh wsX2_sh) := goodIn_app (goodIn_of _ (by decide +kernel)) ggX2_all_X2_sh
theorem dX2_all_0 : decode cX2_all 0 = .ok (.iconst 0, 1) := by decide +kernel
theorem dX2_all_1 : decode cX2_all 1 = .ok (.istore_n 2, 1) := by decide +kernel
theorem dX2_all_2 : decode cX2_all 2 = .ok (.iconst 0, 1) := by decide +kernel
theorem dX2_all_3 : decode cX2_all 3 = .ok (.istore_n 3, 1) := by decide +kernel
theorem dX2_all_4 : decode cX2_all 4 = .ok (.iload_n 3, 1) := by decide +kernel
theorem dX2_all_5 : decode cX2_all 5 = .ok (.aload_n 0, 1) := by decide +kernel
theorem dX2_all_6 : decode cX2_all 6 = .ok (.getfield 20, 3) := by decide +kernel
theorem dX2_all_9 : decode cX2_all 9 = .ok (.if_icmp .ge 18, 3) := by decide +kernel
theorem dX2_all_12 : decode cX2_all 12 = .ok (.iload_n 2, 1) := by decide +kernel
theorem dX2_all_13 : decode cX2_all 13 = .ok (.aload_n 0, 1) := by decide +kernel
theorem dX2_all_14 : decode cX2_all 14 = .ok (.iload_n 3, 1) := by decide +kernel
theorem dX2_all_15 : decode cX2_all 15 = .ok (.iload_n 1, 1) := by decide +kernel
theorem dX2_all_16 : decode cX2_all 16 = .ok (.invokevirtual 37, 3) := by decide +kernel
theorem dX2_all_19 : decode cX2_all 19 = .ok (.iadd, 1) := by decide +kernel
theorem dX2_all_20 : decode cX2_all 20 = .ok (.istore_n 2, 1) := by decide +kernel
theorem dX2_all_21 : decode cX2_all 21 = .ok (.iinc 3 1, 3) := by decide +kernel
theorem dX2_all_24 : decode cX2_all 24 = .ok (.goto (-20), 3) := by decide +kernel
theorem dX2_all_27 : decode cX2_all 27 = .ok (.iload_n 2, 1) := by decide +kernel
theorem dX2_all_28 : decode cX2_all 28 = .ok (.ireturn, 1) := by decide +kernel
set_option maxRecDepth 20000 in
theorem ggX2_counted_X2_all : GoodIn wsX2_counted wsX2_all := goodIn_r _ [11, 2, 12, 13, 14, 10, 15, 16, 21, 22, 23, 24] (by decide +kernel) (by decide +kernel)
set_option maxRecDepth 20000 in
theorem gX2_counted_X2_all : GoodIn wsX2_counted (wsV RX2 64 RX2 yX2_all wsX2_all) := goodIn_app (goodIn_of _ (by decide +kernel)) ggX2_counted_X2_all
set_option maxRecDepth 20000 in
theorem ggX2_counted_X2_offBy : GoodIn wsX2_counted wsX2_offBy := goodIn_r _ [20, 1, 12, 13, 14, 10, 15, 16, 21, 22, 23, 24] (by decide +kernel) (by decide +kernel)
set_option maxRecDepth 20000 in
theorem gX2_counted_X2_offBy : GoodIn wsX2_counted (wsV RX2 55 RX2 yX2_offBy wsX2_offBy) := goodIn_app (goodIn_of _ (by decide +kernel)) ggX2_counted_X2_offBy
theorem dX2_counted_0 : decode cX2_counted 0 = .ok (.iconst 0, 1) := by decide +kernel
theorem dX2_counted_1 : decode cX2_counted 1 = .ok (.istore_n 2, 1) := by decide +kernel
theorem dX2_counted_2 : decode cX2_counted 2 = .ok (.iload_n 1, 1) := by decide +kernel
theorem dX2_counted_3 : decode cX2_counted 3 = .ok (.tableswitch 80 0 5 #[37, 44, 55, 60, 66, 73], 37) := by decide +kernel
theorem dX2_counted_40 : decode cX2_counted 40 = .ok (.aload_n 0, 1) := by decide +kernel
theorem dX2_counted_41 : decode cX2_counted 41 = .ok (.getfield 13, 3) := by decide +kernel
theorem dX2_counted_44 : decode cX2_counted 44 = .ok (.iconst 0, 1) := by decide +kernel
theorem dX2_counted_45 : decode cX2_counted 45 = .ok (.iaload, 1) := by decide +kernel
theorem dX2_counted_46 : decode cX2_counted 46 = .ok (.ireturn, 1) := by decide +kernel
theorem dX2_counted_47 : decode cX2_counted 47 = .ok (.aload_n 0, 1) := by decide +kernel
theorem dX2_counted_48 : decode cX2_counted 48 = .ok (.getfield 13, 3) := by decide +kernel
theorem dX2_counted_51 : decode cX2_counted 51 = .ok (.iconst 0, 1) := by decide +kernel
theorem dX2_counted_52 : decode cX2_counted 52 = .ok (.iaload, 1) := by decide +kernel
theorem dX2_counted_53 : decode cX2_counted 53 = .ok (.sipush 720, 3) := by decide +kernel
theorem dX2_counted_56 : decode cX2_counted 56 = .ok (.irem, 1) := by decide +kernel
theorem dX2_counted_57 : decode cX2_counted 57 = .ok (.ireturn, 1) := by decide +kernel
theorem dX2_counted_58 : decode cX2_counted 58 = .ok (.aload_n 0, 1) := by decide +kernel
theorem dX2_counted_59 : decode cX2_counted 59 = .ok (.getfield 20, 3) := by decide +kernel
theorem dX2_counted_62 : decode cX2_counted 62 = .ok (.ireturn, 1) := by decide +kernel
theorem dX2_counted_63 : decode cX2_counted 63 = .ok (.aload_n 0, 1) := by decide +kernel
theorem dX2_counted_64 : decode cX2_counted 64 = .ok (.iconst 5, 1) := by decide +kernel
theorem dX2_counted_65 : decode cX2_counted 65 = .ok (.invokevirtual 64, 3) := by decide +kernel
theorem dX2_counted_68 : decode cX2_counted 68 = .ok (.ireturn, 1) := by decide +kernel
theorem dX2_counted_69 : decode cX2_counted 69 = .ok (.aload_n 0, 1) := by decide +kernel
theorem dX2_counted_70 : decode cX2_counted 70 = .ok (.bipush 6, 2) := by decide +kernel
theorem dX2_counted_72 : decode cX2_counted 72 = .ok (.invokevirtual 64, 3) := by decide +kernel
theorem dX2_counted_75 : decode cX2_counted 75 = .ok (.ireturn, 1) := by decide +kernel
theorem dX2_counted_76 : decode cX2_counted 76 = .ok (.aload_n 0, 1) := by decide +kernel
theorem dX2_counted_77 : decode cX2_counted 77 = .ok (.bipush 8, 2) := by decide +kernel
theorem dX2_counted_79 : decode cX2_counted 79 = .ok (.invokevirtual 64, 3) := by decide +kernel
theorem dX2_counted_82 : decode cX2_counted 82 = .ok (.ireturn, 1) := by decide +kernel
theorem dX2_counted_83 : decode cX2_counted 83 = .ok (.iconst 0, 1) := by decide +kernel
theorem dX2_counted_84 : decode cX2_counted 84 = .ok (.istore_n 3, 1) := by decide +kernel
theorem dX2_counted_85 : decode cX2_counted 85 = .ok (.iload_n 3, 1) := by decide +kernel
theorem dX2_counted_86 : decode cX2_counted 86 = .ok (.aload_n 0, 1) := by decide +kernel
theorem dX2_counted_87 : decode cX2_counted 87 = .ok (.getfield 20, 3) := by decide +kernel
theorem dX2_counted_90 : decode cX2_counted 90 = .ok (.if_icmp .ge 42, 3) := by decide +kernel
theorem dX2_counted_93 : decode cX2_counted 93 = .ok (.iload_n 2, 1) := by decide +kernel
theorem dX2_counted_94 : decode cX2_counted 94 = .ok (.iload_n 1, 1) := by decide +kernel
theorem dX2_counted_95 : decode cX2_counted 95 = .ok (.bipush 7, 2) := by decide +kernel
theorem dX2_counted_97 : decode cX2_counted 97 = .ok (.if_icmp .ne 14, 3) := by decide +kernel
theorem dX2_counted_100 : decode cX2_counted 100 = .ok (.aload_n 0, 1) := by decide +kernel
theorem dX2_counted_101 : decode cX2_counted 101 = .ok (.iload_n 3, 1) := by decide +kernel
theorem dX2_counted_102 : decode cX2_counted 102 = .ok (.invokevirtual 55, 3) := by decide +kernel
theorem dX2_counted_105 : decode cX2_counted 105 = .ok (.invokestatic 67, 3) := by decide +kernel
theorem dX2_counted_108 : decode cX2_counted 108 = .ok (.goto 16, 3) := by decide +kernel
theorem dX2_counted_111 : decode cX2_counted 111 = .ok (.aload_n 0, 1) := by decide +kernel
theorem dX2_counted_112 : decode cX2_counted 112 = .ok (.iload_n 3, 1) := by decide +kernel
theorem dX2_counted_113 : decode cX2_counted 113 = .ok (.invokevirtual 55, 3) := by decide +kernel
theorem dX2_counted_116 : decode cX2_counted 116 = .ok (.ifCond .ne 7, 3) := by decide +kernel
theorem dX2_counted_119 : decode cX2_counted 119 = .ok (.iconst 1, 1) := by decide +kernel
theorem dX2_counted_120 : decode cX2_counted 120 = .ok (.goto 4, 3) := by decide +kernel
theorem dX2_counted_123 : decode cX2_counted 123 = .ok (.iconst 0, 1) := by decide +kernel
theorem dX2_counted_124 : decode cX2_counted 124 = .ok (.iadd, 1) := by decide +kernel
theorem dX2_counted_125 : decode cX2_counted 125 = .ok (.istore_n 2, 1) := by decide +kernel
theorem dX2_counted_126 : decode cX2_counted 126 = .ok (.iinc 3 1, 3) := by decide +kernel
theorem dX2_counted_129 : decode cX2_counted 129 = .ok (.goto (-44), 3) := by decide +kernel
theorem dX2_counted_132 : decode cX2_counted 132 = .ok (.iload_n 2, 1) := by decide +kernel
theorem dX2_counted_133 : decode cX2_counted 133 = .ok (.ireturn, 1) := by decide +kernel
set_option maxRecDepth 20000 in
theorem ggX2_count_X2_isIn : GoodIn wsX2_count wsX2_isIn := goodIn_r _ [5] (by decide +kernel) (by decide +kernel)
set_option maxRecDepth 20000 in
theorem gX2_count_X2_isIn : GoodIn wsX2_count (va_wsS RX2 23 yX2_isIn wsX2_isIn) := goodIn_app (goodIn_of _ (by decide +kernel)) ggX2_count_X2_isIn
set_option maxRecDepth 20000 in
theorem ggX2_count_X2_counted : GoodIn wsX2_count wsX2_counted := goodIn_r _ [9, 10, 11, 12, 13, 14, 15, 16, 17, 18, 4, 19, 20, 21, 22, 23, 24, 25, 26, 27, 28, 33, 34, 35, 36] (by decide +kernel) (by decide +kernel)
set_option maxRecDepth 20000 in
theorem gX2_count_X2_counted : GoodIn wsX2_count (wsV RX2 72 RX2 yX2_counted wsX2_counted) := goodIn_app (goodIn_of _ (by decide +kernel)) ggX2_count_X2_counted
set_option maxRecDepth 20000 in
theorem ggX2_count_X2_fail : GoodIn wsX2_count wsX2_fail := goodIn_r _ [32, 1, 33, 34, 35, 36] (by decide +kernel) (by decide +kernel)
set_option maxRecDepth 20000 in
theorem gX2_count_X2_fail : GoodIn wsX2_count (wsV RX2 27 RX2 yX2_fail wsX2_fail) := goodIn_app (goodIn_of _ (by decide +kernel)) ggX2_count_X2_fail
theorem dX2_count_0 : decode cX2_count 0 = .ok (.aload_n 0, 1) := by decide +kernel
theorem dX2_count_1 : decode cX2_count 1 = .ok (.iconst 0, 1) := by decide +kernel
theorem dX2_count_2 : decode cX2_count 2 = .ok (.putfield 16, 3) := by decide +kernel
theorem dX2_count_5 : decode cX2_count 5 = .ok (.iload_n 1, 1) := by decide +kernel
theorem dX2_count_6 : decode cX2_count 6 = .ok (.iconst 0, 1) := by decide +kernel
theorem dX2_count_7 : decode cX2_count 7 = .ok (.bipush 7, 2) := by decide +kernel
theorem dX2_count_9 : decode cX2_count 9 = .ok (.invokestatic 23, 3) := by decide +kernel
theorem dX2_count_12 : decode cX2_count 12 = .ok (.ifCond .eq 11, 3) := by decide +kernel
theorem dX2_count_15 : decode cX2_count 15 = .ok (.aload_n 0, 1) := by decide +kernel
theorem dX2_count_16 : decode cX2_count 16 = .ok (.iload_n 1, 1) := by decide +kernel
theorem dX2_count_17 : decode cX2_count 17 = .ok (.invokevirtual 72, 3) := by decide +kernel
theorem dX2_count_20 : decode cX2_count 20 = .ok (.goto 8, 3) := by decide +kernel
theorem dX2_count_23 : decode cX2_count 23 = .ok (.aload_n 0, 1) := by decide +kernel
theorem dX2_count_24 : decode cX2_count 24 = .ok (.iconst 1, 1) := by decide +kernel
theorem dX2_count_25 : decode cX2_count 25 = .ok (.invokevirtual 27, 3) := by decide +kernel
theorem dX2_count_28 : decode cX2_count 28 = .ok (.ireturn, 1) := by decide +kernel
set_option maxRecDepth 20000 in
theorem ggX2_call_X2_sh : GoodIn wsX2_call wsX2_sh := goodIn_r _ [9, 10, 19, 20, 21, 22] (by decide +kernel) (by decide +kernel)
set_option maxRecDepth 20000 in
theorem gX2_call_X2_sh : GoodIn wsX2_call (wsV RX2 37 RX2 yX2_sh wsX2_sh) := goodIn_app (goodIn_of _ (by decide +kernel)) ggX2_call_X2_sh
set_option maxRecDepth 20000 in
theorem ggX2_call_X2_isShut : GoodIn wsX2_call wsX2_isShut := goodIn_r _ [14, 5, 6, 7, 8, 9, 10, 19, 20, 21, 22] (by decide +kernel) (by decide +kernel)
set_option maxRecDepth 20000 in
theorem gX2_call_X2_isShut : GoodIn wsX2_call (wsV RX2 58 RX2 yX2_isShut wsX2_isShut) := goodIn_app (goodIn_of _ (by decide +kernel)) ggX2_call_X2_isShut
set_option maxRecDepth 20000 in
theorem ggX2_call_X2_add : GoodIn wsX2_call wsX2_add := goodIn_r _ [18, 10, 19, 20, 21, 22] (by decide +kernel) (by decide +kernel)
set_option maxRecDepth 20000 in
theorem gX2_call_X2_add : GoodIn wsX2_call (wsV RX2 78 RX2 yX2_add wsX2_add) := goodIn_app (goodIn_of _ (by decide +kernel)) ggX2_call_X2_add
theorem dX2_call_0 : decode cX2_call 0 = .ok (.aload_n 0, 1) := by decide +kernel
theorem dX2_call_1 : decode cX2_call 1 = .ok (.iload_n 1, 1) := by decide +kernel
theorem dX2_call_2 : decode cX2_call 2 = .ok (.iconst 0, 1) := by decide +kernel
theorem dX2_call_3 : decode cX2_call 3 = .ok (.invokevirtual 37, 3) := by decide +kernel
theorem dX2_call_6 : decode cX2_call 6 = .ok (.istore_n 2, 1) := by decide +kernel
theorem dX2_call_7 : decode cX2_call 7 = .ok (.iload_n 2, 1) := by decide +kernel
theorem dX2_call_8 : decode cX2_call 8 = .ok (.bipush 30, 2) := by decide +kernel
theorem dX2_call_10 : decode cX2_call 10 = .ok (.irem, 1) := by decide +kernel
theorem dX2_call_11 : decode cX2_call 11 = .ok (.ifCond .ne 11, 3) := by decide +kernel
theorem dX2_call_14 : decode cX2_call 14 = .ok (.aload_n 0, 1) := by decide +kernel
theorem dX2_call_15 : decode cX2_call 15 = .ok (.iload_n 1, 1) := by decide +kernel
theorem dX2_call_16 : decode cX2_call 16 = .ok (.invokevirtual 58, 3) := by decide +kernel
theorem dX2_call_19 : decode cX2_call 19 = .ok (.ifCond .eq 4, 3) := by decide +kernel
theorem dX2_call_22 : decode cX2_call 22 = .ok (.return_, 1) := by decide +kernel
theorem dX2_call_23 : decode cX2_call 23 = .ok (.iload_n 2, 1) := by decide +kernel
theorem dX2_call_24 : decode cX2_call 24 = .ok (.ifCond .ne 8, 3) := by decide +kernel
theorem dX2_call_27 : decode cX2_call 27 = .ok (.bipush 12, 2) := by decide +kernel
theorem dX2_call_29 : decode cX2_call 29 = .ok (.goto 18, 3) := by decide +kernel
theorem dX2_call_32 : decode cX2_call 32 = .ok (.iload_n 2, 1) := by decide +kernel
theorem dX2_call_33 : decode cX2_call 33 = .ok (.bipush 60, 2) := by decide +kernel
theorem dX2_call_35 : decode cX2_call 35 = .ok (.irem, 1) := by decide +kernel
theorem dX2_call_36 : decode cX2_call 36 = .ok (.ifCond .ne 10, 3) := by decide +kernel
theorem dX2_call_39 : decode cX2_call 39 = .ok (.iload_n 2, 1) := by decide +kernel
theorem dX2_call_40 : decode cX2_call 40 = .ok (.bipush 60, 2) := by decide +kernel
theorem dX2_call_42 : decode cX2_call 42 = .ok (.idiv, 1) := by decide +kernel
theorem dX2_call_43 : decode cX2_call 43 = .ok (.goto 4, 3) := by decide +kernel
theorem dX2_call_46 : decode cX2_call 46 = .ok (.iconst 1, 1) := by decide +kernel
theorem dX2_call_47 : decode cX2_call 47 = .ok (.istore_n 3, 1) := by decide +kernel
theorem dX2_call_48 : decode cX2_call 48 = .ok (.iload_n 3, 1) := by decide +kernel
theorem dX2_call_49 : decode cX2_call 49 = .ok (.aload_n 0, 1) := by decide +kernel
theorem dX2_call_50 : decode cX2_call 50 = .ok (.iload_n 1, 1) := by decide +kernel
theorem dX2_call_51 : decode cX2_call 51 = .ok (.iconst 4, 1) := by decide +kernel
theorem dX2_call_52 : decode cX2_call 52 = .ok (.invokevirtual 37, 3) := by decide +kernel
theorem dX2_call_55 : decode cX2_call 55 = .ok (.invokestatic 75, 3) := by decide +kernel
theorem dX2_call_58 : decode cX2_call 58 = .ok (.istore 4, 2) := by decide +kernel
theorem dX2_call_60 : decode cX2_call 60 = .ok (.aload_n 0, 1) := by decide +kernel
theorem dX2_call_61 : decode cX2_call 61 = .ok (.iload_n 1, 1) := by decide +kernel
theorem dX2_call_62 : decode cX2_call 62 = .ok (.iconst 4, 1) := by decide +kernel
theorem dX2_call_63 : decode cX2_call 63 = .ok (.iload 4, 2) := by decide +kernel
theorem dX2_call_65 : decode cX2_call 65 = .ok (.ineg, 1) := by decide +kernel
theorem dX2_call_66 : decode cX2_call 66 = .ok (.invokevirtual 78, 3) := by decide +kernel
theorem dX2_call_69 : decode cX2_call 69 = .ok (.aload_n 0, 1) := by decide +kernel
theorem dX2_call_70 : decode cX2_call 70 = .ok (.iload_n 1, 1) := by decide +kernel
theorem dX2_call_71 : decode cX2_call 71 = .ok (.bipush 6, 2) := by decide +kernel
theorem dX2_call_73 : decode cX2_call 73 = .ok (.iload 4, 2) := by decide +kernel
theorem dX2_call_75 : decode cX2_call 75 = .ok (.invokevirtual 78, 3) := by decide +kernel
theorem dX2_call_78 : decode cX2_call 78 = .ok (.aload_n 0, 1) := by decide +kernel
theorem dX2_call_79 : decode cX2_call 79 = .ok (.iload_n 1, 1) := by decide +kernel
theorem dX2_call_80 : decode cX2_call 80 = .ok (.bipush 8, 2) := by decide +kernel
theorem dX2_call_82 : decode cX2_call 82 = .ok (.iload 4, 2) := by decide +kernel
theorem dX2_call_84 : decode cX2_call 84 = .ok (.invokevirtual 78, 3) := by decide +kernel
theorem dX2_call_87 : decode cX2_call 87 = .ok (.aload_n 0, 1) := by decide +kernel
theorem dX2_call_88 : decode cX2_call 88 = .ok (.iload_n 1, 1) := by decide +kernel
theorem dX2_call_89 : decode cX2_call 89 = .ok (.bipush 7, 2) := by decide +kernel
theorem dX2_call_91 : decode cX2_call 91 = .ok (.iload_n 3, 1) := by decide +kernel
theorem dX2_call_92 : decode cX2_call 92 = .ok (.iload 4, 2) := by decide +kernel
theorem dX2_call_94 : decode cX2_call 94 = .ok (.isub, 1) := by decide +kernel
theorem dX2_call_95 : decode cX2_call 95 = .ok (.invokevirtual 78, 3) := by decide +kernel
theorem dX2_call_98 : decode cX2_call 98 = .ok (.return_, 1) := by decide +kernel
set_option maxRecDepth 20000 in
theorem ggX2_minuteOn_X2_put : GoodIn wsX2_minuteOn wsX2_put := goodIn_r _ [11, 12, 40, 41, 42, 43] (by decide +kernel) (by decide +kernel)
set_option maxRecDepth 20000 in
theorem gX2_minuteOn_X2_put : GoodIn wsX2_minuteOn (wsV RX2 49 RX2 yX2_put wsX2_put) := goodIn_app (goodIn_of _ (by decide +kernel)) ggX2_minuteOn_X2_put
set_option maxRecDepth 20000 in
theorem ggX2_minuteOn_X2_sh : GoodIn wsX2_minuteOn wsX2_sh := goodIn_r _ [16, 12, 40, 41, 42, 43] (by decide +kernel) (by decide +kernel)
set_option maxRecDepth 20000 in
theorem gX2_minuteOn_X2_sh : GoodIn wsX2_minuteOn (wsV RX2 37 RX2 yX2_sh wsX2_sh) := goodIn_app (goodIn_of _ (by decide +kernel)) ggX2_minuteOn_X2_sh
set_option maxRecDepth 20000 in
theorem ggX2_minuteOn_X2_advance_ : GoodIn wsX2_minuteOn wsX2_advance_ := goodIn_r _ [20, 13, 14, 15, 10, 16, 12, 21, 22, 23, 24, 40, 41, 42, 43] (by decide +kernel) (by decide +kernel)
set_option maxRecDepth 20000 in
theorem gX2_minuteOn_X2_advance_ : GoodIn wsX2_minuteOn (wsV RX2 53 RX2 yX2_advance_ wsX2_advance_) := goodIn_app (goodIn_of _ (by decide +kernel)) ggX2_minuteOn_X2_advance_
set_option maxRecDepth 20000 in
theorem ggX2_minuteOn_X2_add : GoodIn wsX2_minuteOn wsX2_add := goodIn_r _ [28, 12, 40, 41, 42, 43] (by decide +kernel) (by decide +kernel)
set_option maxRecDepth 20000 in
theorem gX2_minuteOn_X2_add : GoodIn wsX2_minuteOn (wsV RX2 78 RX2 yX2_add wsX2_add) := goodIn_app (goodIn_of _ (by decide +kernel)) ggX2_minuteOn_X2_add
set_option maxRecDepth 20000 in
theorem ggX2_minuteOn_X2_call : GoodIn wsX2_minuteOn wsX2_call := goodIn_r _ [32, 33, 34, 5, 35, 13, 14, 15, 10, 16, 12, 36, 37, 38, 39, 25, 26, 27, 28, 40, 41, 42, 43] (by decide +kernel) (by decide +kernel)
set_option maxRecDepth 20000 in
theorem gX2_minuteOn_X2_call : GoodIn wsX2_minuteOn (wsV RX2 81 RX2 yX2_call wsX2_call) := goodIn_app (goodIn_of _ (by decide +kernel)) ggX2_minuteOn_X2_call
theorem dX2_minuteOn_0 : decode cX2_minuteOn 0 = .ok (.iconst 0, 1) := by decide +kernel
theorem dX2_minuteOn_1 : decode cX2_minuteOn 1 = .ok (.istore_n 1, 1) := by decide +kernel
theorem dX2_minuteOn_2 : decode cX2_minuteOn 2 = .ok (.iload_n 1, 1) := by decide +kernel
theorem dX2_minuteOn_3 : decode cX2_minuteOn 3 = .ok (.aload_n 0, 1) := by decide +kernel
theorem dX2_minuteOn_4 : decode cX2_minuteOn 4 = .ok (.getfield 20, 3) := by decide +kernel
theorem dX2_minuteOn_7 : decode cX2_minuteOn 7 = .ok (.if_icmp .ge 140, 3) := by decide +kernel
theorem dX2_minuteOn_10 : decode cX2_minuteOn 10 = .ok (.aload_n 0, 1) := by decide +kernel
theorem dX2_minuteOn_11 : decode cX2_minuteOn 11 = .ok (.iload_n 1, 1) := by decide +kernel
theorem dX2_minuteOn_12 : decode cX2_minuteOn 12 = .ok (.bipush 8, 2) := by decide +kernel
theorem dX2_minuteOn_14 : decode cX2_minuteOn 14 = .ok (.iconst 0, 1) := by decide +kernel
theorem dX2_minuteOn_15 : decode cX2_minuteOn 15 = .ok (.invokevirtual 49, 3) := by decide +kernel
theorem dX2_minuteOn_18 : decode cX2_minuteOn 18 = .ok (.aload_n 0, 1) := by decide +kernel
theorem dX2_minuteOn_19 : decode cX2_minuteOn 19 = .ok (.iload_n 1, 1) := by decide +kernel
theorem dX2_minuteOn_20 : decode cX2_minuteOn 20 = .ok (.iconst 5, 1) := by decide +kernel
theorem dX2_minuteOn_21 : decode cX2_minuteOn 21 = .ok (.invokevirtual 37, 3) := by decide +kernel
theorem dX2_minuteOn_24 : decode cX2_minuteOn 24 = .ok (.ifCond .ne 6, 3) := by decide +kernel
theorem dX2_minuteOn_27 : decode cX2_minuteOn 27 = .ok (.goto 114, 3) := by decide +kernel
theorem dX2_minuteOn_30 : decode cX2_minuteOn 30 = .ok (.aload_n 0, 1) := by decide +kernel
theorem dX2_minuteOn_31 : decode cX2_minuteOn 31 = .ok (.iload_n 1, 1) := by decide +kernel
theorem dX2_minuteOn_32 : decode cX2_minuteOn 32 = .ok (.iconst 1, 1) := by decide +kernel
theorem dX2_minuteOn_33 : decode cX2_minuteOn 33 = .ok (.aload_n 0, 1) := by decide +kernel
theorem dX2_minuteOn_34 : decode cX2_minuteOn 34 = .ok (.iload_n 1, 1) := by decide +kernel
theorem dX2_minuteOn_35 : decode cX2_minuteOn 35 = .ok (.invokevirtual 53, 3) := by decide +kernel
theorem dX2_minuteOn_38 : decode cX2_minuteOn 38 = .ok (.invokevirtual 78, 3) := by decide +kernel
theorem dX2_minuteOn_41 : decode cX2_minuteOn 41 = .ok (.aload_n 0, 1) := by decide +kernel
theorem dX2_minuteOn_42 : decode cX2_minuteOn 42 = .ok (.iload_n 1, 1) := by decide +kernel
theorem dX2_minuteOn_43 : decode cX2_minuteOn 43 = .ok (.iconst 1, 1) := by decide +kernel
theorem dX2_minuteOn_44 : decode cX2_minuteOn 44 = .ok (.invokevirtual 37, 3) := by decide +kernel
theorem dX2_minuteOn_47 : decode cX2_minuteOn 47 = .ok (.sipush 900, 3) := by decide +kernel
theorem dX2_minuteOn_50 : decode cX2_minuteOn 50 = .ok (.if_icmp .lt 38, 3) := by decide +kernel
theorem dX2_minuteOn_53 : decode cX2_minuteOn 53 = .ok (.aload_n 0, 1) := by decide +kernel
theorem dX2_minuteOn_54 : decode cX2_minuteOn 54 = .ok (.iload_n 1, 1) := by decide +kernel
theorem dX2_minuteOn_55 : decode cX2_minuteOn 55 = .ok (.iconst 1, 1) := by decide +kernel
theorem dX2_minuteOn_56 : decode cX2_minuteOn 56 = .ok (.sipush (-900), 3) := by decide +kernel
theorem dX2_minuteOn_59 : decode cX2_minuteOn 59 = .ok (.invokevirtual 78, 3) := by decide +kernel
theorem dX2_minuteOn_62 : decode cX2_minuteOn 62 = .ok (.aload_n 0, 1) := by decide +kernel
theorem dX2_minuteOn_63 : decode cX2_minuteOn 63 = .ok (.iload_n 1, 1) := by decide +kernel
theorem dX2_minuteOn_64 : decode cX2_minuteOn 64 = .ok (.iconst 0, 1) := by decide +kernel
theorem dX2_minuteOn_65 : decode cX2_minuteOn 65 = .ok (.aload_n 0, 1) := by decide +kernel
theorem dX2_minuteOn_66 : decode cX2_minuteOn 66 = .ok (.iload_n 1, 1) := by decide +kernel
theorem dX2_minuteOn_67 : decode cX2_minuteOn 67 = .ok (.iconst 0, 1) := by decide +kernel
theorem dX2_minuteOn_68 : decode cX2_minuteOn 68 = .ok (.invokevirtual 37, 3) := by decide +kernel
theorem dX2_minuteOn_71 : decode cX2_minuteOn 71 = .ok (.iconst 1, 1) := by decide +kernel
theorem dX2_minuteOn_72 : decode cX2_minuteOn 72 = .ok (.iadd, 1) := by decide +kernel
theorem dX2_minuteOn_73 : decode cX2_minuteOn 73 = .ok (.sipush 720, 3) := by decide +kernel
theorem dX2_minuteOn_76 : decode cX2_minuteOn 76 = .ok (.irem, 1) := by decide +kernel
theorem dX2_minuteOn_77 : decode cX2_minuteOn 77 = .ok (.invokevirtual 49, 3) := by decide +kernel
theorem dX2_minuteOn_80 : decode cX2_minuteOn 80 = .ok (.aload_n 0, 1) := by decide +kernel
theorem dX2_minuteOn_81 : decode cX2_minuteOn 81 = .ok (.iload_n 1, 1) := by decide +kernel
theorem dX2_minuteOn_82 : decode cX2_minuteOn 82 = .ok (.invokevirtual 81, 3) := by decide +kernel
theorem dX2_minuteOn_85 : decode cX2_minuteOn 85 = .ok (.goto (-44), 3) := by decide +kernel
theorem dX2_minuteOn_88 : decode cX2_minuteOn 88 = .ok (.aload_n 0, 1) := by decide +kernel
theorem dX2_minuteOn_89 : decode cX2_minuteOn 89 = .ok (.iload_n 1, 1) := by decide +kernel
theorem dX2_minuteOn_90 : decode cX2_minuteOn 90 = .ok (.iconst 2, 1) := by decide +kernel
theorem dX2_minuteOn_91 : decode cX2_minuteOn 91 = .ok (.iconst (-1), 1) := by decide +kernel
theorem dX2_minuteOn_92 : decode cX2_minuteOn 92 = .ok (.invokevirtual 78, 3) := by decide +kernel
theorem dX2_minuteOn_95 : decode cX2_minuteOn 95 = .ok (.aload_n 0, 1) := by decide +kernel
theorem dX2_minuteOn_96 : decode cX2_minuteOn 96 = .ok (.getfield 13, 3) := by decide +kernel
theorem dX2_minuteOn_99 : decode cX2_minuteOn 99 = .ok (.iconst 0, 1) := by decide +kernel
theorem dX2_minuteOn_100 : decode cX2_minuteOn 100 = .ok (.iaload, 1) := by decide +kernel
theorem dX2_minuteOn_101 : decode cX2_minuteOn 101 = .ok (.bipush 10, 2) := by decide +kernel
theorem dX2_minuteOn_103 : decode cX2_minuteOn 103 = .ok (.irem, 1) := by decide +kernel
theorem dX2_minuteOn_104 : decode cX2_minuteOn 104 = .ok (.ifCond .ne 21, 3) := by decide +kernel
theorem dX2_minuteOn_107 : decode cX2_minuteOn 107 = .ok (.aload_n 0, 1) := by decide +kernel
theorem dX2_minuteOn_108 : decode cX2_minuteOn 108 = .ok (.iload_n 1, 1) := by decide +kernel
theorem dX2_minuteOn_109 : decode cX2_minuteOn 109 = .ok (.iconst 3, 1) := by decide +kernel
theorem dX2_minuteOn_110 : decode cX2_minuteOn 110 = .ok (.iconst 0, 1) := by decide +kernel
theorem dX2_minuteOn_111 : decode cX2_minuteOn 111 = .ok (.aload_n 0, 1) := by decide +kernel
theorem dX2_minuteOn_112 : decode cX2_minuteOn 112 = .ok (.iload_n 1, 1) := by decide +kernel
theorem dX2_minuteOn_113 : decode cX2_minuteOn 113 = .ok (.iconst 3, 1) := by decide +kernel
theorem dX2_minuteOn_114 : decode cX2_minuteOn 114 = .ok (.invokevirtual 37, 3) := by decide +kernel
theorem dX2_minuteOn_117 : decode cX2_minuteOn 117 = .ok (.iconst 1, 1) := by decide +kernel
theorem dX2_minuteOn_118 : decode cX2_minuteOn 118 = .ok (.isub, 1) := by decide +kernel
theorem dX2_minuteOn_119 : decode cX2_minuteOn 119 = .ok (.invokestatic 85, 3) := by decide +kernel
theorem dX2_minuteOn_122 : decode cX2_minuteOn 122 = .ok (.invokevirtual 49, 3) := by decide +kernel
theorem dX2_minuteOn_125 : decode cX2_minuteOn 125 = .ok (.aload_n 0, 1) := by decide +kernel
theorem dX2_minuteOn_126 : decode cX2_minuteOn 126 = .ok (.iload_n 1, 1) := by decide +kernel
theorem dX2_minuteOn_127 : decode cX2_minuteOn 127 = .ok (.iconst 2, 1) := by decide +kernel
theorem dX2_minuteOn_128 : decode cX2_minuteOn 128 = .ok (.invokevirtual 37, 3) := by decide +kernel
theorem dX2_minuteOn_131 : decode cX2_minuteOn 131 = .ok (.ifCond .ne 10, 3) := by decide +kernel
theorem dX2_minuteOn_134 : decode cX2_minuteOn 134 = .ok (.aload_n 0, 1) := by decide +kernel
theorem dX2_minuteOn_135 : decode cX2_minuteOn 135 = .ok (.iload_n 1, 1) := by decide +kernel
theorem dX2_minuteOn_136 : decode cX2_minuteOn 136 = .ok (.iconst 5, 1) := by decide +kernel
theorem dX2_minuteOn_137 : decode cX2_minuteOn 137 = .ok (.iconst 0, 1) := by decide +kernel
theorem dX2_minuteOn_138 : decode cX2_minuteOn 138 = .ok (.invokevirtual 49, 3) := by decide +kernel
theorem dX2_minuteOn_141 : decode cX2_minuteOn 141 = .ok (.iinc 1 1, 3) := by decide +kernel
theorem dX2_minuteOn_144 : decode cX2_minuteOn 144 = .ok (.goto (-142), 3) := by decide +kernel
theorem dX2_minuteOn_147 : decode cX2_minuteOn 147 = .ok (.aload_n 0, 1) := by decide +kernel
theorem dX2_minuteOn_148 : decode cX2_minuteOn 148 = .ok (.getfield 13, 3) := by decide +kernel
theorem dX2_minuteOn_151 : decode cX2_minuteOn 151 = .ok (.iconst 0, 1) := by decide +kernel
theorem dX2_minuteOn_152 : decode cX2_minuteOn 152 = .ok (.dup2, 1) := by decide +kernel
theorem dX2_minuteOn_153 : decode cX2_minuteOn 153 = .ok (.iaload, 1) := by decide +kernel
theorem dX2_minuteOn_154 : decode cX2_minuteOn 154 = .ok (.iconst 1, 1) := by decide +kernel
theorem dX2_minuteOn_155 : decode cX2_minuteOn 155 = .ok (.iadd, 1) := by decide +kernel
theorem dX2_minuteOn_156 : decode cX2_minuteOn 156 = .ok (.iastore, 1) := by decide +kernel
theorem dX2_minuteOn_157 : decode cX2_minuteOn 157 = .ok (.return_, 1) := by decide +kernel
set_option maxRecDepth 20000 in
theorem ggX2_minutesOn_X2_minuteOn : GoodIn wsX2_minutesOn wsX2_minuteOn := goodIn_r _ [5, 6, 7, 8, 9, 10, 11, 12, 13, 14, 4, 15, 16, 17, 18, 19, 20, 21, 22, 23, 24, 25, 26, 27, 28, 29, 30, 31, 32, 33, 34, 35, 36, 37, 38, 39, 40, 41, 42, 43, 44, 45, 46, 47] (by decide +kernel) (by decide +kernel)
set_option maxRecDepth 20000 in
theorem gX2_minutesOn_X2_minuteOn : GoodIn wsX2_minutesOn (wsV RX2 88 RX2 yX2_minuteOn wsX2_minuteOn) := goodIn_app (goodIn_of _ (by decide +kernel)) ggX2_minutesOn_X2_minuteOn
theorem dX2_minutesOn_0 : decode cX2_minutesOn 0 = .ok (.iconst 0, 1) := by decide +kernel
theorem dX2_minutesOn_1 : decode cX2_minutesOn 1 = .ok (.istore_n 2, 1) := by decide +kernel
theorem dX2_minutesOn_2 : decode cX2_minutesOn 2 = .ok (.iload_n 2, 1) := by decide +kernel
theorem dX2_minutesOn_3 : decode cX2_minutesOn 3 = .ok (.iload_n 1, 1) := by decide +kernel
theorem dX2_minutesOn_4 : decode cX2_minutesOn 4 = .ok (.if_icmp .ge 13, 3) := by decide +kernel
theorem dX2_minutesOn_7 : decode cX2_minutesOn 7 = .ok (.aload_n 0, 1) := by decide +kernel
theorem dX2_minutesOn_8 : decode cX2_minutesOn 8 = .ok (.invokevirtual 88, 3) := by decide +kernel
theorem dX2_minutesOn_11 : decode cX2_minutesOn 11 = .ok (.iinc 2 1, 3) := by decide +kernel
theorem dX2_minutesOn_14 : decode cX2_minutesOn 14 = .ok (.goto (-12), 3) := by decide +kernel
theorem dX2_minutesOn_17 : decode cX2_minutesOn 17 = .ok (.return_, 1) := by decide +kernel
set_option maxRecDepth 20000 in
theorem ggX2_pass_X2_isIn : GoodIn wsX2_pass wsX2_isIn := goodIn_r _ [5] (by decide +kernel) (by decide +kernel)
set_option maxRecDepth 20000 in
theorem gX2_pass_X2_isIn : GoodIn wsX2_pass (va_wsS RX2 23 yX2_isIn wsX2_isIn) := goodIn_app (goodIn_of _ (by decide +kernel)) ggX2_pass_X2_isIn
set_option maxRecDepth 20000 in
theorem ggX2_pass_X2_fail : GoodIn wsX2_pass wsX2_fail := goodIn_r _ [9, 1, 60, 61, 62, 63] (by decide +kernel) (by decide +kernel)
set_option maxRecDepth 20000 in
theorem gX2_pass_X2_fail : GoodIn wsX2_pass (wsV RX2 27 RX2 yX2_fail wsX2_fail) := goodIn_app (goodIn_of _ (by decide +kernel)) ggX2_pass_X2_fail
set_option maxRecDepth 20000 in
theorem ggX2_pass_X2_all : GoodIn wsX2_pass wsX2_all := goodIn_r _ [13, 14, 15, 16, 17, 4, 18, 19, 60, 61, 62, 63] (by decide +kernel) (by decide +kernel)
set_option maxRecDepth 20000 in
theorem gX2_pass_X2_all : GoodIn wsX2_pass (wsV RX2 64 RX2 yX2_all wsX2_all) := goodIn_app (goodIn_of _ (by decide +kernel)) ggX2_pass_X2_all
set_option maxRecDepth 20000 in
theorem ggX2_pass_X2_minutesOn : GoodIn wsX2_pass wsX2_minutesOn := goodIn_r _ [23, 24, 25, 26, 4, 27, 14, 28, 29, 30, 31, 32, 33, 34, 35, 36, 19, 15, 16, 17, 18, 37, 38, 39, 40, 41, 42, 43, 44, 45, 46, 47, 48, 49, 50, 51, 52, 53, 54, 55, 56, 57, 58, 59, 60, 61, 62, 63] (by decide +kernel) (by decide +kernel)
set_option maxRecDepth 20000 in
theorem gX2_pass_X2_minutesOn : GoodIn wsX2_pass (wsV RX2 91 RX2 yX2_minutesOn wsX2_minutesOn) := goodIn_app (goodIn_of _ (by decide +kernel)) ggX2_pass_X2_minutesOn
theorem dX2_pass_0 : decode cX2_pass 0 = .ok (.aload_n 0, 1) := by decide +kernel
theorem dX2_pass_1 : decode cX2_pass 1 = .ok (.iconst 0, 1) := by decide +kernel
theorem dX2_pass_2 : decode cX2_pass 2 = .ok (.putfield 16, 3) := by decide +kernel
theorem dX2_pass_5 : decode cX2_pass 5 = .ok (.iload_n 1, 1) := by decide +kernel
theorem dX2_pass_6 : decode cX2_pass 6 = .ok (.iconst 1, 1) := by decide +kernel
theorem dX2_pass_7 : decode cX2_pass 7 = .ok (.sipush 720, 3) := by decide +kernel
theorem dX2_pass_10 : decode cX2_pass 10 = .ok (.invokestatic 23, 3) := by decide +kernel
theorem dX2_pass_13 : decode cX2_pass 13 = .ok (.ifCond .ne 9, 3) := by decide +kernel
theorem dX2_pass_16 : decode cX2_pass 16 = .ok (.aload_n 0, 1) := by decide +kernel
theorem dX2_pass_17 : decode cX2_pass 17 = .ok (.iconst 1, 1) := by decide +kernel
theorem dX2_pass_18 : decode cX2_pass 18 = .ok (.invokevirtual 27, 3) := by decide +kernel
theorem dX2_pass_21 : decode cX2_pass 21 = .ok (.ireturn, 1) := by decide +kernel
theorem dX2_pass_22 : decode cX2_pass 22 = .ok (.aload_n 0, 1) := by decide +kernel
theorem dX2_pass_23 : decode cX2_pass 23 = .ok (.bipush 6, 2) := by decide +kernel
theorem dX2_pass_25 : decode cX2_pass 25 = .ok (.invokevirtual 64, 3) := by decide +kernel
theorem dX2_pass_28 : decode cX2_pass 28 = .ok (.istore_n 2, 1) := by decide +kernel
theorem dX2_pass_29 : decode cX2_pass 29 = .ok (.aload_n 0, 1) := by decide +kernel
theorem dX2_pass_30 : decode cX2_pass 30 = .ok (.iload_n 1, 1) := by decide +kernel
theorem dX2_pass_31 : decode cX2_pass 31 = .ok (.invokevirtual 91, 3) := by decide +kernel
theorem dX2_pass_34 : decode cX2_pass 34 = .ok (.aload_n 0, 1) := by decide +kernel
theorem dX2_pass_35 : decode cX2_pass 35 = .ok (.bipush 6, 2) := by decide +kernel
theorem dX2_pass_37 : decode cX2_pass 37 = .ok (.invokevirtual 64, 3) := by decide +kernel
theorem dX2_pass_40 : decode cX2_pass 40 = .ok (.iload_n 2, 1) := by decide +kernel
theorem dX2_pass_41 : decode cX2_pass 41 = .ok (.isub, 1) := by decide +kernel
theorem dX2_pass_42 : decode cX2_pass 42 = .ok (.ireturn, 1) := by decide +kernel
theorem dX2_kept_0 : decode cX2_kept 0 = .ok (.iconst 2, 1) := by decide +kernel
theorem dX2_kept_1 : decode cX2_kept 1 = .ok (.anewarray 94, 3) := by decide +kernel
theorem dX2_kept_4 : decode cX2_kept 4 = .ok (.dup, 1) := by decide +kernel
theorem dX2_kept_5 : decode cX2_kept 5 = .ok (.iconst 0, 1) := by decide +kernel
theorem dX2_kept_6 : decode cX2_kept 6 = .ok (.aload_n 0, 1) := by decide +kernel
theorem dX2_kept_7 : decode cX2_kept 7 = .ok (.getfield 9, 3) := by decide +kernel
theorem dX2_kept_10 : decode cX2_kept 10 = .ok (.invokevirtual 95, 3) := by decide +kernel
theorem dX2_kept_13 : decode cX2_kept 13 = .ok (.checkcast 94, 3) := by decide +kernel
theorem dX2_kept_16 : decode cX2_kept 16 = .ok (.aastore, 1) := by decide +kernel
theorem dX2_kept_17 : decode cX2_kept 17 = .ok (.dup, 1) := by decide +kernel
theorem dX2_kept_18 : decode cX2_kept 18 = .ok (.iconst 1, 1) := by decide +kernel
theorem dX2_kept_19 : decode cX2_kept 19 = .ok (.aload_n 0, 1) := by decide +kernel
theorem dX2_kept_20 : decode cX2_kept 20 = .ok (.getfield 13, 3) := by decide +kernel
theorem dX2_kept_23 : decode cX2_kept 23 = .ok (.invokevirtual 95, 3) := by decide +kernel
theorem dX2_kept_26 : decode cX2_kept 26 = .ok (.checkcast 94, 3) := by decide +kernel
theorem dX2_kept_29 : decode cX2_kept 29 = .ok (.aastore, 1) := by decide +kernel
theorem dX2_kept_30 : decode cX2_kept 30 = .ok (.areturn, 1) := by decide +kernel
theorem dX2_bringBack_0 : decode cX2_bringBack 0 = .ok (.aload_n 1, 1) := by decide +kernel
theorem dX2_bringBack_1 : decode cX2_bringBack 1 = .ok (.iconst 0, 1) := by decide +kernel
theorem dX2_bringBack_2 : decode cX2_bringBack 2 = .ok (.aaload, 1) := by decide +kernel
theorem dX2_bringBack_3 : decode cX2_bringBack 3 = .ok (.iconst 0, 1) := by decide +kernel
theorem dX2_bringBack_4 : decode cX2_bringBack 4 = .ok (.aload_n 0, 1) := by decide +kernel
theorem dX2_bringBack_5 : decode cX2_bringBack 5 = .ok (.getfield 9, 3) := by decide +kernel
theorem dX2_bringBack_8 : decode cX2_bringBack 8 = .ok (.iconst 0, 1) := by decide +kernel
theorem dX2_bringBack_9 : decode cX2_bringBack 9 = .ok (.aload_n 0, 1) := by decide +kernel
theorem dX2_bringBack_10 : decode cX2_bringBack 10 = .ok (.getfield 9, 3) := by decide +kernel
theorem dX2_bringBack_13 : decode cX2_bringBack 13 = .ok (.arraylength, 1) := by decide +kernel
theorem dX2_bringBack_14 : decode cX2_bringBack 14 = .ok (.invokestatic 31, 3) := by decide +kernel
theorem dX2_bringBack_17 : decode cX2_bringBack 17 = .ok (.aload_n 0, 1) := by decide +kernel
theorem dX2_bringBack_18 : decode cX2_bringBack 18 = .ok (.getfield 13, 3) := by decide +kernel
theorem dX2_bringBack_21 : decode cX2_bringBack 21 = .ok (.iconst 0, 1) := by decide +kernel
theorem dX2_bringBack_22 : decode cX2_bringBack 22 = .ok (.aload_n 1, 1) := by decide +kernel
theorem dX2_bringBack_23 : decode cX2_bringBack 23 = .ok (.iconst 1, 1) := by decide +kernel
theorem dX2_bringBack_24 : decode cX2_bringBack 24 = .ok (.aaload, 1) := by decide +kernel
theorem dX2_bringBack_25 : decode cX2_bringBack 25 = .ok (.iconst 0, 1) := by decide +kernel
theorem dX2_bringBack_26 : decode cX2_bringBack 26 = .ok (.iaload, 1) := by decide +kernel
theorem dX2_bringBack_27 : decode cX2_bringBack 27 = .ok (.iastore, 1) := by decide +kernel
theorem dX2_bringBack_28 : decode cX2_bringBack 28 = .ok (.return_, 1) := by decide +kernel
set_option maxRecDepth 20000 in
theorem ggX2_next_X2_isClock : GoodIn wsX2_next wsX2_isClock := goodIn_r _ [6, 7, 8, 9, 5, 10, 74, 75, 76, 77] (by decide +kernel) (by decide +kernel)
set_option maxRecDepth 20000 in
theorem gX2_next_X2_isClock : GoodIn wsX2_next (wsV RX2 45 RX2 yX2_isClock wsX2_isClock) := goodIn_app (goodIn_of _ (by decide +kernel)) ggX2_next_X2_isClock
set_option maxRecDepth 20000 in
theorem ggX2_next_X2_fail : GoodIn wsX2_next wsX2_fail := goodIn_r _ [14, 1, 74, 75, 76, 77] (by decide +kernel) (by decide +kernel)
set_option maxRecDepth 20000 in
theorem gX2_next_X2_fail : GoodIn wsX2_next (wsV RX2 27 RX2 yX2_fail wsX2_fail) := goodIn_app (goodIn_of _ (by decide +kernel)) ggX2_next_X2_fail
set_option maxRecDepth 20000 in
theorem ggX2_next_X2_kept : GoodIn wsX2_next wsX2_kept := goodIn_r _ [18, 19, 20, 21, 22, 23, 24, 25, 26, 74, 75, 76, 77] (by decide +kernel) (by decide +kernel)
set_option maxRecDepth 20000 in
theorem gX2_next_X2_kept : GoodIn wsX2_next (wsV RX2 99 RX2 yX2_kept wsX2_kept) := goodIn_app (goodIn_of _ (by decide +kernel)) ggX2_next_X2_kept
set_option maxRecDepth 20000 in
theorem ggX2_next_X2_minuteOn : GoodIn wsX2_next wsX2_minuteOn := goodIn_r _ [30, 7, 26, 31, 32, 33, 34, 35, 36, 37, 5, 38, 20, 39, 40, 41, 42, 43, 44, 45, 46, 47, 48, 49, 50, 51, 52, 53, 54, 55, 56, 57, 58, 59, 60, 61, 62, 63, 64, 65, 74, 75, 76, 77] (by decide +kernel) (by decide +kernel)
set_option maxRecDepth 20000 in
theorem gX2_next_X2_minuteOn : GoodIn wsX2_next (wsV RX2 88 RX2 yX2_minuteOn wsX2_minuteOn) := goodIn_app (goodIn_of _ (by decide +kernel)) ggX2_next_X2_minuteOn
set_option maxRecDepth 20000 in
theorem ggX2_next_X2_sh : GoodIn wsX2_next wsX2_sh := goodIn_r _ [42, 20, 74, 75, 76, 77] (by decide +kernel) (by decide +kernel)
set_option maxRecDepth 20000 in
theorem gX2_next_X2_sh : GoodIn wsX2_next (wsV RX2 37 RX2 yX2_sh wsX2_sh) := goodIn_app (goodIn_of _ (by decide +kernel)) ggX2_next_X2_sh
set_option maxRecDepth 20000 in
theorem ggX2_next_X2_bringBack : GoodIn wsX2_next wsX2_bringBack := goodIn_r _ [69, 20, 70, 71, 72, 73, 26, 74, 75, 76, 77] (by decide +kernel) (by decide +kernel)
set_option maxRecDepth 20000 in
theorem gX2_next_X2_bringBack : GoodIn wsX2_next (wsV RX2 103 RX2 yX2_bringBack wsX2_bringBack) := goodIn_app (goodIn_of _ (by decide +kernel)) ggX2_next_X2_bringBack
theorem dX2_next_0 : decode cX2_next 0 = .ok (.aload_n 0, 1) := by decide +kernel
theorem dX2_next_1 : decode cX2_next 1 = .ok (.iconst 0, 1) := by decide +kernel
theorem dX2_next_2 : decode cX2_next 2 = .ok (.putfield 16, 3) := by decide +kernel
theorem dX2_next_5 : decode cX2_next 5 = .ok (.aload_n 0, 1) := by decide +kernel
theorem dX2_next_6 : decode cX2_next 6 = .ok (.iload_n 1, 1) := by decide +kernel
theorem dX2_next_7 : decode cX2_next 7 = .ok (.invokevirtual 45, 3) := by decide +kernel
theorem dX2_next_10 : decode cX2_next 10 = .ok (.ifCond .ne 9, 3) := by decide +kernel
theorem dX2_next_13 : decode cX2_next 13 = .ok (.aload_n 0, 1) := by decide +kernel
theorem dX2_next_14 : decode cX2_next 14 = .ok (.iconst 1, 1) := by decide +kernel
theorem dX2_next_15 : decode cX2_next 15 = .ok (.invokevirtual 27, 3) := by decide +kernel
theorem dX2_next_18 : decode cX2_next 18 = .ok (.ireturn, 1) := by decide +kernel
theorem dX2_next_19 : decode cX2_next 19 = .ok (.aload_n 0, 1) := by decide +kernel
theorem dX2_next_20 : decode cX2_next 20 = .ok (.invokevirtual 99, 3) := by decide +kernel
theorem dX2_next_23 : decode cX2_next 23 = .ok (.astore_n 2, 1) := by decide +kernel
theorem dX2_next_24 : decode cX2_next 24 = .ok (.iconst (-1), 1) := by decide +kernel
theorem dX2_next_25 : decode cX2_next 25 = .ok (.istore_n 3, 1) := by decide +kernel
theorem dX2_next_26 : decode cX2_next 26 = .ok (.iconst 1, 1) := by decide +kernel
theorem dX2_next_27 : decode cX2_next 27 = .ok (.istore 4, 2) := by decide +kernel
theorem dX2_next_29 : decode cX2_next 29 = .ok (.iload 4, 2) := by decide +kernel
theorem dX2_next_31 : decode cX2_next 31 = .ok (.sipush 720, 3) := by decide +kernel
theorem dX2_next_34 : decode cX2_next 34 = .ok (.if_icmp .gt 31, 3) := by decide +kernel
theorem dX2_next_37 : decode cX2_next 37 = .ok (.iload_n 3, 1) := by decide +kernel
theorem dX2_next_38 : decode cX2_next 38 = .ok (.iconst (-1), 1) := by decide +kernel
theorem dX2_next_39 : decode cX2_next 39 = .ok (.if_icmp .ne 26, 3) := by decide +kernel
theorem dX2_next_42 : decode cX2_next 42 = .ok (.aload_n 0, 1) := by decide +kernel
theorem dX2_next_43 : decode cX2_next 43 = .ok (.invokevirtual 88, 3) := by decide +kernel
theorem dX2_next_46 : decode cX2_next 46 = .ok (.aload_n 0, 1) := by decide +kernel
theorem dX2_next_47 : decode cX2_next 47 = .ok (.iload_n 1, 1) := by decide +kernel
theorem dX2_next_48 : decode cX2_next 48 = .ok (.bipush 8, 2) := by decide +kernel
theorem dX2_next_50 : decode cX2_next 50 = .ok (.invokevirtual 37, 3) := by decide +kernel
theorem dX2_next_53 : decode cX2_next 53 = .ok (.ifCond .le 6, 3) := by decide +kernel
theorem dX2_next_56 : decode cX2_next 56 = .ok (.iload 4, 2) := by decide +kernel
theorem dX2_next_58 : decode cX2_next 58 = .ok (.istore_n 3, 1) := by decide +kernel
theorem dX2_next_59 : decode cX2_next 59 = .ok (.iinc 4 1, 3) := by decide +kernel
theorem dX2_next_62 : decode cX2_next 62 = .ok (.goto (-33), 3) := by decide +kernel
theorem dX2_next_65 : decode cX2_next 65 = .ok (.aload_n 0, 1) := by decide +kernel
theorem dX2_next_66 : decode cX2_next 66 = .ok (.aload_n 2, 1) := by decide +kernel
theorem dX2_next_67 : decode cX2_next 67 = .ok (.invokevirtual 103, 3) := by decide +kernel
theorem dX2_next_70 : decode cX2_next 70 = .ok (.iload_n 3, 1) := by decide +kernel
theorem dX2_next_71 : decode cX2_next 71 = .ok (.ireturn, 1) := by decide +kernel
set_option maxRecDepth 20000 in
theorem ggX2_stands_X2_isClock : GoodIn wsX2_stands wsX2_isClock := goodIn_r _ [6, 7, 8, 9, 5, 10, 20, 21, 22, 23] (by decide +kernel) (by decide +kernel)
set_option maxRecDepth 20000 in
theorem gX2_stands_X2_isClock : GoodIn wsX2_stands (wsV RX2 45 RX2 yX2_isClock wsX2_isClock) := goodIn_app (goodIn_of _ (by decide +kernel)) ggX2_stands_X2_isClock
set_option maxRecDepth 20000 in
theorem ggX2_stands_X2_fail : GoodIn wsX2_stands wsX2_fail := goodIn_r _ [14, 1, 20, 21, 22, 23] (by decide +kernel) (by decide +kernel)
set_option maxRecDepth 20000 in
theorem gX2_stands_X2_fail : GoodIn wsX2_stands (wsV RX2 27 RX2 yX2_fail wsX2_fail) := goodIn_app (goodIn_of _ (by decide +kernel)) ggX2_stands_X2_fail
set_option maxRecDepth 20000 in
theorem ggX2_stands_X2_sh : GoodIn wsX2_stands wsX2_sh := goodIn_r _ [18, 19, 20, 21, 22, 23] (by decide +kernel) (by decide +kernel)
set_option maxRecDepth 20000 in
theorem gX2_stands_X2_sh : GoodIn wsX2_stands (wsV RX2 37 RX2 yX2_sh wsX2_sh) := goodIn_app (goodIn_of _ (by decide +kernel)) ggX2_stands_X2_sh
theorem dX2_stands_0 : decode cX2_stands 0 = .ok (.aload_n 0, 1) := by decide +kernel
theorem dX2_stands_1 : decode cX2_stands 1 = .ok (.iconst 0, 1) := by decide +kernel
theorem dX2_stands_2 : decode cX2_stands 2 = .ok (.putfield 16, 3) := by decide +kernel
theorem dX2_stands_5 : decode cX2_stands 5 = .ok (.aload_n 0, 1) := by decide +kernel
theorem dX2_stands_6 : decode cX2_stands 6 = .ok (.iload_n 1, 1) := by decide +kernel
theorem dX2_stands_7 : decode cX2_stands 7 = .ok (.invokevirtual 45, 3) := by decide +kernel
theorem dX2_stands_10 : decode cX2_stands 10 = .ok (.ifCond .ne 9, 3) := by decide +kernel
theorem dX2_stands_13 : decode cX2_stands 13 = .ok (.aload_n 0, 1) := by decide +kernel
theorem dX2_stands_14 : decode cX2_stands 14 = .ok (.iconst 1, 1) := by decide +kernel
theorem dX2_stands_15 : decode cX2_stands 15 = .ok (.invokevirtual 27, 3) := by decide +kernel
theorem dX2_stands_18 : decode cX2_stands 18 = .ok (.ireturn, 1) := by decide +kernel
theorem dX2_stands_19 : decode cX2_stands 19 = .ok (.aload_n 0, 1) := by decide +kernel
theorem dX2_stands_20 : decode cX2_stands 20 = .ok (.iload_n 1, 1) := by decide +kernel
theorem dX2_stands_21 : decode cX2_stands 21 = .ok (.iconst 5, 1) := by decide +kernel
theorem dX2_stands_22 : decode cX2_stands 22 = .ok (.invokevirtual 37, 3) := by decide +kernel
theorem dX2_stands_25 : decode cX2_stands 25 = .ok (.ifCond .ne 7, 3) := by decide +kernel
theorem dX2_stands_28 : decode cX2_stands 28 = .ok (.iconst 0, 1) := by decide +kernel
theorem dX2_stands_29 : decode cX2_stands 29 = .ok (.goto 9, 3) := by decide +kernel
theorem dX2_stands_32 : decode cX2_stands 32 = .ok (.aload_n 0, 1) := by decide +kernel
theorem dX2_stands_33 : decode cX2_stands 33 = .ok (.iload_n 1, 1) := by decide +kernel
theorem dX2_stands_34 : decode cX2_stands 34 = .ok (.iconst 2, 1) := by decide +kernel
theorem dX2_stands_35 : decode cX2_stands 35 = .ok (.invokevirtual 37, 3) := by decide +kernel
theorem dX2_stands_38 : decode cX2_stands 38 = .ok (.ireturn, 1) := by decide +kernel
set_option maxRecDepth 20000 in
theorem ggX2_loudest_X2_isIn : GoodIn wsX2_loudest wsX2_isIn := goodIn_r _ [5] (by decide +kernel) (by decide +kernel)
set_option maxRecDepth 20000 in
theorem gX2_loudest_X2_isIn : GoodIn wsX2_loudest (va_wsS RX2 23 yX2_isIn wsX2_isIn) := goodIn_app (goodIn_of _ (by decide +kernel)) ggX2_loudest_X2_isIn
set_option maxRecDepth 20000 in
theorem ggX2_loudest_X2_fail : GoodIn wsX2_loudest wsX2_fail := goodIn_r _ [9, 1, 74, 75, 76, 77] (by decide +kernel) (by decide +kernel)
set_option maxRecDepth 20000 in
theorem gX2_loudest_X2_fail : GoodIn wsX2_loudest (wsV RX2 27 RX2 yX2_fail wsX2_fail) := goodIn_app (goodIn_of _ (by decide +kernel)) ggX2_loudest_X2_fail
set_option maxRecDepth 20000 in
theorem ggX2_loudest_X2_kept : GoodIn wsX2_loudest wsX2_kept := goodIn_r _ [13, 14, 15, 16, 17, 18, 19, 20, 21, 74, 75, 76, 77] (by decide +kernel) (by decide +kernel)
set_option maxRecDepth 20000 in
theorem gX2_loudest_X2_kept : GoodIn wsX2_loudest (wsV RX2 99 RX2 yX2_kept wsX2_kept) := goodIn_app (goodIn_of _ (by decide +kernel)) ggX2_loudest_X2_kept
set_option maxRecDepth 20000 in
theorem ggX2_loudest_X2_minuteOn : GoodIn wsX2_loudest wsX2_minuteOn := goodIn_r _ [25, 26, 21, 27, 28, 29, 30, 31, 32, 33, 4, 34, 15, 35, 36, 37, 38, 39, 40, 41, 42, 43, 44, 45, 46, 47, 48, 49, 50, 51, 52, 53, 54, 55, 56, 57, 58, 59, 60, 61, 74, 75, 76, 77] (by decide +kernel) (by decide +kernel)
set_option maxRecDepth 20000 in
theorem gX2_loudest_X2_minuteOn : GoodIn wsX2_loudest (wsV RX2 88 RX2 yX2_minuteOn wsX2_minuteOn) := goodIn_app (goodIn_of _ (by decide +kernel)) ggX2_loudest_X2_minuteOn
set_option maxRecDepth 20000 in
theorem ggX2_loudest_X2_all : GoodIn wsX2_loudest wsX2_all := goodIn_r _ [65, 26, 35, 36, 37, 4, 38, 15, 74, 75, 76, 77] (by decide +kernel) (by decide +kernel)
set_option maxRecDepth 20000 in
theorem gX2_loudest_X2_all : GoodIn wsX2_loudest (wsV RX2 64 RX2 yX2_all wsX2_all) := goodIn_app (goodIn_of _ (by decide +kernel)) ggX2_loudest_X2_all
set_option maxRecDepth 20000 in
theorem ggX2_loudest_X2_bringBack : GoodIn wsX2_loudest wsX2_bringBack := goodIn_r _ [69, 15, 70, 71, 72, 73, 21, 74, 75, 76, 77] (by decide +kernel) (by decide +kernel)
set_option maxRecDepth 20000 in
theorem gX2_loudest_X2_bringBack : GoodIn wsX2_loudest (wsV RX2 103 RX2 yX2_bringBack wsX2_bringBack) := goodIn_app (goodIn_of _ (by decide +kernel)) ggX2_loudest_X2_bringBack
theorem dX2_loudest_0 : decode cX2_loudest 0 = .ok (.aload_n 0, 1) := by decide +kernel
theorem dX2_loudest_1 : decode cX2_loudest 1 = .ok (.iconst 0, 1) := by decide +kernel
theorem dX2_loudest_2 : decode cX2_loudest 2 = .ok (.putfield 16, 3) := by decide +kernel
theorem dX2_loudest_5 : decode cX2_loudest 5 = .ok (.iload_n 1, 1) := by decide +kernel
theorem dX2_loudest_6 : decode cX2_loudest 6 = .ok (.iconst 1, 1) := by decide +kernel
theorem dX2_loudest_7 : decode cX2_loudest 7 = .ok (.sipush 720, 3) := by decide +kernel
theorem dX2_loudest_10 : decode cX2_loudest 10 = .ok (.invokestatic 23, 3) := by decide +kernel
theorem dX2_loudest_13 : decode cX2_loudest 13 = .ok (.ifCond .ne 9, 3) := by decide +kernel
theorem dX2_loudest_16 : decode cX2_loudest 16 = .ok (.aload_n 0, 1) := by decide +kernel
theorem dX2_loudest_17 : decode cX2_loudest 17 = .ok (.iconst 1, 1) := by decide +kernel
theorem dX2_loudest_18 : decode cX2_loudest 18 = .ok (.invokevirtual 27, 3) := by decide +kernel
theorem dX2_loudest_21 : decode cX2_loudest 21 = .ok (.ireturn, 1) := by decide +kernel
theorem dX2_loudest_22 : decode cX2_loudest 22 = .ok (.aload_n 0, 1) := by decide +kernel
theorem dX2_loudest_23 : decode cX2_loudest 23 = .ok (.invokevirtual 99, 3) := by decide +kernel
theorem dX2_loudest_26 : decode cX2_loudest 26 = .ok (.astore_n 2, 1) := by decide +kernel
theorem dX2_loudest_27 : decode cX2_loudest 27 = .ok (.iconst (-1), 1) := by decide +kernel
theorem dX2_loudest_28 : decode cX2_loudest 28 = .ok (.istore_n 3, 1) := by decide +kernel
theorem dX2_loudest_29 : decode cX2_loudest 29 = .ok (.iconst 0, 1) := by decide +kernel
theorem dX2_loudest_30 : decode cX2_loudest 30 = .ok (.istore 4, 2) := by decide +kernel
theorem dX2_loudest_32 : decode cX2_loudest 32 = .ok (.iconst 1, 1) := by decide +kernel
theorem dX2_loudest_33 : decode cX2_loudest 33 = .ok (.istore 5, 2) := by decide +kernel
theorem dX2_loudest_35 : decode cX2_loudest 35 = .ok (.iload 5, 2) := by decide +kernel
theorem dX2_loudest_37 : decode cX2_loudest 37 = .ok (.iload_n 1, 1) := by decide +kernel
theorem dX2_loudest_38 : decode cX2_loudest 38 = .ok (.if_icmp .gt 38, 3) := by decide +kernel
theorem dX2_loudest_41 : decode cX2_loudest 41 = .ok (.aload_n 0, 1) := by decide +kernel
theorem dX2_loudest_42 : decode cX2_loudest 42 = .ok (.invokevirtual 88, 3) := by decide +kernel
theorem dX2_loudest_45 : decode cX2_loudest 45 = .ok (.aload_n 0, 1) := by decide +kernel
theorem dX2_loudest_46 : decode cX2_loudest 46 = .ok (.bipush 8, 2) := by decide +kernel
theorem dX2_loudest_48 : decode cX2_loudest 48 = .ok (.invokevirtual 64, 3) := by decide +kernel
theorem dX2_loudest_51 : decode cX2_loudest 51 = .ok (.iload 4, 2) := by decide +kernel
theorem dX2_loudest_53 : decode cX2_loudest 53 = .ok (.if_icmp .gt 6, 3) := by decide +kernel
theorem dX2_loudest_56 : decode cX2_loudest 56 = .ok (.goto 14, 3) := by decide +kernel
theorem dX2_loudest_59 : decode cX2_loudest 59 = .ok (.iload 5, 2) := by decide +kernel
theorem dX2_loudest_61 : decode cX2_loudest 61 = .ok (.istore_n 3, 1) := by decide +kernel
theorem dX2_loudest_62 : decode cX2_loudest 62 = .ok (.aload_n 0, 1) := by decide +kernel
theorem dX2_loudest_63 : decode cX2_loudest 63 = .ok (.bipush 8, 2) := by decide +kernel
theorem dX2_loudest_65 : decode cX2_loudest 65 = .ok (.invokevirtual 64, 3) := by decide +kernel
theorem dX2_loudest_68 : decode cX2_loudest 68 = .ok (.istore 4, 2) := by decide +kernel
theorem dX2_loudest_70 : decode cX2_loudest 70 = .ok (.iinc 5 1, 3) := by decide +kernel
theorem dX2_loudest_73 : decode cX2_loudest 73 = .ok (.goto (-38), 3) := by decide +kernel
theorem dX2_loudest_76 : decode cX2_loudest 76 = .ok (.aload_n 0, 1) := by decide +kernel
theorem dX2_loudest_77 : decode cX2_loudest 77 = .ok (.aload_n 2, 1) := by decide +kernel
theorem dX2_loudest_78 : decode cX2_loudest 78 = .ok (.invokevirtual 103, 3) := by decide +kernel
theorem dX2_loudest_81 : decode cX2_loudest 81 = .ok (.iload_n 3, 1) := by decide +kernel
theorem dX2_loudest_82 : decode cX2_loudest 82 = .ok (.ireturn, 1) := by decide +kernel
set_option maxRecDepth 20000 in
theorem ggX2_foresee_X2_isIn : GoodIn wsX2_foresee wsX2_isIn := goodIn_r _ [5] (by decide +kernel) (by decide +kernel)
set_option maxRecDepth 20000 in
theorem gX2_foresee_X2_isIn : GoodIn wsX2_foresee (va_wsS RX2 23 yX2_isIn wsX2_isIn) := goodIn_app (goodIn_of _ (by decide +kernel)) ggX2_foresee_X2_isIn
set_option maxRecDepth 20000 in
theorem ggX2_foresee_X2_fail : GoodIn wsX2_foresee wsX2_fail := goodIn_r _ [9, 1, 89, 90, 91, 92] (by decide +kernel) (by decide +kernel)
set_option maxRecDepth 20000 in
theorem gX2_foresee_X2_fail : GoodIn wsX2_foresee (wsV RX2 27 RX2 yX2_fail wsX2_fail) := goodIn_app (goodIn_of _ (by decide +kernel)) ggX2_foresee_X2_fail
set_option maxRecDepth 20000 in
theorem ggX2_foresee_X2_kept : GoodIn wsX2_foresee wsX2_kept := goodIn_r _ [13, 14, 15, 16, 17, 18, 19, 20, 21, 89, 90, 91, 92] (by decide +kernel) (by decide +kernel)
set_option maxRecDepth 20000 in
theorem gX2_foresee_X2_kept : GoodIn wsX2_foresee (wsV RX2 99 RX2 yX2_kept wsX2_kept) := goodIn_app (goodIn_of _ (by decide +kernel)) ggX2_foresee_X2_kept
set_option maxRecDepth 20000 in
theorem ggX2_foresee_X2_all : GoodIn wsX2_foresee wsX2_all := goodIn_r _ [25, 26, 27, 28, 29, 4, 30, 15, 89, 90, 91, 92] (by decide +kernel) (by decide +kernel)
set_option maxRecDepth 20000 in
theorem gX2_foresee_X2_all : GoodIn wsX2_foresee (wsV RX2 64 RX2 yX2_all wsX2_all) := goodIn_app (goodIn_of _ (by decide +kernel)) ggX2_foresee_X2_all
set_option maxRecDepth 20000 in
theorem ggX2_foresee_X2_minutesOn : GoodIn wsX2_foresee wsX2_minutesOn := goodIn_r _ [34, 35, 36, 37, 4, 38, 26, 21, 39, 40, 41, 42, 43, 44, 45, 46, 15, 27, 28, 29, 30, 47, 48, 49, 50, 51, 52, 53, 54, 55, 56, 57, 58, 59, 60, 61, 62, 63, 64, 65, 66, 67, 68, 69, 89, 90, 91, 92] (by decide +kernel) (by decide +kernel)
set_option maxRecDepth 20000 in
theorem gX2_foresee_X2_minutesOn : GoodIn wsX2_foresee (wsV RX2 91 RX2 yX2_minutesOn wsX2_minutesOn) := goodIn_app (goodIn_of _ (by decide +kernel)) ggX2_foresee_X2_minutesOn
set_option maxRecDepth 20000 in
theorem ggX2_foresee_X2_counted : GoodIn wsX2_foresee wsX2_counted := goodIn_r _ [73, 21, 26, 74, 75, 41, 76, 22, 23, 24, 4, 25, 27, 28, 29, 30, 15, 77, 78, 79, 80, 89, 90, 91, 92] (by decide +kernel) (by decide +kernel)
set_option maxRecDepth 20000 in
theorem gX2_foresee_X2_counted : GoodIn wsX2_foresee (wsV RX2 72 RX2 yX2_counted wsX2_counted) := goodIn_app (goodIn_of _ (by decide +kernel)) ggX2_foresee_X2_counted
set_option maxRecDepth 20000 in
theorem ggX2_foresee_X2_bringBack : GoodIn wsX2_foresee wsX2_bringBack := goodIn_r _ [84, 15, 85, 86, 87, 88, 21, 89, 90, 91, 92] (by decide +kernel) (by decide +kernel)
set_option maxRecDepth 20000 in
theorem gX2_foresee_X2_bringBack : GoodIn wsX2_foresee (wsV RX2 103 RX2 yX2_bringBack wsX2_bringBack) := goodIn_app (goodIn_of _ (by decide +kernel)) ggX2_foresee_X2_bringBack
theorem dX2_foresee_0 : decode cX2_foresee 0 = .ok (.aload_n 0, 1) := by decide +kernel
theorem dX2_foresee_1 : decode cX2_foresee 1 = .ok (.iconst 0, 1) := by decide +kernel
theorem dX2_foresee_2 : decode cX2_foresee 2 = .ok (.putfield 16, 3) := by decide +kernel
theorem dX2_foresee_5 : decode cX2_foresee 5 = .ok (.iload_n 1, 1) := by decide +kernel
theorem dX2_foresee_6 : decode cX2_foresee 6 = .ok (.iconst 1, 1) := by decide +kernel
theorem dX2_foresee_7 : decode cX2_foresee 7 = .ok (.sipush 720, 3) := by decide +kernel
theorem dX2_foresee_10 : decode cX2_foresee 10 = .ok (.invokestatic 23, 3) := by decide +kernel
theorem dX2_foresee_13 : decode cX2_foresee 13 = .ok (.ifCond .ne 9, 3) := by decide +kernel
theorem dX2_foresee_16 : decode cX2_foresee 16 = .ok (.aload_n 0, 1) := by decide +kernel
theorem dX2_foresee_17 : decode cX2_foresee 17 = .ok (.iconst 1, 1) := by decide +kernel
theorem dX2_foresee_18 : decode cX2_foresee 18 = .ok (.invokevirtual 27, 3) := by decide +kernel
theorem dX2_foresee_21 : decode cX2_foresee 21 = .ok (.ireturn, 1) := by decide +kernel
theorem dX2_foresee_22 : decode cX2_foresee 22 = .ok (.iload_n 2, 1) := by decide +kernel
theorem dX2_foresee_23 : decode cX2_foresee 23 = .ok (.iconst 0, 1) := by decide +kernel
theorem dX2_foresee_24 : decode cX2_foresee 24 = .ok (.iconst 3, 1) := by decide +kernel
theorem dX2_foresee_25 : decode cX2_foresee 25 = .ok (.invokestatic 23, 3) := by decide +kernel
theorem dX2_foresee_28 : decode cX2_foresee 28 = .ok (.ifCond .ne 9, 3) := by decide +kernel
theorem dX2_foresee_31 : decode cX2_foresee 31 = .ok (.aload_n 0, 1) := by decide +kernel
theorem dX2_foresee_32 : decode cX2_foresee 32 = .ok (.iconst 2, 1) := by decide +kernel
theorem dX2_foresee_33 : decode cX2_foresee 33 = .ok (.invokevirtual 27, 3) := by decide +kernel
theorem dX2_foresee_36 : decode cX2_foresee 36 = .ok (.ireturn, 1) := by decide +kernel
theorem dX2_foresee_37 : decode cX2_foresee 37 = .ok (.aload_n 0, 1) := by decide +kernel
theorem dX2_foresee_38 : decode cX2_foresee 38 = .ok (.invokevirtual 99, 3) := by decide +kernel
theorem dX2_foresee_41 : decode cX2_foresee 41 = .ok (.astore_n 3, 1) := by decide +kernel
theorem dX2_foresee_42 : decode cX2_foresee 42 = .ok (.aload_n 0, 1) := by decide +kernel
theorem dX2_foresee_43 : decode cX2_foresee 43 = .ok (.bipush 6, 2) := by decide +kernel
theorem dX2_foresee_45 : decode cX2_foresee 45 = .ok (.invokevirtual 64, 3) := by decide +kernel
theorem dX2_foresee_48 : decode cX2_foresee 48 = .ok (.istore 4, 2) := by decide +kernel
theorem dX2_foresee_50 : decode cX2_foresee 50 = .ok (.aload_n 0, 1) := by decide +kernel
theorem dX2_foresee_51 : decode cX2_foresee 51 = .ok (.bipush 7, 2) := by decide +kernel
theorem dX2_foresee_53 : decode cX2_foresee 53 = .ok (.invokevirtual 64, 3) := by decide +kernel
theorem dX2_foresee_56 : decode cX2_foresee 56 = .ok (.istore 5, 2) := by decide +kernel
theorem dX2_foresee_58 : decode cX2_foresee 58 = .ok (.aload_n 0, 1) := by decide +kernel
theorem dX2_foresee_59 : decode cX2_foresee 59 = .ok (.iload_n 1, 1) := by decide +kernel
theorem dX2_foresee_60 : decode cX2_foresee 60 = .ok (.invokevirtual 91, 3) := by decide +kernel
theorem dX2_foresee_63 : decode cX2_foresee 63 = .ok (.iload_n 2, 1) := by decide +kernel
theorem dX2_foresee_64 : decode cX2_foresee 64 = .ok (.ifCond .ne 15, 3) := by decide +kernel
theorem dX2_foresee_67 : decode cX2_foresee 67 = .ok (.aload_n 0, 1) := by decide +kernel
theorem dX2_foresee_68 : decode cX2_foresee 68 = .ok (.bipush 6, 2) := by decide +kernel
theorem dX2_foresee_70 : decode cX2_foresee 70 = .ok (.invokevirtual 64, 3) := by decide +kernel
theorem dX2_foresee_73 : decode cX2_foresee 73 = .ok (.iload 4, 2) := by decide +kernel
theorem dX2_foresee_75 : decode cX2_foresee 75 = .ok (.isub, 1) := by decide +kernel
theorem dX2_foresee_76 : decode cX2_foresee 76 = .ok (.goto 35, 3) := by decide +kernel
theorem dX2_foresee_79 : decode cX2_foresee 79 = .ok (.iload_n 2, 1) := by decide +kernel
theorem dX2_foresee_80 : decode cX2_foresee 80 = .ok (.iconst 1, 1) := by decide +kernel
theorem dX2_foresee_81 : decode cX2_foresee 81 = .ok (.if_icmp .ne 15, 3) := by decide +kernel
theorem dX2_foresee_84 : decode cX2_foresee 84 = .ok (.aload_n 0, 1) := by decide +kernel
theorem dX2_foresee_85 : decode cX2_foresee 85 = .ok (.bipush 7, 2) := by decide +kernel
theorem dX2_foresee_87 : decode cX2_foresee 87 = .ok (.invokevirtual 64, 3) := by decide +kernel
theorem dX2_foresee_90 : decode cX2_foresee 90 = .ok (.iload 5, 2) := by decide +kernel
theorem dX2_foresee_92 : decode cX2_foresee 92 = .ok (.isub, 1) := by decide +kernel
theorem dX2_foresee_93 : decode cX2_foresee 93 = .ok (.goto 18, 3) := by decide +kernel
theorem dX2_foresee_96 : decode cX2_foresee 96 = .ok (.aload_n 0, 1) := by decide +kernel
theorem dX2_foresee_97 : decode cX2_foresee 97 = .ok (.iload_n 2, 1) := by decide +kernel
theorem dX2_foresee_98 : decode cX2_foresee 98 = .ok (.iconst 2, 1) := by decide +kernel
theorem dX2_foresee_99 : decode cX2_foresee 99 = .ok (.if_icmp .ne 7, 3) := by decide +kernel
theorem dX2_foresee_102 : decode cX2_foresee 102 = .ok (.iconst 3, 1) := by decide +kernel
theorem dX2_foresee_103 : decode cX2_foresee 103 = .ok (.goto 5, 3) := by decide +kernel
theorem dX2_foresee_106 : decode cX2_foresee 106 = .ok (.bipush 7, 2) := by decide +kernel
theorem dX2_foresee_108 : decode cX2_foresee 108 = .ok (.invokevirtual 72, 3) := by decide +kernel
theorem dX2_foresee_111 : decode cX2_foresee 111 = .ok (.istore 6, 2) := by decide +kernel
theorem dX2_foresee_113 : decode cX2_foresee 113 = .ok (.aload_n 0, 1) := by decide +kernel
theorem dX2_foresee_114 : decode cX2_foresee 114 = .ok (.aload_n 3, 1) := by decide +kernel
theorem dX2_foresee_115 : decode cX2_foresee 115 = .ok (.invokevirtual 103, 3) := by decide +kernel
theorem dX2_foresee_118 : decode cX2_foresee 118 = .ok (.iload 6, 2) := by decide +kernel
theorem dX2_foresee_120 : decode cX2_foresee 120 = .ok (.ireturn, 1) := by decide +kernel
set_option maxRecDepth 20000 in
theorem ggX2_advise_X2_isClock : GoodIn wsX2_advise wsX2_isClock := goodIn_r _ [10, 11, 12, 13, 9, 14, 28, 29, 30, 31] (by decide +kernel) (by decide +kernel)
set_option maxRecDepth 20000 in
theorem gX2_advise_X2_isClock : GoodIn wsX2_advise (wsV RX2 45 RX2 yX2_isClock wsX2_isClock) := goodIn_app (goodIn_of _ (by decide +kernel)) ggX2_advise_X2_isClock
set_option maxRecDepth 20000 in
theorem ggX2_advise_X2_fail : GoodIn wsX2_advise wsX2_fail := goodIn_r _ [18, 1, 28, 29, 30, 31] (by decide +kernel) (by decide +kernel)
set_option maxRecDepth 20000 in
theorem gX2_advise_X2_fail : GoodIn wsX2_advise (wsV RX2 27 RX2 yX2_fail wsX2_fail) := goodIn_app (goodIn_of _ (by decide +kernel)) ggX2_advise_X2_fail
set_option maxRecDepth 20000 in
theorem ggX2_advise_X2_advance : GoodIn wsX2_advise wsX2_advance := goodIn_r _ [22, 23, 24, 25, 9, 26, 27, 28, 29, 30, 31] (by decide +kernel) (by decide +kernel)
set_option maxRecDepth 20000 in
theorem gX2_advise_X2_advance : GoodIn wsX2_advise (wsV RX2 41 RX2 yX2_advance wsX2_advance) := goodIn_app (goodIn_of _ (by decide +kernel)) ggX2_advise_X2_advance
theorem dX2_advise_0 : decode cX2_advise 0 = .ok (.aload_n 0, 1) := by decide +kernel
theorem dX2_advise_1 : decode cX2_advise 1 = .ok (.iconst 0, 1) := by decide +kernel
theorem dX2_advise_2 : decode cX2_advise 2 = .ok (.putfield 16, 3) := by decide +kernel
theorem dX2_advise_5 : decode cX2_advise 5 = .ok (.aload_n 0, 1) := by decide +kernel
theorem dX2_advise_6 : decode cX2_advise 6 = .ok (.iload_n 1, 1) := by decide +kernel
theorem dX2_advise_7 : decode cX2_advise 7 = .ok (.invokevirtual 45, 3) := by decide +kernel
theorem dX2_advise_10 : decode cX2_advise 10 = .ok (.ifCond .ne 9, 3) := by decide +kernel
theorem dX2_advise_13 : decode cX2_advise 13 = .ok (.aload_n 0, 1) := by decide +kernel
theorem dX2_advise_14 : decode cX2_advise 14 = .ok (.iconst 1, 1) := by decide +kernel
theorem dX2_advise_15 : decode cX2_advise 15 = .ok (.invokevirtual 27, 3) := by decide +kernel
theorem dX2_advise_18 : decode cX2_advise 18 = .ok (.ireturn, 1) := by decide +kernel
theorem dX2_advise_19 : decode cX2_advise 19 = .ok (.iconst (-1), 1) := by decide +kernel
theorem dX2_advise_20 : decode cX2_advise 20 = .ok (.istore_n 2, 1) := by decide +kernel
theorem dX2_advise_21 : decode cX2_advise 21 = .ok (.iconst 0, 1) := by decide +kernel
theorem dX2_advise_22 : decode cX2_advise 22 = .ok (.istore_n 3, 1) := by decide +kernel
theorem dX2_advise_23 : decode cX2_advise 23 = .ok (.bipush 20, 2) := by decide +kernel
theorem dX2_advise_25 : decode cX2_advise 25 = .ok (.istore 4, 2) := by decide +kernel
theorem dX2_advise_27 : decode cX2_advise 27 = .ok (.iload 4, 2) := by decide +kernel
theorem dX2_advise_29 : decode cX2_advise 29 = .ok (.bipush 40, 2) := by decide +kernel
theorem dX2_advise_31 : decode cX2_advise 31 = .ok (.if_icmp .gt 70, 3) := by decide +kernel
theorem dX2_advise_34 : decode cX2_advise 34 = .ok (.bipush 20, 2) := by decide +kernel
theorem dX2_advise_36 : decode cX2_advise 36 = .ok (.istore 5, 2) := by decide +kernel
theorem dX2_advise_38 : decode cX2_advise 38 = .ok (.iload 5, 2) := by decide +kernel
theorem dX2_advise_40 : decode cX2_advise 40 = .ok (.bipush 40, 2) := by decide +kernel
theorem dX2_advise_42 : decode cX2_advise 42 = .ok (.if_icmp .gt 53, 3) := by decide +kernel
theorem dX2_advise_45 : decode cX2_advise 45 = .ok (.aload_n 0, 1) := by decide +kernel
theorem dX2_advise_46 : decode cX2_advise 46 = .ok (.iload_n 1, 1) := by decide +kernel
theorem dX2_advise_47 : decode cX2_advise 47 = .ok (.iload 4, 2) := by decide +kernel
theorem dX2_advise_49 : decode cX2_advise 49 = .ok (.iload 5, 2) := by decide +kernel
theorem dX2_advise_51 : decode cX2_advise 51 = .ok (.invokevirtual 41, 3) := by decide +kernel
theorem dX2_advise_54 : decode cX2_advise 54 = .ok (.sipush 900, 3) := by decide +kernel
theorem dX2_advise_57 : decode cX2_advise 57 = .ok (.isub, 1) := by decide +kernel
theorem dX2_advise_58 : decode cX2_advise 58 = .ok (.invokestatic 67, 3) := by decide +kernel
theorem dX2_advise_61 : decode cX2_advise 61 = .ok (.istore 6, 2) := by decide +kernel
theorem dX2_advise_63 : decode cX2_advise 63 = .ok (.iload_n 2, 1) := by decide +kernel
theorem dX2_advise_64 : decode cX2_advise 64 = .ok (.iconst (-1), 1) := by decide +kernel
theorem dX2_advise_65 : decode cX2_advise 65 = .ok (.if_icmp .eq 12, 3) := by decide +kernel
theorem dX2_advise_68 : decode cX2_advise 68 = .ok (.iload 6, 2) := by decide +kernel
theorem dX2_advise_70 : decode cX2_advise 70 = .ok (.iload_n 3, 1) := by decide +kernel
theorem dX2_advise_71 : decode cX2_advise 71 = .ok (.if_icmp .lt 6, 3) := by decide +kernel
theorem dX2_advise_74 : decode cX2_advise 74 = .ok (.goto 15, 3) := by decide +kernel
theorem dX2_advise_77 : decode cX2_advise 77 = .ok (.bipush 100, 2) := by decide +kernel
theorem dX2_advise_79 : decode cX2_advise 79 = .ok (.iload 4, 2) := by decide +kernel
theorem dX2_advise_81 : decode cX2_advise 81 = .ok (.imul, 1) := by decide +kernel
theorem dX2_advise_82 : decode cX2_advise 82 = .ok (.iload 5, 2) := by decide +kernel
theorem dX2_advise_84 : decode cX2_advise 84 = .ok (.iadd, 1) := by decide +kernel
theorem dX2_advise_85 : decode cX2_advise 85 = .ok (.istore_n 2, 1) := by decide +kernel
theorem dX2_advise_86 : decode cX2_advise 86 = .ok (.iload 6, 2) := by decide +kernel
theorem dX2_advise_88 : decode cX2_advise 88 = .ok (.istore_n 3, 1) := by decide +kernel
theorem dX2_advise_89 : decode cX2_advise 89 = .ok (.iinc 5 1, 3) := by decide +kernel
theorem dX2_advise_92 : decode cX2_advise 92 = .ok (.goto (-54), 3) := by decide +kernel
theorem dX2_advise_95 : decode cX2_advise 95 = .ok (.iinc 4 1, 3) := by decide +kernel
theorem dX2_advise_98 : decode cX2_advise 98 = .ok (.goto (-71), 3) := by decide +kernel
theorem dX2_advise_101 : decode cX2_advise 101 = .ok (.iload_n 2, 1) := by decide +kernel
theorem dX2_advise_102 : decode cX2_advise 102 = .ok (.ireturn, 1) := by decide +kernel
set_option maxRecDepth 20000 in
theorem ggX2_mean_X2_sh : GoodIn wsX2_mean wsX2_sh := goodIn_r _ [7, 8, 21, 22, 23, 24] (by decide +kernel) (by decide +kernel)
set_option maxRecDepth 20000 in
theorem gX2_mean_X2_sh : GoodIn wsX2_mean (wsV RX2 37 RX2 yX2_sh wsX2_sh) := goodIn_app (goodIn_of _ (by decide +kernel)) ggX2_mean_X2_sh
set_option maxRecDepth 20000 in
theorem ggX2_mean_X2_advance_ : GoodIn wsX2_mean wsX2_advance_ := goodIn_r _ [12, 3, 4, 5, 6, 7, 8, 13, 14, 15, 16, 21, 22, 23, 24] (by decide +kernel) (by decide +kernel)
set_option maxRecDepth 20000 in
theorem gX2_mean_X2_advance_ : GoodIn wsX2_mean (wsV RX2 53 RX2 yX2_advance_ wsX2_advance_) := goodIn_app (goodIn_of _ (by decide +kernel)) ggX2_mean_X2_advance_
set_option maxRecDepth 20000 in
theorem ggX2_mean_X2_all : GoodIn wsX2_mean wsX2_all := goodIn_r _ [20, 2, 3, 4, 5, 6, 7, 8, 21, 22, 23, 24] (by decide +kernel) (by decide +kernel)
set_option maxRecDepth 20000 in
theorem gX2_mean_X2_all : GoodIn wsX2_mean (wsV RX2 64 RX2 yX2_all wsX2_all) := goodIn_app (goodIn_of _ (by decide +kernel)) ggX2_mean_X2_all
theorem dX2_mean_0 : decode cX2_mean 0 = .ok (.aload_n 0, 1) := by decide +kernel
theorem dX2_mean_1 : decode cX2_mean 1 = .ok (.iconst 0, 1) := by decide +kernel
theorem dX2_mean_2 : decode cX2_mean 2 = .ok (.putfield 16, 3) := by decide +kernel
theorem dX2_mean_5 : decode cX2_mean 5 = .ok (.iconst 0, 1) := by decide +kernel
theorem dX2_mean_6 : decode cX2_mean 6 = .ok (.istore_n 1, 1) := by decide +kernel
theorem dX2_mean_7 : decode cX2_mean 7 = .ok (.iconst 0, 1) := by decide +kernel
theorem dX2_mean_8 : decode cX2_mean 8 = .ok (.istore_n 2, 1) := by decide +kernel
theorem dX2_mean_9 : decode cX2_mean 9 = .ok (.iload_n 2, 1) := by decide +kernel
theorem dX2_mean_10 : decode cX2_mean 10 = .ok (.aload_n 0, 1) := by decide +kernel
theorem dX2_mean_11 : decode cX2_mean 11 = .ok (.getfield 20, 3) := by decide +kernel
theorem dX2_mean_14 : decode cX2_mean 14 = .ok (.if_icmp .ge 24, 3) := by decide +kernel
theorem dX2_mean_17 : decode cX2_mean 17 = .ok (.iload_n 1, 1) := by decide +kernel
theorem dX2_mean_18 : decode cX2_mean 18 = .ok (.aload_n 0, 1) := by decide +kernel
theorem dX2_mean_19 : decode cX2_mean 19 = .ok (.iload_n 2, 1) := by decide +kernel
theorem dX2_mean_20 : decode cX2_mean 20 = .ok (.iconst 5, 1) := by decide +kernel
theorem dX2_mean_21 : decode cX2_mean 21 = .ok (.invokevirtual 37, 3) := by decide +kernel
theorem dX2_mean_24 : decode cX2_mean 24 = .ok (.aload_n 0, 1) := by decide +kernel
theorem dX2_mean_25 : decode cX2_mean 25 = .ok (.iload_n 2, 1) := by decide +kernel
theorem dX2_mean_26 : decode cX2_mean 26 = .ok (.invokevirtual 53, 3) := by decide +kernel
theorem dX2_mean_29 : decode cX2_mean 29 = .ok (.imul, 1) := by decide +kernel
theorem dX2_mean_30 : decode cX2_mean 30 = .ok (.iadd, 1) := by decide +kernel
theorem dX2_mean_31 : decode cX2_mean 31 = .ok (.istore_n 1, 1) := by decide +kernel
theorem dX2_mean_32 : decode cX2_mean 32 = .ok (.iinc 2 1, 3) := by decide +kernel
theorem dX2_mean_35 : decode cX2_mean 35 = .ok (.goto (-26), 3) := by decide +kernel
theorem dX2_mean_38 : decode cX2_mean 38 = .ok (.aload_n 0, 1) := by decide +kernel
theorem dX2_mean_39 : decode cX2_mean 39 = .ok (.iconst 5, 1) := by decide +kernel
theorem dX2_mean_40 : decode cX2_mean 40 = .ok (.invokevirtual 64, 3) := by decide +kernel
theorem dX2_mean_43 : decode cX2_mean 43 = .ok (.ifCond .ne 7, 3) := by decide +kernel
theorem dX2_mean_46 : decode cX2_mean 46 = .ok (.dconst 0, 1) := by decide +kernel
theorem dX2_mean_47 : decode cX2_mean 47 = .ok (.goto 12, 3) := by decide +kernel
theorem dX2_mean_50 : decode cX2_mean 50 = .ok (.iload_n 1, 1) := by decide +kernel
theorem dX2_mean_51 : decode cX2_mean 51 = .ok (.i2d, 1) := by decide +kernel
theorem dX2_mean_52 : decode cX2_mean 52 = .ok (.aload_n 0, 1) := by decide +kernel
theorem dX2_mean_53 : decode cX2_mean 53 = .ok (.iconst 5, 1) := by decide +kernel
theorem dX2_mean_54 : decode cX2_mean 54 = .ok (.invokevirtual 64, 3) := by decide +kernel
theorem dX2_mean_57 : decode cX2_mean 57 = .ok (.i2d, 1) := by decide +kernel
theorem dX2_mean_58 : decode cX2_mean 58 = .ok (.ddiv, 1) := by decide +kernel
theorem dX2_mean_59 : decode cX2_mean 59 = .ok (.dreturn, 1) := by decide +kernel
set_option maxRecDepth 20000 in
theorem ggX2_digest_X2_counted : GoodIn wsX2_digest wsX2_counted := goodIn_r _ [9, 10, 4, 11, 12, 13, 14, 15, 16, 17, 8, 18, 19, 20, 21, 22, 23, 24, 25, 26, 27, 44, 45, 46, 47] (by decide +kernel) (by decide +kernel)
set_option maxRecDepth 20000 in
theorem gX2_digest_X2_counted : GoodIn wsX2_digest (wsV RX2 72 RX2 yX2_counted wsX2_counted) := goodIn_app (goodIn_of _ (by decide +kernel)) ggX2_digest_X2_counted
set_option maxRecDepth 20000 in
theorem ggX2_digest_X2_sh : GoodIn wsX2_digest wsX2_sh := goodIn_r _ [22, 23, 44, 45, 46, 47] (by decide +kernel) (by decide +kernel)
set_option maxRecDepth 20000 in
theorem gX2_digest_X2_sh : GoodIn wsX2_digest (wsV RX2 37 RX2 yX2_sh wsX2_sh) := goodIn_app (goodIn_of _ (by decide +kernel)) ggX2_digest_X2_sh
set_option maxRecDepth 20000 in
theorem ggX2_digest_X2_clockTold : GoodIn wsX2_digest wsX2_clockTold := goodIn_r _ [31, 32, 33, 34, 8, 35, 19, 20, 21, 22, 23, 36, 37, 38, 39, 40, 41, 42, 43, 44, 45, 46, 47] (by decide +kernel) (by decide +kernel)
set_option maxRecDepth 20000 in
theorem gX2_digest_X2_clockTold : GoodIn wsX2_digest (wsV RX2 61 RX2 yX2_clockTold wsX2_clockTold) := goodIn_app (goodIn_of _ (by decide +kernel)) ggX2_digest_X2_clockTold
theorem dX2_digest_0 : decode cX2_digest 0 = .ok (.aload_n 0, 1) := by decide +kernel
theorem dX2_digest_1 : decode cX2_digest 1 = .ok (.iconst 0, 1) := by decide +kernel
theorem dX2_digest_2 : decode cX2_digest 2 = .ok (.putfield 16, 3) := by decide +kernel
theorem dX2_digest_5 : decode cX2_digest 5 = .ok (.ldc2_w 107, 3) := by decide +kernel
theorem dX2_digest_8 : decode cX2_digest 8 = .ok (.lstore_n 1, 1) := by decide +kernel
theorem dX2_digest_9 : decode cX2_digest 9 = .ok (.iconst 0, 1) := by decide +kernel
theorem dX2_digest_10 : decode cX2_digest 10 = .ok (.istore_n 3, 1) := by decide +kernel
theorem dX2_digest_11 : decode cX2_digest 11 = .ok (.iload_n 3, 1) := by decide +kernel
theorem dX2_digest_12 : decode cX2_digest 12 = .ok (.bipush 8, 2) := by decide +kernel
theorem dX2_digest_14 : decode cX2_digest 14 = .ok (.if_icmp .ge 22, 3) := by decide +kernel
theorem dX2_digest_17 : decode cX2_digest 17 = .ok (.lload_n 1, 1) := by decide +kernel
theorem dX2_digest_18 : decode cX2_digest 18 = .ok (.ldc2_w 109, 3) := by decide +kernel
theorem dX2_digest_21 : decode cX2_digest 21 = .ok (.lmul, 1) := by decide +kernel
theorem dX2_digest_22 : decode cX2_digest 22 = .ok (.aload_n 0, 1) := by decide +kernel
theorem dX2_digest_23 : decode cX2_digest 23 = .ok (.iload_n 3, 1) := by decide +kernel
theorem dX2_digest_24 : decode cX2_digest 24 = .ok (.invokevirtual 72, 3) := by decide +kernel
theorem dX2_digest_27 : decode cX2_digest 27 = .ok (.i2l, 1) := by decide +kernel
theorem dX2_digest_28 : decode cX2_digest 28 = .ok (.ladd, 1) := by decide +kernel
theorem dX2_digest_29 : decode cX2_digest 29 = .ok (.lstore_n 1, 1) := by decide +kernel
theorem dX2_digest_30 : decode cX2_digest 30 = .ok (.iinc 3 1, 3) := by decide +kernel
theorem dX2_digest_33 : decode cX2_digest 33 = .ok (.goto (-22), 3) := by decide +kernel
theorem dX2_digest_36 : decode cX2_digest 36 = .ok (.iconst 0, 1) := by decide +kernel
theorem dX2_digest_37 : decode cX2_digest 37 = .ok (.istore_n 3, 1) := by decide +kernel
theorem dX2_digest_38 : decode cX2_digest 38 = .ok (.iload_n 3, 1) := by decide +kernel
theorem dX2_digest_39 : decode cX2_digest 39 = .ok (.aload_n 0, 1) := by decide +kernel
theorem dX2_digest_40 : decode cX2_digest 40 = .ok (.getfield 20, 3) := by decide +kernel
theorem dX2_digest_43 : decode cX2_digest 43 = .ok (.if_icmp .ge 72, 3) := by decide +kernel
theorem dX2_digest_46 : decode cX2_digest 46 = .ok (.bipush 9, 2) := by decide +kernel
theorem dX2_digest_48 : decode cX2_digest 48 = .ok (.istore 4, 2) := by decide +kernel
theorem dX2_digest_50 : decode cX2_digest 50 = .ok (.iload 4, 2) := by decide +kernel
theorem dX2_digest_52 : decode cX2_digest 52 = .ok (.bipush 13, 2) := by decide +kernel
theorem dX2_digest_54 : decode cX2_digest 54 = .ok (.if_icmp .gt 24, 3) := by decide +kernel
theorem dX2_digest_57 : decode cX2_digest 57 = .ok (.lload_n 1, 1) := by decide +kernel
theorem dX2_digest_58 : decode cX2_digest 58 = .ok (.ldc2_w 109, 3) := by decide +kernel
theorem dX2_digest_61 : decode cX2_digest 61 = .ok (.lmul, 1) := by decide +kernel
theorem dX2_digest_62 : decode cX2_digest 62 = .ok (.aload_n 0, 1) := by decide +kernel
theorem dX2_digest_63 : decode cX2_digest 63 = .ok (.iload_n 3, 1) := by decide +kernel
theorem dX2_digest_64 : decode cX2_digest 64 = .ok (.iload 4, 2) := by decide +kernel
theorem dX2_digest_66 : decode cX2_digest 66 = .ok (.invokevirtual 37, 3) := by decide +kernel
theorem dX2_digest_69 : decode cX2_digest 69 = .ok (.i2l, 1) := by decide +kernel
theorem dX2_digest_70 : decode cX2_digest 70 = .ok (.ladd, 1) := by decide +kernel
theorem dX2_digest_71 : decode cX2_digest 71 = .ok (.lstore_n 1, 1) := by decide +kernel
theorem dX2_digest_72 : decode cX2_digest 72 = .ok (.iinc 4 1, 3) := by decide +kernel
theorem dX2_digest_75 : decode cX2_digest 75 = .ok (.goto (-25), 3) := by decide +kernel
theorem dX2_digest_78 : decode cX2_digest 78 = .ok (.iconst 0, 1) := by decide +kernel
theorem dX2_digest_79 : decode cX2_digest 79 = .ok (.istore 4, 2) := by decide +kernel
theorem dX2_digest_81 : decode cX2_digest 81 = .ok (.iload 4, 2) := by decide +kernel
theorem dX2_digest_83 : decode cX2_digest 83 = .ok (.bipush 11, 2) := by decide +kernel
theorem dX2_digest_85 : decode cX2_digest 85 = .ok (.if_icmp .ge 24, 3) := by decide +kernel
theorem dX2_digest_88 : decode cX2_digest 88 = .ok (.lload_n 1, 1) := by decide +kernel
theorem dX2_digest_89 : decode cX2_digest 89 = .ok (.ldc2_w 109, 3) := by decide +kernel
theorem dX2_digest_92 : decode cX2_digest 92 = .ok (.lmul, 1) := by decide +kernel
theorem dX2_digest_93 : decode cX2_digest 93 = .ok (.aload_n 0, 1) := by decide +kernel
theorem dX2_digest_94 : decode cX2_digest 94 = .ok (.iload_n 3, 1) := by decide +kernel
theorem dX2_digest_95 : decode cX2_digest 95 = .ok (.iload 4, 2) := by decide +kernel
theorem dX2_digest_97 : decode cX2_digest 97 = .ok (.invokevirtual 61, 3) := by decide +kernel
theorem dX2_digest_100 : decode cX2_digest 100 = .ok (.i2l, 1) := by decide +kernel
theorem dX2_digest_101 : decode cX2_digest 101 = .ok (.ladd, 1) := by decide +kernel
theorem dX2_digest_102 : decode cX2_digest 102 = .ok (.lstore_n 1, 1) := by decide +kernel
theorem dX2_digest_103 : decode cX2_digest 103 = .ok (.iinc 4 1, 3) := by decide +kernel
theorem dX2_digest_106 : decode cX2_digest 106 = .ok (.goto (-25), 3) := by decide +kernel
theorem dX2_digest_109 : decode cX2_digest 109 = .ok (.iinc 3 1, 3) := by decide +kernel
theorem dX2_digest_112 : decode cX2_digest 112 = .ok (.goto (-74), 3) := by decide +kernel
theorem dX2_digest_115 : decode cX2_digest 115 = .ok (.lload_n 1, 1) := by decide +kernel
theorem dX2_digest_116 : decode cX2_digest 116 = .ok (.lreturn, 1) := by decide +kernel
