theorem dX2_init_0 : decode cX2_init 0 = .ok (.aload_n 0, 1) := by decide +kernel
theorem dX2_init_1 : decode cX2_init 1 = .ok (.invokespecial 1, 3) := by decide +kernel
theorem dX2_init_4 : decode cX2_init 4 = .ok (.aload_n 0, 1) := by decide +kernel
theorem dX2_init_5 : decode cX2_init 5 = .ok (.bipush 30, 2) := by decide +kernel
theorem dX2_init_7 : decode cX2_init 7 = .ok (.putfield 7, 3) := by decide +kernel
theorem dX2_init_10 : decode cX2_init 10 = .ok (.aload_n 0, 1) := by decide +kernel
theorem dX2_init_11 : decode cX2_init 11 = .ok (.bipush 30, 2) := by decide +kernel
theorem dX2_init_13 : decode cX2_init 13 = .ok (.putfield 13, 3) := by decide +kernel
theorem dX2_init_16 : decode cX2_init 16 = .ok (.aload_n 0, 1) := by decide +kernel
theorem dX2_init_17 : decode cX2_init 17 = .ok (.sipush 600, 3) := by decide +kernel
theorem dX2_init_20 : decode cX2_init 20 = .ok (.putfield 16, 3) := by decide +kernel
theorem dX2_init_23 : decode cX2_init 23 = .ok (.aload_n 0, 1) := by decide +kernel
theorem dX2_init_24 : decode cX2_init 24 = .ok (.bipush 100, 2) := by decide +kernel
theorem dX2_init_26 : decode cX2_init 26 = .ok (.putfield 19, 3) := by decide +kernel
theorem dX2_init_29 : decode cX2_init 29 = .ok (.aload_n 0, 1) := by decide +kernel
theorem dX2_init_30 : decode cX2_init 30 = .ok (.bipush 60, 2) := by decide +kernel
theorem dX2_init_32 : decode cX2_init 32 = .ok (.putfield 22, 3) := by decide +kernel
theorem dX2_init_35 : decode cX2_init 35 = .ok (.aload_n 0, 1) := by decide +kernel
theorem dX2_init_36 : decode cX2_init 36 = .ok (.iconst 1, 1) := by decide +kernel
theorem dX2_init_37 : decode cX2_init 37 = .ok (.putfield 25, 3) := by decide +kernel
theorem dX2_init_40 : decode cX2_init 40 = .ok (.aload_n 0, 1) := by decide +kernel
theorem dX2_init_41 : decode cX2_init 41 = .ok (.iconst (-1), 1) := by decide +kernel
theorem dX2_init_42 : decode cX2_init 42 = .ok (.putfield 29, 3) := by decide +kernel
theorem dX2_init_45 : decode cX2_init 45 = .ok (.return_, 1) := by decide +kernel
theorem dX2_advance_0 : decode cX2_advance 0 = .ok (.sipush 900, 3) := by decide +kernel
theorem dX2_advance_3 : decode cX2_advance 3 = .ok (.iload_n 1, 1) := by decide +kernel
theorem dX2_advance_4 : decode cX2_advance 4 = .ok (.imul, 1) := by decide +kernel
theorem dX2_advance_5 : decode cX2_advance 5 = .ok (.iload_n 2, 1) := by decide +kernel
theorem dX2_advance_6 : decode cX2_advance 6 = .ok (.idiv, 1) := by decide +kernel
theorem dX2_advance_7 : decode cX2_advance 7 = .ok (.aload_n 0, 1) := by decide +kernel
theorem dX2_advance_8 : decode cX2_advance 8 = .ok (.getfield 33, 3) := by decide +kernel
theorem dX2_advance_11 : decode cX2_advance 11 = .ok (.iadd, 1) := by decide +kernel
theorem dX2_advance_12 : decode cX2_advance 12 = .ok (.istore_n 3, 1) := by decide +kernel
theorem dX2_advance_13 : decode cX2_advance 13 = .ok (.aload_n 0, 1) := by decide +kernel
theorem dX2_advance_14 : decode cX2_advance 14 = .ok (.getfield 19, 3) := by decide +kernel
theorem dX2_advance_17 : decode cX2_advance 17 = .ok (.bipush 19, 2) := by decide +kernel
theorem dX2_advance_19 : decode cX2_advance 19 = .ok (.if_icmp .le 7, 3) := by decide +kernel
theorem dX2_advance_22 : decode cX2_advance 22 = .ok (.iload_n 3, 1) := by decide +kernel
theorem dX2_advance_23 : decode cX2_advance 23 = .ok (.goto 9, 3) := by decide +kernel
theorem dX2_advance_26 : decode cX2_advance 26 = .ok (.iload_n 3, 1) := by decide +kernel
theorem dX2_advance_27 : decode cX2_advance 27 = .ok (.iload_n 3, 1) := by decide +kernel
theorem dX2_advance_28 : decode cX2_advance 28 = .ok (.bipush 10, 2) := by decide +kernel
theorem dX2_advance_30 : decode cX2_advance 30 = .ok (.idiv, 1) := by decide +kernel
theorem dX2_advance_31 : decode cX2_advance 31 = .ok (.isub, 1) := by decide +kernel
theorem dX2_advance_32 : decode cX2_advance 32 = .ok (.ireturn, 1) := by decide +kernel
theorem dX2_isShut_0 : decode cX2_isShut 0 = .ok (.aload_n 0, 1) := by decide +kernel
theorem dX2_isShut_1 : decode cX2_isShut 1 = .ok (.getfield 29, 3) := by decide +kernel
theorem dX2_isShut_4 : decode cX2_isShut 4 = .ok (.ifCond .ge 5, 3) := by decide +kernel
theorem dX2_isShut_7 : decode cX2_isShut 7 = .ok (.iconst 0, 1) := by decide +kernel
theorem dX2_isShut_8 : decode cX2_isShut 8 = .ok (.ireturn, 1) := by decide +kernel
theorem dX2_isShut_9 : decode cX2_isShut 9 = .ok (.aload_n 0, 1) := by decide +kernel
theorem dX2_isShut_10 : decode cX2_isShut 10 = .ok (.getfield 29, 3) := by decide +kernel
theorem dX2_isShut_13 : decode cX2_isShut 13 = .ok (.aload_n 0, 1) := by decide +kernel
theorem dX2_isShut_14 : decode cX2_isShut 14 = .ok (.getfield 42, 3) := by decide +kernel
theorem dX2_isShut_17 : decode cX2_isShut 17 = .ok (.if_icmp .ne 5, 3) := by decide +kernel
theorem dX2_isShut_20 : decode cX2_isShut 20 = .ok (.iconst 1, 1) := by decide +kernel
theorem dX2_isShut_21 : decode cX2_isShut 21 = .ok (.ireturn, 1) := by decide +kernel
theorem dX2_isShut_22 : decode cX2_isShut 22 = .ok (.aload_n 0, 1) := by decide +kernel
theorem dX2_isShut_23 : decode cX2_isShut 23 = .ok (.getfield 29, 3) := by decide +kernel
theorem dX2_isShut_26 : decode cX2_isShut 26 = .ok (.aload_n 0, 1) := by decide +kernel
theorem dX2_isShut_27 : decode cX2_isShut 27 = .ok (.getfield 42, 3) := by decide +kernel
theorem dX2_isShut_30 : decode cX2_isShut 30 = .ok (.if_icmp .ge 27, 3) := by decide +kernel
theorem dX2_isShut_33 : decode cX2_isShut 33 = .ok (.iload_n 1, 1) := by decide +kernel
theorem dX2_isShut_34 : decode cX2_isShut 34 = .ok (.aload_n 0, 1) := by decide +kernel
theorem dX2_isShut_35 : decode cX2_isShut 35 = .ok (.getfield 29, 3) := by decide +kernel
theorem dX2_isShut_38 : decode cX2_isShut 38 = .ok (.if_icmp .lt 15, 3) := by decide +kernel
theorem dX2_isShut_41 : decode cX2_isShut 41 = .ok (.iload_n 1, 1) := by decide +kernel
theorem dX2_isShut_42 : decode cX2_isShut 42 = .ok (.aload_n 0, 1) := by decide +kernel
theorem dX2_isShut_43 : decode cX2_isShut 43 = .ok (.getfield 42, 3) := by decide +kernel
theorem dX2_isShut_46 : decode cX2_isShut 46 = .ok (.if_icmp .ge 7, 3) := by decide +kernel
theorem dX2_isShut_49 : decode cX2_isShut 49 = .ok (.iconst 1, 1) := by decide +kernel
theorem dX2_isShut_50 : decode cX2_isShut 50 = .ok (.goto 28, 3) := by decide +kernel
theorem dX2_isShut_53 : decode cX2_isShut 53 = .ok (.iconst 0, 1) := by decide +kernel
theorem dX2_isShut_54 : decode cX2_isShut 54 = .ok (.goto 24, 3) := by decide +kernel
theorem dX2_isShut_57 : decode cX2_isShut 57 = .ok (.iload_n 1, 1) := by decide +kernel
theorem dX2_isShut_58 : decode cX2_isShut 58 = .ok (.aload_n 0, 1) := by decide +kernel
theorem dX2_isShut_59 : decode cX2_isShut 59 = .ok (.getfield 29, 3) := by decide +kernel
theorem dX2_isShut_62 : decode cX2_isShut 62 = .ok (.if_icmp .ge 11, 3) := by decide +kernel
theorem dX2_isShut_65 : decode cX2_isShut 65 = .ok (.iload_n 1, 1) := by decide +kernel
theorem dX2_isShut_66 : decode cX2_isShut 66 = .ok (.aload_n 0, 1) := by decide +kernel
theorem dX2_isShut_67 : decode cX2_isShut 67 = .ok (.getfield 42, 3) := by decide +kernel
theorem dX2_isShut_70 : decode cX2_isShut 70 = .ok (.if_icmp .ge 7, 3) := by decide +kernel
theorem dX2_isShut_73 : decode cX2_isShut 73 = .ok (.iconst 1, 1) := by decide +kernel
theorem dX2_isShut_74 : decode cX2_isShut 74 = .ok (.goto 4, 3) := by decide +kernel
theorem dX2_isShut_77 : decode cX2_isShut 77 = .ok (.iconst 0, 1) := by decide +kernel
theorem dX2_isShut_78 : decode cX2_isShut 78 = .ok (.ireturn, 1) := by decide +kernel
set_option maxRecDepth 20000 in
theorem ggX2_pass_X2_advance : GoodIn wsX2_pass wsX2_advance := goodIn_r _ [16, 17, 11, 24, 25, 26, 27, 28, 29, 30, 31, 32, 33, 34, 35, 36, 37] (by decide +kernel) (by decide +kernel)
set_option maxRecDepth 20000 in
theorem gX2_pass_X2_advance : GoodIn wsX2_pass (wsV RX2 48 RX2 yX2_advance wsX2_advance) := goodIn_app (goodIn_of _ (by decide +kernel)) ggX2_pass_X2_advance
set_option maxRecDepth 20000 in
theorem ggX2_pass_X2_isShut : GoodIn wsX2_pass wsX2_isShut := goodIn_r _ [21, 22, 23, 24, 25, 26, 27, 28, 29, 30, 31, 32, 33, 34, 35, 36, 37] (by decide +kernel) (by decide +kernel)
set_option maxRecDepth 20000 in
theorem gX2_pass_X2_isShut : GoodIn wsX2_pass (wsV RX2 52 RX2 yX2_isShut wsX2_isShut) := goodIn_app (goodIn_of _ (by decide +kernel)) ggX2_pass_X2_isShut
theorem dX2_pass_0 : decode cX2_pass 0 = .ok (.aload_n 0, 1) := by decide +kernel
theorem dX2_pass_1 : decode cX2_pass 1 = .ok (.iconst 0, 1) := by decide +kernel
theorem dX2_pass_2 : decode cX2_pass 2 = .ok (.putfield 45, 3) := by decide +kernel
theorem dX2_pass_5 : decode cX2_pass 5 = .ok (.aload_n 0, 1) := by decide +kernel
theorem dX2_pass_6 : decode cX2_pass 6 = .ok (.getfield 25, 3) := by decide +kernel
theorem dX2_pass_9 : decode cX2_pass 9 = .ok (.ifCond .ne 4, 3) := by decide +kernel
theorem dX2_pass_12 : decode cX2_pass 12 = .ok (.return_, 1) := by decide +kernel
theorem dX2_pass_13 : decode cX2_pass 13 = .ok (.aload_n 0, 1) := by decide +kernel
theorem dX2_pass_14 : decode cX2_pass 14 = .ok (.dup, 1) := by decide +kernel
theorem dX2_pass_15 : decode cX2_pass 15 = .ok (.getfield 39, 3) := by decide +kernel
theorem dX2_pass_18 : decode cX2_pass 18 = .ok (.aload_n 0, 1) := by decide +kernel
theorem dX2_pass_19 : decode cX2_pass 19 = .ok (.aload_n 0, 1) := by decide +kernel
theorem dX2_pass_20 : decode cX2_pass 20 = .ok (.getfield 7, 3) := by decide +kernel
theorem dX2_pass_23 : decode cX2_pass 23 = .ok (.aload_n 0, 1) := by decide +kernel
theorem dX2_pass_24 : decode cX2_pass 24 = .ok (.getfield 13, 3) := by decide +kernel
theorem dX2_pass_27 : decode cX2_pass 27 = .ok (.invokevirtual 48, 3) := by decide +kernel
theorem dX2_pass_30 : decode cX2_pass 30 = .ok (.iadd, 1) := by decide +kernel
theorem dX2_pass_31 : decode cX2_pass 31 = .ok (.putfield 39, 3) := by decide +kernel
theorem dX2_pass_34 : decode cX2_pass 34 = .ok (.aload_n 0, 1) := by decide +kernel
theorem dX2_pass_35 : decode cX2_pass 35 = .ok (.getfield 39, 3) := by decide +kernel
theorem dX2_pass_38 : decode cX2_pass 38 = .ok (.sipush 899, 3) := by decide +kernel
theorem dX2_pass_41 : decode cX2_pass 41 = .ok (.if_icmp .le 164, 3) := by decide +kernel
theorem dX2_pass_44 : decode cX2_pass 44 = .ok (.aload_n 0, 1) := by decide +kernel
theorem dX2_pass_45 : decode cX2_pass 45 = .ok (.dup, 1) := by decide +kernel
theorem dX2_pass_46 : decode cX2_pass 46 = .ok (.getfield 39, 3) := by decide +kernel
theorem dX2_pass_49 : decode cX2_pass 49 = .ok (.sipush 900, 3) := by decide +kernel
theorem dX2_pass_52 : decode cX2_pass 52 = .ok (.isub, 1) := by decide +kernel
theorem dX2_pass_53 : decode cX2_pass 53 = .ok (.putfield 39, 3) := by decide +kernel
theorem dX2_pass_56 : decode cX2_pass 56 = .ok (.aload_n 0, 1) := by decide +kernel
theorem dX2_pass_57 : decode cX2_pass 57 = .ok (.aload_n 0, 1) := by decide +kernel
theorem dX2_pass_58 : decode cX2_pass 58 = .ok (.getfield 36, 3) := by decide +kernel
theorem dX2_pass_61 : decode cX2_pass 61 = .ok (.sipush 719, 3) := by decide +kernel
theorem dX2_pass_64 : decode cX2_pass 64 = .ok (.if_icmp .ne 7, 3) := by decide +kernel
theorem dX2_pass_67 : decode cX2_pass 67 = .ok (.iconst 0, 1) := by decide +kernel
theorem dX2_pass_68 : decode cX2_pass 68 = .ok (.goto 9, 3) := by decide +kernel
theorem dX2_pass_71 : decode cX2_pass 71 = .ok (.aload_n 0, 1) := by decide +kernel
theorem dX2_pass_72 : decode cX2_pass 72 = .ok (.getfield 36, 3) := by decide +kernel
theorem dX2_pass_75 : decode cX2_pass 75 = .ok (.iconst 1, 1) := by decide +kernel
theorem dX2_pass_76 : decode cX2_pass 76 = .ok (.iadd, 1) := by decide +kernel
theorem dX2_pass_77 : decode cX2_pass 77 = .ok (.putfield 36, 3) := by decide +kernel
theorem dX2_pass_80 : decode cX2_pass 80 = .ok (.aload_n 0, 1) := by decide +kernel
theorem dX2_pass_81 : decode cX2_pass 81 = .ok (.getfield 36, 3) := by decide +kernel
theorem dX2_pass_84 : decode cX2_pass 84 = .ok (.bipush 60, 2) := by decide +kernel
theorem dX2_pass_86 : decode cX2_pass 86 = .ok (.irem, 1) := by decide +kernel
theorem dX2_pass_87 : decode cX2_pass 87 = .ok (.ifCond .ne 25, 3) := by decide +kernel
theorem dX2_pass_90 : decode cX2_pass 90 = .ok (.aload_n 0, 1) := by decide +kernel
theorem dX2_pass_91 : decode cX2_pass 91 = .ok (.getfield 36, 3) := by decide +kernel
theorem dX2_pass_94 : decode cX2_pass 94 = .ok (.ifCond .ne 8, 3) := by decide +kernel
theorem dX2_pass_97 : decode cX2_pass 97 = .ok (.bipush 12, 2) := by decide +kernel
theorem dX2_pass_99 : decode cX2_pass 99 = .ok (.goto 30, 3) := by decide +kernel
theorem dX2_pass_102 : decode cX2_pass 102 = .ok (.aload_n 0, 1) := by decide +kernel
theorem dX2_pass_103 : decode cX2_pass 103 = .ok (.getfield 36, 3) := by decide +kernel
theorem dX2_pass_106 : decode cX2_pass 106 = .ok (.bipush 60, 2) := by decide +kernel
theorem dX2_pass_108 : decode cX2_pass 108 = .ok (.idiv, 1) := by decide +kernel
theorem dX2_pass_109 : decode cX2_pass 109 = .ok (.goto 20, 3) := by decide +kernel
theorem dX2_pass_112 : decode cX2_pass 112 = .ok (.aload_n 0, 1) := by decide +kernel
theorem dX2_pass_113 : decode cX2_pass 113 = .ok (.getfield 36, 3) := by decide +kernel
theorem dX2_pass_116 : decode cX2_pass 116 = .ok (.bipush 60, 2) := by decide +kernel
theorem dX2_pass_118 : decode cX2_pass 118 = .ok (.irem, 1) := by decide +kernel
theorem dX2_pass_119 : decode cX2_pass 119 = .ok (.bipush 30, 2) := by decide +kernel
theorem dX2_pass_121 : decode cX2_pass 121 = .ok (.if_icmp .ne 7, 3) := by decide +kernel
theorem dX2_pass_124 : decode cX2_pass 124 = .ok (.iconst 1, 1) := by decide +kernel
theorem dX2_pass_125 : decode cX2_pass 125 = .ok (.goto 4, 3) := by decide +kernel
theorem dX2_pass_128 : decode cX2_pass 128 = .ok (.iconst 0, 1) := by decide +kernel
theorem dX2_pass_129 : decode cX2_pass 129 = .ok (.istore_n 2, 1) := by decide +kernel
theorem dX2_pass_130 : decode cX2_pass 130 = .ok (.aload_n 0, 1) := by decide +kernel
theorem dX2_pass_131 : decode cX2_pass 131 = .ok (.aload_n 0, 1) := by decide +kernel
theorem dX2_pass_132 : decode cX2_pass 132 = .ok (.getfield 36, 3) := by decide +kernel
theorem dX2_pass_135 : decode cX2_pass 135 = .ok (.invokevirtual 52, 3) := by decide +kernel
theorem dX2_pass_138 : decode cX2_pass 138 = .ok (.ifCond .eq 5, 3) := by decide +kernel
theorem dX2_pass_141 : decode cX2_pass 141 = .ok (.iconst 0, 1) := by decide +kernel
theorem dX2_pass_142 : decode cX2_pass 142 = .ok (.istore_n 2, 1) := by decide +kernel
theorem dX2_pass_143 : decode cX2_pass 143 = .ok (.iload_n 2, 1) := by decide +kernel
theorem dX2_pass_144 : decode cX2_pass 144 = .ok (.aload_n 0, 1) := by decide +kernel
theorem dX2_pass_145 : decode cX2_pass 145 = .ok (.getfield 22, 3) := by decide +kernel
theorem dX2_pass_148 : decode cX2_pass 148 = .ok (.if_icmp .ge 7, 3) := by decide +kernel
theorem dX2_pass_151 : decode cX2_pass 151 = .ok (.iload_n 2, 1) := by decide +kernel
theorem dX2_pass_152 : decode cX2_pass 152 = .ok (.goto 7, 3) := by decide +kernel
theorem dX2_pass_155 : decode cX2_pass 155 = .ok (.aload_n 0, 1) := by decide +kernel
theorem dX2_pass_156 : decode cX2_pass 156 = .ok (.getfield 22, 3) := by decide +kernel
theorem dX2_pass_159 : decode cX2_pass 159 = .ok (.istore_n 3, 1) := by decide +kernel
theorem dX2_pass_160 : decode cX2_pass 160 = .ok (.aload_n 0, 1) := by decide +kernel
theorem dX2_pass_161 : decode cX2_pass 161 = .ok (.dup, 1) := by decide +kernel
theorem dX2_pass_162 : decode cX2_pass 162 = .ok (.getfield 22, 3) := by decide +kernel
theorem dX2_pass_165 : decode cX2_pass 165 = .ok (.iload_n 3, 1) := by decide +kernel
theorem dX2_pass_166 : decode cX2_pass 166 = .ok (.isub, 1) := by decide +kernel
theorem dX2_pass_167 : decode cX2_pass 167 = .ok (.putfield 22, 3) := by decide +kernel
theorem dX2_pass_170 : decode cX2_pass 170 = .ok (.aload_n 0, 1) := by decide +kernel
theorem dX2_pass_171 : decode cX2_pass 171 = .ok (.dup, 1) := by decide +kernel
theorem dX2_pass_172 : decode cX2_pass 172 = .ok (.getfield 56, 3) := by decide +kernel
theorem dX2_pass_175 : decode cX2_pass 175 = .ok (.iload_n 3, 1) := by decide +kernel
theorem dX2_pass_176 : decode cX2_pass 176 = .ok (.iadd, 1) := by decide +kernel
theorem dX2_pass_177 : decode cX2_pass 177 = .ok (.putfield 56, 3) := by decide +kernel
theorem dX2_pass_180 : decode cX2_pass 180 = .ok (.aload_n 0, 1) := by decide +kernel
theorem dX2_pass_181 : decode cX2_pass 181 = .ok (.dup, 1) := by decide +kernel
theorem dX2_pass_182 : decode cX2_pass 182 = .ok (.getfield 45, 3) := by decide +kernel
theorem dX2_pass_185 : decode cX2_pass 185 = .ok (.iload_n 3, 1) := by decide +kernel
theorem dX2_pass_186 : decode cX2_pass 186 = .ok (.iadd, 1) := by decide +kernel
theorem dX2_pass_187 : decode cX2_pass 187 = .ok (.putfield 45, 3) := by decide +kernel
theorem dX2_pass_190 : decode cX2_pass 190 = .ok (.aload_n 0, 1) := by decide +kernel
theorem dX2_pass_191 : decode cX2_pass 191 = .ok (.dup, 1) := by decide +kernel
theorem dX2_pass_192 : decode cX2_pass 192 = .ok (.getfield 59, 3) := by decide +kernel
theorem dX2_pass_195 : decode cX2_pass 195 = .ok (.iload_n 2, 1) := by decide +kernel
theorem dX2_pass_196 : decode cX2_pass 196 = .ok (.iload_n 3, 1) := by decide +kernel
theorem dX2_pass_197 : decode cX2_pass 197 = .ok (.isub, 1) := by decide +kernel
theorem dX2_pass_198 : decode cX2_pass 198 = .ok (.iadd, 1) := by decide +kernel
theorem dX2_pass_199 : decode cX2_pass 199 = .ok (.putfield 59, 3) := by decide +kernel
theorem dX2_pass_202 : decode cX2_pass 202 = .ok (.goto (-168), 3) := by decide +kernel
theorem dX2_pass_205 : decode cX2_pass 205 = .ok (.aload_n 0, 1) := by decide +kernel
theorem dX2_pass_206 : decode cX2_pass 206 = .ok (.dup, 1) := by decide +kernel
theorem dX2_pass_207 : decode cX2_pass 207 = .ok (.getfield 16, 3) := by decide +kernel
theorem dX2_pass_210 : decode cX2_pass 210 = .ok (.iconst 1, 1) := by decide +kernel
theorem dX2_pass_211 : decode cX2_pass 211 = .ok (.isub, 1) := by decide +kernel
theorem dX2_pass_212 : decode cX2_pass 212 = .ok (.putfield 16, 3) := by decide +kernel
theorem dX2_pass_215 : decode cX2_pass 215 = .ok (.iload_n 1, 1) := by decide +kernel
theorem dX2_pass_216 : decode cX2_pass 216 = .ok (.bipush 10, 2) := by decide +kernel
theorem dX2_pass_218 : decode cX2_pass 218 = .ok (.irem, 1) := by decide +kernel
theorem dX2_pass_219 : decode cX2_pass 219 = .ok (.ifCond .ne 20, 3) := by decide +kernel
theorem dX2_pass_222 : decode cX2_pass 222 = .ok (.aload_n 0, 1) := by decide +kernel
theorem dX2_pass_223 : decode cX2_pass 223 = .ok (.getfield 19, 3) := by decide +kernel
theorem dX2_pass_226 : decode cX2_pass 226 = .ok (.ifCond .le 13, 3) := by decide +kernel
theorem dX2_pass_229 : decode cX2_pass 229 = .ok (.aload_n 0, 1) := by decide +kernel
theorem dX2_pass_230 : decode cX2_pass 230 = .ok (.dup, 1) := by decide +kernel
theorem dX2_pass_231 : decode cX2_pass 231 = .ok (.getfield 19, 3) := by decide +kernel
theorem dX2_pass_234 : decode cX2_pass 234 = .ok (.iconst 1, 1) := by decide +kernel
theorem dX2_pass_235 : decode cX2_pass 235 = .ok (.isub, 1) := by decide +kernel
theorem dX2_pass_236 : decode cX2_pass 236 = .ok (.putfield 19, 3) := by decide +kernel
theorem dX2_pass_239 : decode cX2_pass 239 = .ok (.aload_n 0, 1) := by decide +kernel
theorem dX2_pass_240 : decode cX2_pass 240 = .ok (.aload_n 0, 1) := by decide +kernel
theorem dX2_pass_241 : decode cX2_pass 241 = .ok (.getfield 16, 3) := by decide +kernel
theorem dX2_pass_244 : decode cX2_pass 244 = .ok (.ifCond .le 7, 3) := by decide +kernel
theorem dX2_pass_247 : decode cX2_pass 247 = .ok (.iconst 1, 1) := by decide +kernel
theorem dX2_pass_248 : decode cX2_pass 248 = .ok (.goto 4, 3) := by decide +kernel
theorem dX2_pass_251 : decode cX2_pass 251 = .ok (.iconst 0, 1) := by decide +kernel
theorem dX2_pass_252 : decode cX2_pass 252 = .ok (.putfield 25, 3) := by decide +kernel
theorem dX2_pass_255 : decode cX2_pass 255 = .ok (.return_, 1) := by decide +kernel
theorem dX2_off_0 : decode cX2_off 0 = .ok (.aload_n 0, 1) := by decide +kernel
theorem dX2_off_1 : decode cX2_off 1 = .ok (.getfield 36, 3) := by decide +kernel
theorem dX2_off_4 : decode cX2_off 4 = .ok (.iload_n 1, 1) := by decide +kernel
theorem dX2_off_5 : decode cX2_off 5 = .ok (.sipush 720, 3) := by decide +kernel
theorem dX2_off_8 : decode cX2_off 8 = .ok (.irem, 1) := by decide +kernel
theorem dX2_off_9 : decode cX2_off 9 = .ok (.isub, 1) := by decide +kernel
theorem dX2_off_10 : decode cX2_off 10 = .ok (.istore_n 2, 1) := by decide +kernel
theorem dX2_off_11 : decode cX2_off 11 = .ok (.iload_n 2, 1) := by decide +kernel
theorem dX2_off_12 : decode cX2_off 12 = .ok (.sipush (-360), 3) := by decide +kernel
theorem dX2_off_15 : decode cX2_off 15 = .ok (.if_icmp .ge 12, 3) := by decide +kernel
theorem dX2_off_18 : decode cX2_off 18 = .ok (.iinc 2 720, 6) := by decide +kernel
theorem dX2_off_24 : decode cX2_off 24 = .ok (.goto (-13), 3) := by decide +kernel
theorem dX2_off_27 : decode cX2_off 27 = .ok (.iload_n 2, 1) := by decide +kernel
theorem dX2_off_28 : decode cX2_off 28 = .ok (.sipush 359, 3) := by decide +kernel
theorem dX2_off_31 : decode cX2_off 31 = .ok (.if_icmp .le 12, 3) := by decide +kernel
theorem dX2_off_34 : decode cX2_off 34 = .ok (.iinc 2 (-720), 6) := by decide +kernel
theorem dX2_off_40 : decode cX2_off 40 = .ok (.goto (-13), 3) := by decide +kernel
theorem dX2_off_43 : decode cX2_off 43 = .ok (.iload_n 2, 1) := by decide +kernel
theorem dX2_off_44 : decode cX2_off 44 = .ok (.ireturn, 1) := by decide +kernel
theorem dX3_init_0 : decode cX3_init 0 = .ok (.aload_n 0, 1) := by decide +kernel
theorem dX3_init_1 : decode cX3_init 1 = .ok (.invokespecial 1, 3) := by decide +kernel
theorem dX3_init_4 : decode cX3_init 4 = .ok (.aload_n 0, 1) := by decide +kernel
theorem dX3_init_5 : decode cX3_init 5 = .ok (.iconst 0, 1) := by decide +kernel
theorem dX3_init_6 : decode cX3_init 6 = .ok (.anewarray 7, 3) := by decide +kernel
theorem dX3_init_9 : decode cX3_init 9 = .ok (.putfield 9, 3) := by decide +kernel
theorem dX3_init_12 : decode cX3_init 12 = .ok (.return_, 1) := by decide +kernel
set_option maxRecDepth 20000 in
theorem ggX3_come_X2_init : GoodIn wsX3_come wsX2_init := goodIn_r _ [7, 8, 9, 10, 11, 12, 13, 14, 15, 16, 17, 20, 21, 22, 23, 24, 25, 26, 27, 28, 29, 30, 31, 32, 33] (by decide +kernel) (by decide +kernel)
set_option maxRecDepth 20000 in
theorem gX3_come_X2_init_n24 : GoodIn wsX3_come (wsX2_init) := ggX3_come_X2_init
theorem dX3_come_0 : decode cX3_come 0 = .ok (.aload_n 0, 1) := by decide +kernel
theorem dX3_come_1 : decode cX3_come 1 = .ok (.getfield 9, 3) := by decide +kernel
theorem dX3_come_4 : decode cX3_come 4 = .ok (.arraylength, 1) := by decide +kernel
theorem dX3_come_5 : decode cX3_come 5 = .ok (.iconst 1, 1) := by decide +kernel
theorem dX3_come_6 : decode cX3_come 6 = .ok (.iadd, 1) := by decide +kernel
theorem dX3_come_7 : decode cX3_come 7 = .ok (.anewarray 7, 3) := by decide +kernel
theorem dX3_come_10 : decode cX3_come 10 = .ok (.astore_n 2, 1) := by decide +kernel
theorem dX3_come_11 : decode cX3_come 11 = .ok (.iconst 0, 1) := by decide +kernel
theorem dX3_come_12 : decode cX3_come 12 = .ok (.istore_n 3, 1) := by decide +kernel
theorem dX3_come_13 : decode cX3_come 13 = .ok (.iload_n 3, 1) := by decide +kernel
theorem dX3_come_14 : decode cX3_come 14 = .ok (.aload_n 0, 1) := by decide +kernel
theorem dX3_come_15 : decode cX3_come 15 = .ok (.getfield 9, 3) := by decide +kernel
theorem dX3_come_18 : decode cX3_come 18 = .ok (.arraylength, 1) := by decide +kernel
theorem dX3_come_19 : decode cX3_come 19 = .ok (.if_icmp .ge 18, 3) := by decide +kernel
theorem dX3_come_22 : decode cX3_come 22 = .ok (.aload_n 2, 1) := by decide +kernel
theorem dX3_come_23 : decode cX3_come 23 = .ok (.iload_n 3, 1) := by decide +kernel
theorem dX3_come_24 : decode cX3_come 24 = .ok (.aload_n 0, 1) := by decide +kernel
theorem dX3_come_25 : decode cX3_come 25 = .ok (.getfield 9, 3) := by decide +kernel
theorem dX3_come_28 : decode cX3_come 28 = .ok (.iload_n 3, 1) := by decide +kernel
theorem dX3_come_29 : decode cX3_come 29 = .ok (.aaload, 1) := by decide +kernel
theorem dX3_come_30 : decode cX3_come 30 = .ok (.aastore, 1) := by decide +kernel
theorem dX3_come_31 : decode cX3_come 31 = .ok (.iinc 3 1, 3) := by decide +kernel
theorem dX3_come_34 : decode cX3_come 34 = .ok (.goto (-21), 3) := by decide +kernel
theorem dX3_come_37 : decode cX3_come 37 = .ok (.new 7, 3) := by decide +kernel
theorem dX3_come_40 : decode cX3_come 40 = .ok (.dup, 1) := by decide +kernel
theorem dX3_come_41 : decode cX3_come 41 = .ok (.invokespecial 24, 3) := by decide +kernel
theorem dX3_come_44 : decode cX3_come 44 = .ok (.astore_n 3, 1) := by decide +kernel
theorem dX3_come_45 : decode cX3_come 45 = .ok (.aload_n 3, 1) := by decide +kernel
theorem dX3_come_46 : decode cX3_come 46 = .ok (.iload_n 1, 1) := by decide +kernel
theorem dX3_come_47 : decode cX3_come 47 = .ok (.putfield 25, 3) := by decide +kernel
theorem dX3_come_50 : decode cX3_come 50 = .ok (.aload_n 2, 1) := by decide +kernel
theorem dX3_come_51 : decode cX3_come 51 = .ok (.aload_n 0, 1) := by decide +kernel
theorem dX3_come_52 : decode cX3_come 52 = .ok (.getfield 9, 3) := by decide +kernel
theorem dX3_come_55 : decode cX3_come 55 = .ok (.arraylength, 1) := by decide +kernel
theorem dX3_come_56 : decode cX3_come 56 = .ok (.aload_n 3, 1) := by decide +kernel
theorem dX3_come_57 : decode cX3_come 57 = .ok (.aastore, 1) := by decide +kernel
theorem dX3_come_58 : decode cX3_come 58 = .ok (.aload_n 0, 1) := by decide +kernel
theorem dX3_come_59 : decode cX3_come 59 = .ok (.aload_n 2, 1) := by decide +kernel
theorem dX3_come_60 : decode cX3_come 60 = .ok (.putfield 9, 3) := by decide +kernel
theorem dX3_come_63 : decode cX3_come 63 = .ok (.aload_n 3, 1) := by decide +kernel
theorem dX3_come_64 : decode cX3_come 64 = .ok (.areturn, 1) := by decide +kernel
set_option maxRecDepth 20000 in
theorem ggX3_pass_X2_pass : GoodIn wsX3_pass wsX2_pass := goodIn_r _ [8, 9, 10, 11, 12, 13, 14, 15, 16, 17, 18, 19, 20, 21, 22, 7, 23, 24, 25, 26, 27, 28, 29, 30, 33, 34, 35, 36, 37, 38, 39, 40, 41, 42, 43, 44, 45, 46] (by decide +kernel) (by decide +kernel)
set_option maxRecDepth 20000 in
theorem gX3_pass_X2_pass : GoodIn wsX3_pass (wsV RX3 28 RX2 yX2_pass wsX2_pass) := goodIn_app (goodIn_of _ (by decide +kernel)) ggX3_pass_X2_pass
theorem dX3_pass_0 : decode cX3_pass 0 = .ok (.iconst 0, 1) := by decide +kernel
theorem dX3_pass_1 : decode cX3_pass 1 = .ok (.istore_n 1, 1) := by decide +kernel
theorem dX3_pass_2 : decode cX3_pass 2 = .ok (.aload_n 0, 1) := by decide +kernel
theorem dX3_pass_3 : decode cX3_pass 3 = .ok (.getfield 9, 3) := by decide +kernel
theorem dX3_pass_6 : decode cX3_pass 6 = .ok (.astore_n 2, 1) := by decide +kernel
theorem dX3_pass_7 : decode cX3_pass 7 = .ok (.aload_n 2, 1) := by decide +kernel
theorem dX3_pass_8 : decode cX3_pass 8 = .ok (.arraylength, 1) := by decide +kernel
theorem dX3_pass_9 : decode cX3_pass 9 = .ok (.istore_n 3, 1) := by decide +kernel
theorem dX3_pass_10 : decode cX3_pass 10 = .ok (.iconst 0, 1) := by decide +kernel
theorem dX3_pass_11 : decode cX3_pass 11 = .ok (.istore 4, 2) := by decide +kernel
theorem dX3_pass_13 : decode cX3_pass 13 = .ok (.iload 4, 2) := by decide +kernel
theorem dX3_pass_15 : decode cX3_pass 15 = .ok (.iload_n 3, 1) := by decide +kernel
theorem dX3_pass_16 : decode cX3_pass 16 = .ok (.if_icmp .ge 32, 3) := by decide +kernel
theorem dX3_pass_19 : decode cX3_pass 19 = .ok (.aload_n 2, 1) := by decide +kernel
theorem dX3_pass_20 : decode cX3_pass 20 = .ok (.iload 4, 2) := by decide +kernel
theorem dX3_pass_22 : decode cX3_pass 22 = .ok (.aaload, 1) := by decide +kernel
theorem dX3_pass_23 : decode cX3_pass 23 = .ok (.astore 5, 2) := by decide +kernel
theorem dX3_pass_25 : decode cX3_pass 25 = .ok (.aload 5, 2) := by decide +kernel
theorem dX3_pass_27 : decode cX3_pass 27 = .ok (.aload_n 0, 1) := by decide +kernel
theorem dX3_pass_28 : decode cX3_pass 28 = .ok (.getfield 20, 3) := by decide +kernel
theorem dX3_pass_31 : decode cX3_pass 31 = .ok (.invokevirtual 28, 3) := by decide +kernel
theorem dX3_pass_34 : decode cX3_pass 34 = .ok (.iload_n 1, 1) := by decide +kernel
theorem dX3_pass_35 : decode cX3_pass 35 = .ok (.aload 5, 2) := by decide +kernel
theorem dX3_pass_37 : decode cX3_pass 37 = .ok (.getfield 32, 3) := by decide +kernel
theorem dX3_pass_40 : decode cX3_pass 40 = .ok (.iadd, 1) := by decide +kernel
theorem dX3_pass_41 : decode cX3_pass 41 = .ok (.istore_n 1, 1) := by decide +kernel
theorem dX3_pass_42 : decode cX3_pass 42 = .ok (.iinc 4 1, 3) := by decide +kernel
theorem dX3_pass_45 : decode cX3_pass 45 = .ok (.goto (-32), 3) := by decide +kernel
theorem dX3_pass_48 : decode cX3_pass 48 = .ok (.aload_n 0, 1) := by decide +kernel
theorem dX3_pass_49 : decode cX3_pass 49 = .ok (.dup, 1) := by decide +kernel
theorem dX3_pass_50 : decode cX3_pass 50 = .ok (.getfield 20, 3) := by decide +kernel
theorem dX3_pass_53 : decode cX3_pass 53 = .ok (.iconst 1, 1) := by decide +kernel
theorem dX3_pass_54 : decode cX3_pass 54 = .ok (.iadd, 1) := by decide +kernel
theorem dX3_pass_55 : decode cX3_pass 55 = .ok (.putfield 20, 3) := by decide +kernel
theorem dX3_pass_58 : decode cX3_pass 58 = .ok (.iload_n 1, 1) := by decide +kernel
theorem dX3_pass_59 : decode cX3_pass 59 = .ok (.ireturn, 1) := by decide +kernel
theorem dX3_go_0 : decode cX3_go 0 = .ok (.iconst 0, 1) := by decide +kernel
theorem dX3_go_1 : decode cX3_go 1 = .ok (.istore_n 1, 1) := by decide +kernel
theorem dX3_go_2 : decode cX3_go 2 = .ok (.aload_n 0, 1) := by decide +kernel
theorem dX3_go_3 : decode cX3_go 3 = .ok (.getfield 9, 3) := by decide +kernel
theorem dX3_go_6 : decode cX3_go 6 = .ok (.astore_n 2, 1) := by decide +kernel
theorem dX3_go_7 : decode cX3_go 7 = .ok (.aload_n 2, 1) := by decide +kernel
theorem dX3_go_8 : decode cX3_go 8 = .ok (.arraylength, 1) := by decide +kernel
theorem dX3_go_9 : decode cX3_go 9 = .ok (.istore_n 3, 1) := by decide +kernel
theorem dX3_go_10 : decode cX3_go 10 = .ok (.iconst 0, 1) := by decide +kernel
theorem dX3_go_11 : decode cX3_go 11 = .ok (.istore 4, 2) := by decide +kernel
theorem dX3_go_13 : decode cX3_go 13 = .ok (.iload 4, 2) := by decide +kernel
theorem dX3_go_15 : decode cX3_go 15 = .ok (.iload_n 3, 1) := by decide +kernel
theorem dX3_go_16 : decode cX3_go 16 = .ok (.if_icmp .ge 31, 3) := by decide +kernel
theorem dX3_go_19 : decode cX3_go 19 = .ok (.aload_n 2, 1) := by decide +kernel
theorem dX3_go_20 : decode cX3_go 20 = .ok (.iload 4, 2) := by decide +kernel
theorem dX3_go_22 : decode cX3_go 22 = .ok (.aaload, 1) := by decide +kernel
theorem dX3_go_23 : decode cX3_go 23 = .ok (.astore 5, 2) := by decide +kernel
theorem dX3_go_25 : decode cX3_go 25 = .ok (.iload_n 1, 1) := by decide +kernel
theorem dX3_go_26 : decode cX3_go 26 = .ok (.aload 5, 2) := by decide +kernel
theorem dX3_go_28 : decode cX3_go 28 = .ok (.getfield 38, 3) := by decide +kernel
theorem dX3_go_31 : decode cX3_go 31 = .ok (.ifCond .eq 7, 3) := by decide +kernel
theorem dX3_go_34 : decode cX3_go 34 = .ok (.iconst 1, 1) := by decide +kernel
theorem dX3_go_35 : decode cX3_go 35 = .ok (.goto 4, 3) := by decide +kernel
theorem dX3_go_38 : decode cX3_go 38 = .ok (.iconst 0, 1) := by decide +kernel
theorem dX3_go_39 : decode cX3_go 39 = .ok (.iadd, 1) := by decide +kernel
theorem dX3_go_40 : decode cX3_go 40 = .ok (.istore_n 1, 1) := by decide +kernel
theorem dX3_go_41 : decode cX3_go 41 = .ok (.iinc 4 1, 3) := by decide +kernel
theorem dX3_go_44 : decode cX3_go 44 = .ok (.goto (-31), 3) := by decide +kernel
theorem dX3_go_47 : decode cX3_go 47 = .ok (.iload_n 1, 1) := by decide +kernel
theorem dX3_go_48 : decode cX3_go 48 = .ok (.ireturn, 1) := by decide +kernel
set_option maxRecDepth 20000 in
theorem ggX3_off_X2_off : GoodIn wsX3_off wsX2_off := goodIn_r _ [11, 12, 15, 16, 17, 18, 19, 20, 21, 22, 23, 24, 25, 26, 27, 28] (by decide +kernel) (by decide +kernel)
set_option maxRecDepth 20000 in
theorem gX3_off_X2_off : GoodIn wsX3_off (wsV RX3 42 RX2 yX2_off wsX2_off) := goodIn_app (goodIn_of _ (by decide +kernel)) ggX3_off_X2_off
theorem dX3_off_0 : decode cX3_off 0 = .ok (.iconst 0, 1) := by decide +kernel
theorem dX3_off_1 : decode cX3_off 1 = .ok (.istore_n 1, 1) := by decide +kernel
theorem dX3_off_2 : decode cX3_off 2 = .ok (.aload_n 0, 1) := by decide +kernel
theorem dX3_off_3 : decode cX3_off 3 = .ok (.getfield 9, 3) := by decide +kernel
theorem dX3_off_6 : decode cX3_off 6 = .ok (.astore_n 2, 1) := by decide +kernel
theorem dX3_off_7 : decode cX3_off 7 = .ok (.aload_n 2, 1) := by decide +kernel
theorem dX3_off_8 : decode cX3_off 8 = .ok (.arraylength, 1) := by decide +kernel
theorem dX3_off_9 : decode cX3_off 9 = .ok (.istore_n 3, 1) := by decide +kernel
theorem dX3_off_10 : decode cX3_off 10 = .ok (.iconst 0, 1) := by decide +kernel
theorem dX3_off_11 : decode cX3_off 11 = .ok (.istore 4, 2) := by decide +kernel
theorem dX3_off_13 : decode cX3_off 13 = .ok (.iload 4, 2) := by decide +kernel
theorem dX3_off_15 : decode cX3_off 15 = .ok (.iload_n 3, 1) := by decide +kernel
theorem dX3_off_16 : decode cX3_off 16 = .ok (.if_icmp .ge 30, 3) := by decide +kernel
theorem dX3_off_19 : decode cX3_off 19 = .ok (.aload_n 2, 1) := by decide +kernel
theorem dX3_off_20 : decode cX3_off 20 = .ok (.iload 4, 2) := by decide +kernel
theorem dX3_off_22 : decode cX3_off 22 = .ok (.aaload, 1) := by decide +kernel
theorem dX3_off_23 : decode cX3_off 23 = .ok (.astore 5, 2) := by decide +kernel
theorem dX3_off_25 : decode cX3_off 25 = .ok (.iload_n 1, 1) := by decide +kernel
theorem dX3_off_26 : decode cX3_off 26 = .ok (.aload 5, 2) := by decide +kernel
theorem dX3_off_28 : decode cX3_off 28 = .ok (.aload_n 0, 1) := by decide +kernel
theorem dX3_off_29 : decode cX3_off 29 = .ok (.getfield 20, 3) := by decide +kernel
theorem dX3_off_32 : decode cX3_off 32 = .ok (.invokevirtual 42, 3) := by decide +kernel
theorem dX3_off_35 : decode cX3_off 35 = .ok (.invokestatic 46, 3) := by decide +kernel
theorem dX3_off_38 : decode cX3_off 38 = .ok (.iadd, 1) := by decide +kernel
theorem dX3_off_39 : decode cX3_off 39 = .ok (.istore_n 1, 1) := by decide +kernel
theorem dX3_off_40 : decode cX3_off 40 = .ok (.iinc 4 1, 3) := by decide +kernel
theorem dX3_off_43 : decode cX3_off 43 = .ok (.goto (-30), 3) := by decide +kernel
theorem dX3_off_46 : decode cX3_off 46 = .ok (.iload_n 1, 1) := by decide +kernel
theorem dX3_off_47 : decode cX3_off 47 = .ok (.ireturn, 1) := by decide +kernel
set_option maxRecDepth 20000 in
theorem ggX3_isSame_X2_advance : GoodIn wsX3_isSame wsX2_advance := goodIn_r _ [19, 20, 21, 141, 142, 143, 144, 145, 146, 147, 148, 149, 150, 151, 152, 153, 154] (by decide +kernel) (by decide +kernel)
set_option maxRecDepth 20000 in
theorem gX3_isSame_X2_advance : GoodIn wsX3_isSame (wsV RX3 69 RX2 yX2_advance wsX2_advance) := goodIn_app (goodIn_of _ (by decide +kernel)) ggX3_isSame_X2_advance
set_option maxRecDepth 20000 in
theorem ggX3_isSame_X2_isShut : GoodIn wsX3_isSame wsX2_isShut := goodIn_r _ [25, 26, 27, 141, 142, 143, 144, 145, 146, 147, 148, 149, 150, 151, 152, 153, 154] (by decide +kernel) (by decide +kernel)
set_option maxRecDepth 20000 in
theorem gX3_isSame_X2_isShut : GoodIn wsX3_isSame (wsV RX3 76 RX2 yX2_isShut wsX2_isShut) := goodIn_app (goodIn_of _ (by decide +kernel)) ggX3_isSame_X2_isShut
set_option maxRecDepth 20000 in
theorem ggX3_isSame_X1_clock : GoodIn wsX3_isSame wsX1_clock := goodIn_ca (goodIn_r _ [32, 33, 34, 35, 36, 37, 38, 31, 39, 40, 41, 42, 43, 44, 45, 46, 47, 48, 49, 50, 51, 52, 53, 54, 55, 56, 57, 58, 59, 60, 61, 62, 63, 64, 65, 66, 67, 68, 69, 70, 71, 72, 73, 155, 156, 157, 158, 159, 160, 161, 162, 163, 164, 165, 166, 167, 168, 169, 170, 171, 172] (by decide +kernel) (by decide +kernel)) (goodIn_sub (fun _ h => List.mem_cons_of_mem _ (List.mem_append_right _ h)) (by decide +kernel))
set_option maxRecDepth 20000 in
theorem gX3_isSame_X1_clock : GoodIn wsX3_isSame (wsV RX3 80 RX1 yX1_clock wsX1_clock) := goodIn_app (goodIn_of _ (by decide +kernel)) ggX3_isSame_X1_clock
set_option maxRecDepth 20000 in
theorem ggX3_isSame_X1_off : GoodIn wsX3_isSame wsX1_off := goodIn_ca (goodIn_r _ [77, 35, 78, 36, 37, 38, 31, 39, 33, 34, 40, 79, 80, 81, 82, 83, 84, 85, 86, 87, 88, 155, 156, 157, 158, 159, 160, 161, 162, 163, 164, 165, 166, 167, 168, 169, 170, 171, 172] (by decide +kernel) (by decide +kernel)) (goodIn_sub (fun _ h => List.mem_cons_of_mem _ (List.mem_append_right _ h)) (by decide +kernel))
set_option maxRecDepth 20000 in
theorem gX3_isSame_X1_off : GoodIn wsX3_isSame (wsV RX3 85 RX1 yX1_off wsX1_off) := goodIn_app (goodIn_of _ (by decide +kernel)) ggX3_isSame_X1_off
set_option maxRecDepth 20000 in
theorem ggX3_isSame_X2_off : GoodIn wsX3_isSame wsX2_off := goodIn_r _ [92, 93, 141, 142, 143, 144, 145, 146, 147, 148, 149, 150, 151, 152, 153, 154] (by decide +kernel) (by decide +kernel)
set_option maxRecDepth 20000 in
theorem gX3_isSame_X2_off : GoodIn wsX3_isSame (wsV RX3 42 RX2 yX2_off wsX2_off) := goodIn_app (goodIn_of _ (by decide +kernel)) ggX3_isSame_X2_off
set_option maxRecDepth 20000 in
theorem ggX3_isSame_X1_stands : GoodIn wsX3_isSame wsX1_stands := goodIn_ca (goodIn_r _ [97, 35, 36, 37, 38, 31, 39, 33, 34, 40, 98, 45, 99, 100, 53, 50, 155, 156, 157, 158, 159, 160, 161, 162, 163, 164, 165, 166, 167, 168, 169, 170, 171, 172] (by decide +kernel) (by decide +kernel)) (goodIn_sub (fun _ h => List.mem_cons_of_mem _ (List.mem_append_right _ h)) (by decide +kernel))
set_option maxRecDepth 20000 in
theorem gX3_isSame_X1_stands : GoodIn wsX3_isSame (wsV RX3 86 RX1 yX1_stands wsX1_stands) := goodIn_app (goodIn_of _ (by decide +kernel)) ggX3_isSame_X1_stands
set_option maxRecDepth 20000 in
theorem ggX3_isSame_X3_go : GoodIn wsX3_isSame wsX3_go := goodIn_r _ [105, 1, 8, 139, 140, 141, 142, 143, 144, 145, 146, 147, 148, 149, 150, 151, 152, 153, 154] (by decide +kernel) (by decide +kernel)
set_option maxRecDepth 20000 in
theorem gX3_isSame_X3_go : GoodIn wsX3_isSame (wsV RX3 89 RX3 yX3_go wsX3_go) := goodIn_app (goodIn_of _ (by decide +kernel)) ggX3_isSame_X3_go
set_option maxRecDepth 20000 in
theorem ggX3_isSame_X3_off : GoodIn wsX3_isSame wsX3_off := goodIn_r _ [109, 1, 14, 110, 111, 112, 113, 89, 90, 91, 18, 92, 93, 139, 140, 141, 142, 143, 144, 145, 146, 147, 148, 149, 150, 151, 152, 153, 154] (by decide +kernel) (by decide +kernel)
set_option maxRecDepth 20000 in
theorem gX3_isSame_X3_off : GoodIn wsX3_isSame (wsV RX3 93 RX3 yX3_off wsX3_off) := goodIn_app (goodIn_of _ (by decide +kernel)) ggX3_isSame_X3_off
set_option maxRecDepth 20000 in
theorem ggX3_isSame_X1_count : GoodIn wsX3_isSame wsX1_count := goodIn_ca (goodIn_r _ [117, 33, 34, 41, 42, 31, 43, 118, 119, 120, 121, 78, 40, 35, 82, 83, 84, 85, 86, 87, 88, 122, 123, 124, 125, 44, 45, 46, 47, 48, 49, 50, 51, 52, 53, 54, 55, 56, 57, 58, 59, 60, 61, 62, 63, 64, 65, 66, 67, 68, 69, 70, 71, 72, 73, 126, 127, 128, 129, 79, 80, 81, 130, 131, 132, 133, 134, 111, 112, 113, 155, 156, 157, 158, 159, 160, 161, 162, 163, 164, 165, 166, 167, 168, 169, 170, 171, 172] (by decide +kernel) (by decide +kernel)) (goodIn_sub (fun _ h => List.mem_cons_of_mem _ (List.mem_append_right _ h)) (by decide +kernel))
set_option maxRecDepth 20000 in
theorem gX3_isSame_X1_count : GoodIn wsX3_isSame (wsV RX3 95 RX1 yX1_count wsX1_count) := goodIn_app (goodIn_of _ (by decide +kernel)) ggX3_isSame_X1_count
set_option maxRecDepth 20000 in
theorem ggX3_isSame_X1_mean : GoodIn wsX3_isSame wsX1_mean := goodIn_r _ [138, 40, 35, 58, 45, 59, 60, 61, 62, 63, 64, 65, 66, 67, 51, 155, 156, 157, 158, 159, 160, 161, 162, 163, 164, 165, 166, 167, 168, 169, 170, 171, 172] (by decide +kernel) (by decide +kernel)
set_option maxRecDepth 20000 in
theorem gX3_isSame_X1_mean : GoodIn wsX3_isSame (wsV RX3 98 RX1 yX1_mean wsX1_mean) := goodIn_app (goodIn_of _ (by decide +kernel)) ggX3_isSame_X1_mean
theorem dX3_isSame_0 : decode cX3_isSame 0 = .ok (.iconst 0, 1) := by decide +kernel
theorem dX3_isSame_1 : decode cX3_isSame 1 = .ok (.istore_n 2, 1) := by decide +kernel
theorem dX3_isSame_2 : decode cX3_isSame 2 = .ok (.iconst 0, 1) := by decide +kernel
theorem dX3_isSame_3 : decode cX3_isSame 3 = .ok (.istore_n 3, 1) := by decide +kernel
theorem dX3_isSame_4 : decode cX3_isSame 4 = .ok (.iconst 0, 1) := by decide +kernel
theorem dX3_isSame_5 : decode cX3_isSame 5 = .ok (.istore 4, 2) := by decide +kernel
theorem dX3_isSame_7 : decode cX3_isSame 7 = .ok (.iconst 0, 1) := by decide +kernel
theorem dX3_isSame_8 : decode cX3_isSame 8 = .ok (.istore 5, 2) := by decide +kernel
theorem dX3_isSame_10 : decode cX3_isSame 10 = .ok (.iconst 0, 1) := by decide +kernel
theorem dX3_isSame_11 : decode cX3_isSame 11 = .ok (.istore 6, 2) := by decide +kernel
theorem dX3_isSame_13 : decode cX3_isSame 13 = .ok (.iload 6, 2) := by decide +kernel
theorem dX3_isSame_15 : decode cX3_isSame 15 = .ok (.aload_n 0, 1) := by decide +kernel
theorem dX3_isSame_16 : decode cX3_isSame 16 = .ok (.getfield 9, 3) := by decide +kernel
theorem dX3_isSame_19 : decode cX3_isSame 19 = .ok (.arraylength, 1) := by decide +kernel
theorem dX3_isSame_20 : decode cX3_isSame 20 = .ok (.if_icmp .ge 288, 3) := by decide +kernel
theorem dX3_isSame_23 : decode cX3_isSame 23 = .ok (.aload_n 0, 1) := by decide +kernel
theorem dX3_isSame_24 : decode cX3_isSame 24 = .ok (.getfield 9, 3) := by decide +kernel
theorem dX3_isSame_27 : decode cX3_isSame 27 = .ok (.iload 6, 2) := by decide +kernel
theorem dX3_isSame_29 : decode cX3_isSame 29 = .ok (.aaload, 1) := by decide +kernel
theorem dX3_isSame_30 : decode cX3_isSame 30 = .ok (.astore 7, 2) := by decide +kernel
theorem dX3_isSame_32 : decode cX3_isSame 32 = .ok (.bipush 11, 2) := by decide +kernel
theorem dX3_isSame_34 : decode cX3_isSame 34 = .ok (.newarray .int, 2) := by decide +kernel
theorem dX3_isSame_36 : decode cX3_isSame 36 = .ok (.dup, 1) := by decide +kernel
theorem dX3_isSame_37 : decode cX3_isSame 37 = .ok (.iconst 0, 1) := by decide +kernel
theorem dX3_isSame_38 : decode cX3_isSame 38 = .ok (.aload 7, 2) := by decide +kernel
theorem dX3_isSame_40 : decode cX3_isSame 40 = .ok (.getfield 25, 3) := by decide +kernel
theorem dX3_isSame_43 : decode cX3_isSame 43 = .ok (.iastore, 1) := by decide +kernel
theorem dX3_isSame_44 : decode cX3_isSame 44 = .ok (.dup, 1) := by decide +kernel
theorem dX3_isSame_45 : decode cX3_isSame 45 = .ok (.iconst 1, 1) := by decide +kernel
theorem dX3_isSame_46 : decode cX3_isSame 46 = .ok (.aload 7, 2) := by decide +kernel
theorem dX3_isSame_48 : decode cX3_isSame 48 = .ok (.getfield 51, 3) := by decide +kernel
theorem dX3_isSame_51 : decode cX3_isSame 51 = .ok (.iastore, 1) := by decide +kernel
theorem dX3_isSame_52 : decode cX3_isSame 52 = .ok (.dup, 1) := by decide +kernel
theorem dX3_isSame_53 : decode cX3_isSame 53 = .ok (.iconst 2, 1) := by decide +kernel
theorem dX3_isSame_54 : decode cX3_isSame 54 = .ok (.aload 7, 2) := by decide +kernel
theorem dX3_isSame_56 : decode cX3_isSame 56 = .ok (.getfield 54, 3) := by decide +kernel
theorem dX3_isSame_59 : decode cX3_isSame 59 = .ok (.iastore, 1) := by decide +kernel
theorem dX3_isSame_60 : decode cX3_isSame 60 = .ok (.dup, 1) := by decide +kernel
theorem dX3_isSame_61 : decode cX3_isSame 61 = .ok (.iconst 3, 1) := by decide +kernel
theorem dX3_isSame_62 : decode cX3_isSame 62 = .ok (.aload 7, 2) := by decide +kernel
theorem dX3_isSame_64 : decode cX3_isSame 64 = .ok (.getfield 57, 3) := by decide +kernel
theorem dX3_isSame_67 : decode cX3_isSame 67 = .ok (.iastore, 1) := by decide +kernel
theorem dX3_isSame_68 : decode cX3_isSame 68 = .ok (.dup, 1) := by decide +kernel
theorem dX3_isSame_69 : decode cX3_isSame 69 = .ok (.iconst 4, 1) := by decide +kernel
theorem dX3_isSame_70 : decode cX3_isSame 70 = .ok (.aload 7, 2) := by decide +kernel
theorem dX3_isSame_72 : decode cX3_isSame 72 = .ok (.getfield 60, 3) := by decide +kernel
theorem dX3_isSame_75 : decode cX3_isSame 75 = .ok (.iastore, 1) := by decide +kernel
theorem dX3_isSame_76 : decode cX3_isSame 76 = .ok (.dup, 1) := by decide +kernel
theorem dX3_isSame_77 : decode cX3_isSame 77 = .ok (.iconst 5, 1) := by decide +kernel
theorem dX3_isSame_78 : decode cX3_isSame 78 = .ok (.aload 7, 2) := by decide +kernel
theorem dX3_isSame_80 : decode cX3_isSame 80 = .ok (.getfield 38, 3) := by decide +kernel
theorem dX3_isSame_83 : decode cX3_isSame 83 = .ok (.ifCond .eq 7, 3) := by decide +kernel
theorem dX3_isSame_86 : decode cX3_isSame 86 = .ok (.iconst 1, 1) := by decide +kernel
theorem dX3_isSame_87 : decode cX3_isSame 87 = .ok (.goto 4, 3) := by decide +kernel
theorem dX3_isSame_90 : decode cX3_isSame 90 = .ok (.iconst 0, 1) := by decide +kernel
theorem dX3_isSame_91 : decode cX3_isSame 91 = .ok (.iastore, 1) := by decide +kernel
theorem dX3_isSame_92 : decode cX3_isSame 92 = .ok (.dup, 1) := by decide +kernel
theorem dX3_isSame_93 : decode cX3_isSame 93 = .ok (.bipush 6, 2) := by decide +kernel
theorem dX3_isSame_95 : decode cX3_isSame 95 = .ok (.aload 7, 2) := by decide +kernel
theorem dX3_isSame_97 : decode cX3_isSame 97 = .ok (.aload 7, 2) := by decide +kernel
theorem dX3_isSame_99 : decode cX3_isSame 99 = .ok (.getfield 63, 3) := by decide +kernel
theorem dX3_isSame_102 : decode cX3_isSame 102 = .ok (.aload 7, 2) := by decide +kernel
theorem dX3_isSame_104 : decode cX3_isSame 104 = .ok (.getfield 66, 3) := by decide +kernel
theorem dX3_isSame_107 : decode cX3_isSame 107 = .ok (.invokevirtual 69, 3) := by decide +kernel
theorem dX3_isSame_110 : decode cX3_isSame 110 = .ok (.iastore, 1) := by decide +kernel
theorem dX3_isSame_111 : decode cX3_isSame 111 = .ok (.dup, 1) := by decide +kernel
theorem dX3_isSame_112 : decode cX3_isSame 112 = .ok (.bipush 7, 2) := by decide +kernel
theorem dX3_isSame_114 : decode cX3_isSame 114 = .ok (.aload 7, 2) := by decide +kernel
theorem dX3_isSame_116 : decode cX3_isSame 116 = .ok (.getfield 73, 3) := by decide +kernel
theorem dX3_isSame_119 : decode cX3_isSame 119 = .ok (.iastore, 1) := by decide +kernel
theorem dX3_isSame_120 : decode cX3_isSame 120 = .ok (.dup, 1) := by decide +kernel
theorem dX3_isSame_121 : decode cX3_isSame 121 = .ok (.bipush 8, 2) := by decide +kernel
theorem dX3_isSame_123 : decode cX3_isSame 123 = .ok (.aload 7, 2) := by decide +kernel
theorem dX3_isSame_125 : decode cX3_isSame 125 = .ok (.getfield 35, 3) := by decide +kernel
theorem dX3_isSame_128 : decode cX3_isSame 128 = .ok (.iastore, 1) := by decide +kernel
theorem dX3_isSame_129 : decode cX3_isSame 129 = .ok (.dup, 1) := by decide +kernel
theorem dX3_isSame_130 : decode cX3_isSame 130 = .ok (.bipush 9, 2) := by decide +kernel
theorem dX3_isSame_132 : decode cX3_isSame 132 = .ok (.aload 7, 2) := by decide +kernel
theorem dX3_isSame_134 : decode cX3_isSame 134 = .ok (.getfield 32, 3) := by decide +kernel
theorem dX3_isSame_137 : decode cX3_isSame 137 = .ok (.iastore, 1) := by decide +kernel
theorem dX3_isSame_138 : decode cX3_isSame 138 = .ok (.dup, 1) := by decide +kernel
theorem dX3_isSame_139 : decode cX3_isSame 139 = .ok (.bipush 10, 2) := by decide +kernel
theorem dX3_isSame_141 : decode cX3_isSame 141 = .ok (.aload 7, 2) := by decide +kernel
theorem dX3_isSame_143 : decode cX3_isSame 143 = .ok (.aload 7, 2) := by decide +kernel
theorem dX3_isSame_145 : decode cX3_isSame 145 = .ok (.getfield 25, 3) := by decide +kernel
theorem dX3_isSame_148 : decode cX3_isSame 148 = .ok (.invokevirtual 76, 3) := by decide +kernel
theorem dX3_isSame_151 : decode cX3_isSame 151 = .ok (.ifCond .eq 7, 3) := by decide +kernel
theorem dX3_isSame_154 : decode cX3_isSame 154 = .ok (.iconst 1, 1) := by decide +kernel
theorem dX3_isSame_155 : decode cX3_isSame 155 = .ok (.goto 4, 3) := by decide +kernel
theorem dX3_isSame_158 : decode cX3_isSame 158 = .ok (.iconst 0, 1) := by decide +kernel
theorem dX3_isSame_159 : decode cX3_isSame 159 = .ok (.iastore, 1) := by decide +kernel
theorem dX3_isSame_160 : decode cX3_isSame 160 = .ok (.astore 8, 2) := by decide +kernel
theorem dX3_isSame_162 : decode cX3_isSame 162 = .ok (.iconst 0, 1) := by decide +kernel
theorem dX3_isSame_163 : decode cX3_isSame 163 = .ok (.istore 9, 2) := by decide +kernel
theorem dX3_isSame_165 : decode cX3_isSame 165 = .ok (.iload 9, 2) := by decide +kernel
theorem dX3_isSame_167 : decode cX3_isSame 167 = .ok (.bipush 11, 2) := by decide +kernel
theorem dX3_isSame_169 : decode cX3_isSame 169 = .ok (.if_icmp .ge 27, 3) := by decide +kernel
theorem dX3_isSame_172 : decode cX3_isSame 172 = .ok (.aload_n 1, 1) := by decide +kernel
theorem dX3_isSame_173 : decode cX3_isSame 173 = .ok (.iload 6, 2) := by decide +kernel
theorem dX3_isSame_175 : decode cX3_isSame 175 = .ok (.iload 9, 2) := by decide +kernel
theorem dX3_isSame_177 : decode cX3_isSame 177 = .ok (.invokevirtual 80, 3) := by decide +kernel
theorem dX3_isSame_180 : decode cX3_isSame 180 = .ok (.aload 8, 2) := by decide +kernel
theorem dX3_isSame_182 : decode cX3_isSame 182 = .ok (.iload 9, 2) := by decide +kernel
theorem dX3_isSame_184 : decode cX3_isSame 184 = .ok (.iaload, 1) := by decide +kernel
theorem dX3_isSame_185 : decode cX3_isSame 185 = .ok (.if_icmp .eq 5, 3) := by decide +kernel
theorem dX3_isSame_188 : decode cX3_isSame 188 = .ok (.iconst 0, 1) := by decide +kernel
theorem dX3_isSame_189 : decode cX3_isSame 189 = .ok (.ireturn, 1) := by decide +kernel
theorem dX3_isSame_190 : decode cX3_isSame 190 = .ok (.iinc 9 1, 3) := by decide +kernel
theorem dX3_isSame_193 : decode cX3_isSame 193 = .ok (.goto (-28), 3) := by decide +kernel
theorem dX3_isSame_196 : decode cX3_isSame 196 = .ok (.aload_n 1, 1) := by decide +kernel
theorem dX3_isSame_197 : decode cX3_isSame 197 = .ok (.iload 6, 2) := by decide +kernel
theorem dX3_isSame_199 : decode cX3_isSame 199 = .ok (.invokevirtual 85, 3) := by decide +kernel
theorem dX3_isSame_202 : decode cX3_isSame 202 = .ok (.aload 7, 2) := by decide +kernel
theorem dX3_isSame_204 : decode cX3_isSame 204 = .ok (.aload_n 0, 1) := by decide +kernel
theorem dX3_isSame_205 : decode cX3_isSame 205 = .ok (.getfield 20, 3) := by decide +kernel
theorem dX3_isSame_208 : decode cX3_isSame 208 = .ok (.invokevirtual 42, 3) := by decide +kernel
theorem dX3_isSame_211 : decode cX3_isSame 211 = .ok (.if_icmp .ne 29, 3) := by decide +kernel
theorem dX3_isSame_214 : decode cX3_isSame 214 = .ok (.aload_n 1, 1) := by decide +kernel
theorem dX3_isSame_215 : decode cX3_isSame 215 = .ok (.iload 6, 2) := by decide +kernel
theorem dX3_isSame_217 : decode cX3_isSame 217 = .ok (.invokevirtual 86, 3) := by decide +kernel
theorem dX3_isSame_220 : decode cX3_isSame 220 = .ok (.aload 7, 2) := by decide +kernel
theorem dX3_isSame_222 : decode cX3_isSame 222 = .ok (.getfield 38, 3) := by decide +kernel
theorem dX3_isSame_225 : decode cX3_isSame 225 = .ok (.ifCond .eq 11, 3) := by decide +kernel
theorem dX3_isSame_228 : decode cX3_isSame 228 = .ok (.aload 7, 2) := by decide +kernel
theorem dX3_isSame_230 : decode cX3_isSame 230 = .ok (.getfield 54, 3) := by decide +kernel
theorem dX3_isSame_233 : decode cX3_isSame 233 = .ok (.goto 4, 3) := by decide +kernel
theorem dX3_isSame_236 : decode cX3_isSame 236 = .ok (.iconst 0, 1) := by decide +kernel
theorem dX3_isSame_237 : decode cX3_isSame 237 = .ok (.if_icmp .eq 5, 3) := by decide +kernel
theorem dX3_isSame_240 : decode cX3_isSame 240 = .ok (.iconst 0, 1) := by decide +kernel
theorem dX3_isSame_241 : decode cX3_isSame 241 = .ok (.ireturn, 1) := by decide +kernel
theorem dX3_isSame_242 : decode cX3_isSame 242 = .ok (.iload_n 2, 1) := by decide +kernel
theorem dX3_isSame_243 : decode cX3_isSame 243 = .ok (.aload 7, 2) := by decide +kernel
theorem dX3_isSame_245 : decode cX3_isSame 245 = .ok (.getfield 73, 3) := by decide +kernel
theorem dX3_isSame_248 : decode cX3_isSame 248 = .ok (.iadd, 1) := by decide +kernel
theorem dX3_isSame_249 : decode cX3_isSame 249 = .ok (.istore_n 2, 1) := by decide +kernel
theorem dX3_isSame_250 : decode cX3_isSame 250 = .ok (.iload_n 3, 1) := by decide +kernel
theorem dX3_isSame_251 : decode cX3_isSame 251 = .ok (.aload 7, 2) := by decide +kernel
theorem dX3_isSame_253 : decode cX3_isSame 253 = .ok (.getfield 32, 3) := by decide +kernel
theorem dX3_isSame_256 : decode cX3_isSame 256 = .ok (.iadd, 1) := by decide +kernel
theorem dX3_isSame_257 : decode cX3_isSame 257 = .ok (.istore_n 3, 1) := by decide +kernel
theorem dX3_isSame_258 : decode cX3_isSame 258 = .ok (.iload 4, 2) := by decide +kernel
theorem dX3_isSame_260 : decode cX3_isSame 260 = .ok (.aload 7, 2) := by decide +kernel
theorem dX3_isSame_262 : decode cX3_isSame 262 = .ok (.aload_n 0, 1) := by decide +kernel
theorem dX3_isSame_263 : decode cX3_isSame 263 = .ok (.getfield 20, 3) := by decide +kernel
theorem dX3_isSame_266 : decode cX3_isSame 266 = .ok (.invokevirtual 42, 3) := by decide +kernel
theorem dX3_isSame_269 : decode cX3_isSame 269 = .ok (.ifCond .ne 7, 3) := by decide +kernel
theorem dX3_isSame_272 : decode cX3_isSame 272 = .ok (.iconst 1, 1) := by decide +kernel
theorem dX3_isSame_273 : decode cX3_isSame 273 = .ok (.goto 4, 3) := by decide +kernel
theorem dX3_isSame_276 : decode cX3_isSame 276 = .ok (.iconst 0, 1) := by decide +kernel
theorem dX3_isSame_277 : decode cX3_isSame 277 = .ok (.iadd, 1) := by decide +kernel
theorem dX3_isSame_278 : decode cX3_isSame 278 = .ok (.istore 4, 2) := by decide +kernel
theorem dX3_isSame_280 : decode cX3_isSame 280 = .ok (.iload 5, 2) := by decide +kernel
theorem dX3_isSame_282 : decode cX3_isSame 282 = .ok (.aload 7, 2) := by decide +kernel
theorem dX3_isSame_284 : decode cX3_isSame 284 = .ok (.getfield 38, 3) := by decide +kernel
theorem dX3_isSame_287 : decode cX3_isSame 287 = .ok (.ifCond .eq 11, 3) := by decide +kernel
theorem dX3_isSame_290 : decode cX3_isSame 290 = .ok (.aload 8, 2) := by decide +kernel
theorem dX3_isSame_292 : decode cX3_isSame 292 = .ok (.bipush 6, 2) := by decide +kernel
theorem dX3_isSame_294 : decode cX3_isSame 294 = .ok (.iaload, 1) := by decide +kernel
theorem dX3_isSame_295 : decode cX3_isSame 295 = .ok (.goto 4, 3) := by decide +kernel
theorem dX3_isSame_298 : decode cX3_isSame 298 = .ok (.iconst 0, 1) := by decide +kernel
theorem dX3_isSame_299 : decode cX3_isSame 299 = .ok (.iadd, 1) := by decide +kernel
theorem dX3_isSame_300 : decode cX3_isSame 300 = .ok (.istore 5, 2) := by decide +kernel
theorem dX3_isSame_302 : decode cX3_isSame 302 = .ok (.iinc 6 1, 3) := by decide +kernel
theorem dX3_isSame_305 : decode cX3_isSame 305 = .ok (.goto (-292), 3) := by decide +kernel
theorem dX3_isSame_308 : decode cX3_isSame 308 = .ok (.bipush 8, 2) := by decide +kernel
theorem dX3_isSame_310 : decode cX3_isSame 310 = .ok (.newarray .int, 2) := by decide +kernel
theorem dX3_isSame_312 : decode cX3_isSame 312 = .ok (.dup, 1) := by decide +kernel
theorem dX3_isSame_313 : decode cX3_isSame 313 = .ok (.iconst 0, 1) := by decide +kernel
theorem dX3_isSame_314 : decode cX3_isSame 314 = .ok (.aload_n 0, 1) := by decide +kernel
theorem dX3_isSame_315 : decode cX3_isSame 315 = .ok (.getfield 20, 3) := by decide +kernel
theorem dX3_isSame_318 : decode cX3_isSame 318 = .ok (.iastore, 1) := by decide +kernel
theorem dX3_isSame_319 : decode cX3_isSame 319 = .ok (.dup, 1) := by decide +kernel
theorem dX3_isSame_320 : decode cX3_isSame 320 = .ok (.iconst 1, 1) := by decide +kernel
theorem dX3_isSame_321 : decode cX3_isSame 321 = .ok (.aload_n 0, 1) := by decide +kernel
theorem dX3_isSame_322 : decode cX3_isSame 322 = .ok (.getfield 20, 3) := by decide +kernel
theorem dX3_isSame_325 : decode cX3_isSame 325 = .ok (.sipush 720, 3) := by decide +kernel
theorem dX3_isSame_328 : decode cX3_isSame 328 = .ok (.irem, 1) := by decide +kernel
theorem dX3_isSame_329 : decode cX3_isSame 329 = .ok (.iastore, 1) := by decide +kernel
theorem dX3_isSame_330 : decode cX3_isSame 330 = .ok (.dup, 1) := by decide +kernel
theorem dX3_isSame_331 : decode cX3_isSame 331 = .ok (.iconst 2, 1) := by decide +kernel
theorem dX3_isSame_332 : decode cX3_isSame 332 = .ok (.aload_n 0, 1) := by decide +kernel
theorem dX3_isSame_333 : decode cX3_isSame 333 = .ok (.getfield 9, 3) := by decide +kernel
theorem dX3_isSame_336 : decode cX3_isSame 336 = .ok (.arraylength, 1) := by decide +kernel
theorem dX3_isSame_337 : decode cX3_isSame 337 = .ok (.iastore, 1) := by decide +kernel
theorem dX3_isSame_338 : decode cX3_isSame 338 = .ok (.dup, 1) := by decide +kernel
theorem dX3_isSame_339 : decode cX3_isSame 339 = .ok (.iconst 3, 1) := by decide +kernel
theorem dX3_isSame_340 : decode cX3_isSame 340 = .ok (.aload_n 0, 1) := by decide +kernel
theorem dX3_isSame_341 : decode cX3_isSame 341 = .ok (.invokevirtual 89, 3) := by decide +kernel
theorem dX3_isSame_344 : decode cX3_isSame 344 = .ok (.iastore, 1) := by decide +kernel
theorem dX3_isSame_345 : decode cX3_isSame 345 = .ok (.dup, 1) := by decide +kernel
theorem dX3_isSame_346 : decode cX3_isSame 346 = .ok (.iconst 4, 1) := by decide +kernel
theorem dX3_isSame_347 : decode cX3_isSame 347 = .ok (.iload_n 2, 1) := by decide +kernel
theorem dX3_isSame_348 : decode cX3_isSame 348 = .ok (.iastore, 1) := by decide +kernel
theorem dX3_isSame_349 : decode cX3_isSame 349 = .ok (.dup, 1) := by decide +kernel
theorem dX3_isSame_350 : decode cX3_isSame 350 = .ok (.iconst 5, 1) := by decide +kernel
theorem dX3_isSame_351 : decode cX3_isSame 351 = .ok (.iload_n 3, 1) := by decide +kernel
theorem dX3_isSame_352 : decode cX3_isSame 352 = .ok (.iastore, 1) := by decide +kernel
theorem dX3_isSame_353 : decode cX3_isSame 353 = .ok (.dup, 1) := by decide +kernel
theorem dX3_isSame_354 : decode cX3_isSame 354 = .ok (.bipush 6, 2) := by decide +kernel
theorem dX3_isSame_356 : decode cX3_isSame 356 = .ok (.iload 4, 2) := by decide +kernel
theorem dX3_isSame_358 : decode cX3_isSame 358 = .ok (.iastore, 1) := by decide +kernel
theorem dX3_isSame_359 : decode cX3_isSame 359 = .ok (.dup, 1) := by decide +kernel
theorem dX3_isSame_360 : decode cX3_isSame 360 = .ok (.bipush 7, 2) := by decide +kernel
theorem dX3_isSame_362 : decode cX3_isSame 362 = .ok (.aload_n 0, 1) := by decide +kernel
theorem dX3_isSame_363 : decode cX3_isSame 363 = .ok (.invokevirtual 93, 3) := by decide +kernel
theorem dX3_isSame_366 : decode cX3_isSame 366 = .ok (.iastore, 1) := by decide +kernel
theorem dX3_isSame_367 : decode cX3_isSame 367 = .ok (.astore 6, 2) := by decide +kernel
theorem dX3_isSame_369 : decode cX3_isSame 369 = .ok (.iconst 0, 1) := by decide +kernel
theorem dX3_isSame_370 : decode cX3_isSame 370 = .ok (.istore 7, 2) := by decide +kernel
theorem dX3_isSame_372 : decode cX3_isSame 372 = .ok (.iload 7, 2) := by decide +kernel
theorem dX3_isSame_374 : decode cX3_isSame 374 = .ok (.bipush 8, 2) := by decide +kernel
theorem dX3_isSame_376 : decode cX3_isSame 376 = .ok (.if_icmp .ge 25, 3) := by decide +kernel
theorem dX3_isSame_379 : decode cX3_isSame 379 = .ok (.aload_n 1, 1) := by decide +kernel
theorem dX3_isSame_380 : decode cX3_isSame 380 = .ok (.iload 7, 2) := by decide +kernel
theorem dX3_isSame_382 : decode cX3_isSame 382 = .ok (.invokevirtual 95, 3) := by decide +kernel
theorem dX3_isSame_385 : decode cX3_isSame 385 = .ok (.aload 6, 2) := by decide +kernel
theorem dX3_isSame_387 : decode cX3_isSame 387 = .ok (.iload 7, 2) := by decide +kernel
theorem dX3_isSame_389 : decode cX3_isSame 389 = .ok (.iaload, 1) := by decide +kernel
theorem dX3_isSame_390 : decode cX3_isSame 390 = .ok (.if_icmp .eq 5, 3) := by decide +kernel
theorem dX3_isSame_393 : decode cX3_isSame 393 = .ok (.iconst 0, 1) := by decide +kernel
theorem dX3_isSame_394 : decode cX3_isSame 394 = .ok (.ireturn, 1) := by decide +kernel
theorem dX3_isSame_395 : decode cX3_isSame 395 = .ok (.iinc 7 1, 3) := by decide +kernel
theorem dX3_isSame_398 : decode cX3_isSame 398 = .ok (.goto (-26), 3) := by decide +kernel
theorem dX3_isSame_401 : decode cX3_isSame 401 = .ok (.aload_n 1, 1) := by decide +kernel
theorem dX3_isSame_402 : decode cX3_isSame 402 = .ok (.invokevirtual 98, 3) := by decide +kernel
theorem dX3_isSame_405 : decode cX3_isSame 405 = .ok (.aload_n 0, 1) := by decide +kernel
theorem dX3_isSame_406 : decode cX3_isSame 406 = .ok (.invokevirtual 89, 3) := by decide +kernel
theorem dX3_isSame_409 : decode cX3_isSame 409 = .ok (.ifCond .ne 7, 3) := by decide +kernel
theorem dX3_isSame_412 : decode cX3_isSame 412 = .ok (.dconst 0, 1) := by decide +kernel
theorem dX3_isSame_413 : decode cX3_isSame 413 = .ok (.goto 12, 3) := by decide +kernel
theorem dX3_isSame_416 : decode cX3_isSame 416 = .ok (.iload 5, 2) := by decide +kernel
theorem dX3_isSame_418 : decode cX3_isSame 418 = .ok (.i2d, 1) := by decide +kernel
theorem dX3_isSame_419 : decode cX3_isSame 419 = .ok (.aload_n 0, 1) := by decide +kernel
theorem dX3_isSame_420 : decode cX3_isSame 420 = .ok (.invokevirtual 89, 3) := by decide +kernel
theorem dX3_isSame_423 : decode cX3_isSame 423 = .ok (.i2d, 1) := by decide +kernel
theorem dX3_isSame_424 : decode cX3_isSame 424 = .ok (.ddiv, 1) := by decide +kernel
theorem dX3_isSame_425 : decode cX3_isSame 425 = .ok (.dcmp .l, 1) := by decide +kernel
theorem dX3_isSame_426 : decode cX3_isSame 426 = .ok (.ifCond .ne 7, 3) := by decide +kernel
theorem dX3_isSame_429 : decode cX3_isSame 429 = .ok (.iconst 1, 1) := by decide +kernel
theorem dX3_isSame_430 : decode cX3_isSame 430 = .ok (.goto 4, 3) := by decide +kernel
theorem dX3_isSame_433 : decode cX3_isSame 433 = .ok (.iconst 0, 1) := by decide +kernel
theorem dX3_isSame_434 : decode cX3_isSame 434 = .ok (.ireturn, 1) := by decide +kernel
