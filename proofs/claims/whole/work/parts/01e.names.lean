theorem dX10_byTurns_187 : decode cX10_byTurns 187 = .ok (.ifCond .eq 8, 3) := by decide +kernel
theorem dX10_byTurns_190 : decode cX10_byTurns 190 = .ok (.iload 8, 2) := by decide +kernel
theorem dX10_byTurns_192 : decode cX10_byTurns 192 = .ok (.goto 5, 3) := by decide +kernel
theorem dX10_byTurns_195 : decode cX10_byTurns 195 = .ok (.iload 7, 2) := by decide +kernel
theorem dX10_byTurns_197 : decode cX10_byTurns 197 = .ok (.iastore, 1) := by decide +kernel
theorem dX10_byTurns_198 : decode cX10_byTurns 198 = .ok (.iinc 6 1, 3) := by decide +kernel
theorem dX10_byTurns_201 : decode cX10_byTurns 201 = .ok (.goto (-77), 3) := by decide +kernel
theorem dX10_byTurns_204 : decode cX10_byTurns 204 = .ok (.iinc 4 (-1), 3) := by decide +kernel
theorem dX10_byTurns_207 : decode cX10_byTurns 207 = .ok (.goto (-100), 3) := by decide +kernel
theorem dX10_byTurns_210 : decode cX10_byTurns 210 = .ok (.iload_n 2, 1) := by decide +kernel
theorem dX10_byTurns_211 : decode cX10_byTurns 211 = .ok (.iconst 1, 1) := by decide +kernel
theorem dX10_byTurns_212 : decode cX10_byTurns 212 = .ok (.if_icmp .ne 15, 3) := by decide +kernel
theorem dX10_byTurns_215 : decode cX10_byTurns 215 = .ok (.iload_n 3, 1) := by decide +kernel
theorem dX10_byTurns_216 : decode cX10_byTurns 216 = .ok (.ifCond .eq 7, 3) := by decide +kernel
theorem dX10_byTurns_219 : decode cX10_byTurns 219 = .ok (.iconst 1, 1) := by decide +kernel
theorem dX10_byTurns_220 : decode cX10_byTurns 220 = .ok (.goto 27, 3) := by decide +kernel
theorem dX10_byTurns_223 : decode cX10_byTurns 223 = .ok (.iconst 0, 1) := by decide +kernel
theorem dX10_byTurns_224 : decode cX10_byTurns 224 = .ok (.goto 23, 3) := by decide +kernel
theorem dX10_byTurns_227 : decode cX10_byTurns 227 = .ok (.aload_n 0, 1) := by decide +kernel
theorem dX10_byTurns_228 : decode cX10_byTurns 228 = .ok (.getfield 46, 3) := by decide +kernel
theorem dX10_byTurns_231 : decode cX10_byTurns 231 = .ok (.iconst 0, 1) := by decide +kernel
theorem dX10_byTurns_232 : decode cX10_byTurns 232 = .ok (.iaload, 1) := by decide +kernel
theorem dX10_byTurns_233 : decode cX10_byTurns 233 = .ok (.ifCond .ge 8, 3) := by decide +kernel
theorem dX10_byTurns_236 : decode cX10_byTurns 236 = .ok (.bipush (-4), 2) := by decide +kernel
theorem dX10_byTurns_238 : decode cX10_byTurns 238 = .ok (.goto 9, 3) := by decide +kernel
theorem dX10_byTurns_241 : decode cX10_byTurns 241 = .ok (.aload_n 0, 1) := by decide +kernel
theorem dX10_byTurns_242 : decode cX10_byTurns 242 = .ok (.getfield 46, 3) := by decide +kernel
theorem dX10_byTurns_245 : decode cX10_byTurns 245 = .ok (.iconst 0, 1) := by decide +kernel
theorem dX10_byTurns_246 : decode cX10_byTurns 246 = .ok (.iaload, 1) := by decide +kernel
theorem dX10_byTurns_247 : decode cX10_byTurns 247 = .ok (.ireturn, 1) := by decide +kernel
set_option maxRecDepth 20000 in
theorem ggX10_took_X10_in : GoodIn wsX10_took wsX10_in := goodIn_r _ [7] (by decide +kernel) (by decide +kernel)
set_option maxRecDepth 20000 in
theorem gX10_took_X10_in : GoodIn wsX10_took (va_wsS RX10 79 yX10_in wsX10_in) := goodIn_app (goodIn_of _ (by decide +kernel)) ggX10_took_X10_in
set_option maxRecDepth 20000 in
theorem ggX10_took_X10_isRelative : GoodIn wsX10_took wsX10_isRelative := goodIn_r _ [11, 12, 4, 5, 6, 7, 13, 14, 15, 16, 17, 18, 19, 20, 21, 22, 23, 24, 25, 26, 27, 28, 29, 30, 31, 32, 33, 34, 35, 36, 37] (by decide +kernel) (by decide +kernel)
set_option maxRecDepth 20000 in
theorem gX10_took_X10_isRelative : GoodIn wsX10_took (wsV RX10 163 RX10 yX10_isRelative wsX10_isRelative) := goodIn_app (goodIn_of _ (by decide +kernel)) ggX10_took_X10_isRelative
theorem dX10_took_0 : decode cX10_took 0 = .ok (.iload_n 1, 1) := by decide +kernel
theorem dX10_took_1 : decode cX10_took 1 = .ok (.iconst 1, 1) := by decide +kernel
theorem dX10_took_2 : decode cX10_took 2 = .ok (.bipush 10, 2) := by decide +kernel
theorem dX10_took_4 : decode cX10_took 4 = .ok (.invokestatic 79, 3) := by decide +kernel
theorem dX10_took_7 : decode cX10_took 7 = .ok (.ifCond .eq 21, 3) := by decide +kernel
theorem dX10_took_10 : decode cX10_took 10 = .ok (.iload_n 1, 1) := by decide +kernel
theorem dX10_took_11 : decode cX10_took 11 = .ok (.aload_n 0, 1) := by decide +kernel
theorem dX10_took_12 : decode cX10_took 12 = .ok (.getfield 16, 3) := by decide +kernel
theorem dX10_took_15 : decode cX10_took 15 = .ok (.iconst 0, 1) := by decide +kernel
theorem dX10_took_16 : decode cX10_took 16 = .ok (.iaload, 1) := by decide +kernel
theorem dX10_took_17 : decode cX10_took 17 = .ok (.if_icmp .gt 11, 3) := by decide +kernel
theorem dX10_took_20 : decode cX10_took 20 = .ok (.aload_n 0, 1) := by decide +kernel
theorem dX10_took_21 : decode cX10_took 21 = .ok (.iload_n 2, 1) := by decide +kernel
theorem dX10_took_22 : decode cX10_took 22 = .ok (.invokevirtual 163, 3) := by decide +kernel
theorem dX10_took_25 : decode cX10_took 25 = .ok (.ifCond .ne 5, 3) := by decide +kernel
theorem dX10_took_28 : decode cX10_took 28 = .ok (.iconst (-1), 1) := by decide +kernel
theorem dX10_took_29 : decode cX10_took 29 = .ok (.ireturn, 1) := by decide +kernel
theorem dX10_took_30 : decode cX10_took 30 = .ok (.aload_n 0, 1) := by decide +kernel
theorem dX10_took_31 : decode cX10_took 31 = .ok (.getfield 139, 3) := by decide +kernel
theorem dX10_took_34 : decode cX10_took 34 = .ok (.bipush 6, 2) := by decide +kernel
theorem dX10_took_36 : decode cX10_took 36 = .ok (.if_icmp .ne 6, 3) := by decide +kernel
theorem dX10_took_39 : decode cX10_took 39 = .ok (.bipush (-3), 2) := by decide +kernel
theorem dX10_took_41 : decode cX10_took 41 = .ok (.ireturn, 1) := by decide +kernel
theorem dX10_took_42 : decode cX10_took 42 = .ok (.aload_n 0, 1) := by decide +kernel
theorem dX10_took_43 : decode cX10_took 43 = .ok (.getfield 28, 3) := by decide +kernel
theorem dX10_took_46 : decode cX10_took 46 = .ok (.iconst 2, 1) := by decide +kernel
theorem dX10_took_47 : decode cX10_took 47 = .ok (.aload_n 0, 1) := by decide +kernel
theorem dX10_took_48 : decode cX10_took 48 = .ok (.getfield 139, 3) := by decide +kernel
theorem dX10_took_51 : decode cX10_took 51 = .ok (.imul, 1) := by decide +kernel
theorem dX10_took_52 : decode cX10_took 52 = .ok (.iload_n 1, 1) := by decide +kernel
theorem dX10_took_53 : decode cX10_took 53 = .ok (.iastore, 1) := by decide +kernel
theorem dX10_took_54 : decode cX10_took 54 = .ok (.aload_n 0, 1) := by decide +kernel
theorem dX10_took_55 : decode cX10_took 55 = .ok (.getfield 28, 3) := by decide +kernel
theorem dX10_took_58 : decode cX10_took 58 = .ok (.iconst 2, 1) := by decide +kernel
theorem dX10_took_59 : decode cX10_took 59 = .ok (.aload_n 0, 1) := by decide +kernel
theorem dX10_took_60 : decode cX10_took 60 = .ok (.getfield 139, 3) := by decide +kernel
theorem dX10_took_63 : decode cX10_took 63 = .ok (.imul, 1) := by decide +kernel
theorem dX10_took_64 : decode cX10_took 64 = .ok (.iconst 1, 1) := by decide +kernel
theorem dX10_took_65 : decode cX10_took 65 = .ok (.iadd, 1) := by decide +kernel
theorem dX10_took_66 : decode cX10_took 66 = .ok (.iload_n 2, 1) := by decide +kernel
theorem dX10_took_67 : decode cX10_took 67 = .ok (.iastore, 1) := by decide +kernel
theorem dX10_took_68 : decode cX10_took 68 = .ok (.aload_n 0, 1) := by decide +kernel
theorem dX10_took_69 : decode cX10_took 69 = .ok (.dup, 1) := by decide +kernel
theorem dX10_took_70 : decode cX10_took 70 = .ok (.getfield 139, 3) := by decide +kernel
theorem dX10_took_73 : decode cX10_took 73 = .ok (.iconst 1, 1) := by decide +kernel
theorem dX10_took_74 : decode cX10_took 74 = .ok (.iadd, 1) := by decide +kernel
theorem dX10_took_75 : decode cX10_took 75 = .ok (.putfield 139, 3) := by decide +kernel
theorem dX10_took_78 : decode cX10_took 78 = .ok (.aload_n 0, 1) := by decide +kernel
theorem dX10_took_79 : decode cX10_took 79 = .ok (.getfield 139, 3) := by decide +kernel
theorem dX10_took_82 : decode cX10_took 82 = .ok (.ireturn, 1) := by decide +kernel
theorem dX10_forget_0 : decode cX10_forget 0 = .ok (.aload_n 0, 1) := by decide +kernel
theorem dX10_forget_1 : decode cX10_forget 1 = .ok (.getfield 139, 3) := by decide +kernel
theorem dX10_forget_4 : decode cX10_forget 4 = .ok (.istore_n 1, 1) := by decide +kernel
theorem dX10_forget_5 : decode cX10_forget 5 = .ok (.aload_n 0, 1) := by decide +kernel
theorem dX10_forget_6 : decode cX10_forget 6 = .ok (.iconst 0, 1) := by decide +kernel
theorem dX10_forget_7 : decode cX10_forget 7 = .ok (.putfield 139, 3) := by decide +kernel
theorem dX10_forget_10 : decode cX10_forget 10 = .ok (.iload_n 1, 1) := by decide +kernel
theorem dX10_forget_11 : decode cX10_forget 11 = .ok (.ireturn, 1) := by decide +kernel
set_option maxRecDepth 20000 in
theorem ggX10_fits_X10_from : GoodIn wsX10_fits wsX10_from := goodIn_r _ [10, 2, 11, 12, 9, 13, 49, 50, 51, 52, 53, 54, 55, 56, 57, 58, 59, 60, 61, 62, 63, 64, 65, 66, 67, 68, 69, 70, 71, 72, 73] (by decide +kernel) (by decide +kernel)
set_option maxRecDepth 20000 in
theorem gX10_fits_X10_from : GoodIn wsX10_fits (wsV RX10 166 RX10 yX10_from wsX10_from) := goodIn_app (goodIn_of _ (by decide +kernel)) ggX10_fits_X10_from
set_option maxRecDepth 20000 in
theorem ggX10_fits_X10_saysIt : GoodIn wsX10_fits wsX10_saysIt := goodIn_r _ [17, 2, 18, 19, 20, 9, 21, 22, 23, 24, 25, 26, 27, 28, 29, 30, 31, 49, 50, 51, 52, 53, 54, 55, 56, 57, 58, 59, 60, 61, 62, 63, 64, 65, 66, 67, 68, 69, 70, 71, 72, 73] (by decide +kernel) (by decide +kernel)
set_option maxRecDepth 20000 in
theorem gX10_fits_X10_saysIt : GoodIn wsX10_fits (wsV RX10 176 RX10 yX10_saysIt wsX10_saysIt) := goodIn_app (goodIn_of _ (by decide +kernel)) ggX10_fits_X10_saysIt
set_option maxRecDepth 20000 in
theorem ggX10_fits_X10_goesToNoon : GoodIn wsX10_fits wsX10_goesToNoon := goodIn_r _ [35, 2, 36, 37, 38, 39, 9, 40, 41, 42, 43, 44, 45, 46, 47, 48, 49, 50, 51, 52, 53, 54, 55, 56, 57, 58, 59, 60, 61, 62, 63, 64, 65, 66, 67, 68, 69, 70, 71, 72, 73] (by decide +kernel) (by decide +kernel)
set_option maxRecDepth 20000 in
theorem gX10_fits_X10_goesToNoon : GoodIn wsX10_fits (wsV RX10 179 RX10 yX10_goesToNoon wsX10_goesToNoon) := goodIn_app (goodIn_of _ (by decide +kernel)) ggX10_fits_X10_goesToNoon
theorem dX10_fits_0 : decode cX10_fits 0 = .ok (.aload_n 0, 1) := by decide +kernel
theorem dX10_fits_1 : decode cX10_fits 1 = .ok (.aload_n 0, 1) := by decide +kernel
theorem dX10_fits_2 : decode cX10_fits 2 = .ok (.getfield 19, 3) := by decide +kernel
theorem dX10_fits_5 : decode cX10_fits 5 = .ok (.invokevirtual 166, 3) := by decide +kernel
theorem dX10_fits_8 : decode cX10_fits 8 = .ok (.aload_n 0, 1) := by decide +kernel
theorem dX10_fits_9 : decode cX10_fits 9 = .ok (.getfield 43, 3) := by decide +kernel
theorem dX10_fits_12 : decode cX10_fits 12 = .ok (.iconst 2, 1) := by decide +kernel
theorem dX10_fits_13 : decode cX10_fits 13 = .ok (.iload_n 1, 1) := by decide +kernel
theorem dX10_fits_14 : decode cX10_fits 14 = .ok (.iastore, 1) := by decide +kernel
theorem dX10_fits_15 : decode cX10_fits 15 = .ok (.iconst 1, 1) := by decide +kernel
theorem dX10_fits_16 : decode cX10_fits 16 = .ok (.istore_n 2, 1) := by decide +kernel
theorem dX10_fits_17 : decode cX10_fits 17 = .ok (.iconst 0, 1) := by decide +kernel
theorem dX10_fits_18 : decode cX10_fits 18 = .ok (.istore_n 3, 1) := by decide +kernel
theorem dX10_fits_19 : decode cX10_fits 19 = .ok (.iload_n 3, 1) := by decide +kernel
theorem dX10_fits_20 : decode cX10_fits 20 = .ok (.bipush 10, 2) := by decide +kernel
theorem dX10_fits_22 : decode cX10_fits 22 = .ok (.if_icmp .ge 130, 3) := by decide +kernel
theorem dX10_fits_25 : decode cX10_fits 25 = .ok (.iconst 0, 1) := by decide +kernel
theorem dX10_fits_26 : decode cX10_fits 26 = .ok (.istore 4, 2) := by decide +kernel
theorem dX10_fits_28 : decode cX10_fits 28 = .ok (.iload 4, 2) := by decide +kernel
theorem dX10_fits_30 : decode cX10_fits 30 = .ok (.aload_n 0, 1) := by decide +kernel
theorem dX10_fits_31 : decode cX10_fits 31 = .ok (.getfield 16, 3) := by decide +kernel
theorem dX10_fits_34 : decode cX10_fits 34 = .ok (.bipush 22, 2) := by decide +kernel
theorem dX10_fits_36 : decode cX10_fits 36 = .ok (.iload_n 3, 1) := by decide +kernel
theorem dX10_fits_37 : decode cX10_fits 37 = .ok (.iadd, 1) := by decide +kernel
theorem dX10_fits_38 : decode cX10_fits 38 = .ok (.iaload, 1) := by decide +kernel
theorem dX10_fits_39 : decode cX10_fits 39 = .ok (.if_icmp .ge 40, 3) := by decide +kernel
theorem dX10_fits_42 : decode cX10_fits 42 = .ok (.aload_n 0, 1) := by decide +kernel
theorem dX10_fits_43 : decode cX10_fits 43 = .ok (.getfield 16, 3) := by decide +kernel
theorem dX10_fits_46 : decode cX10_fits 46 = .ok (.bipush 32, 2) := by decide +kernel
theorem dX10_fits_48 : decode cX10_fits 48 = .ok (.iconst 4, 1) := by decide +kernel
theorem dX10_fits_49 : decode cX10_fits 49 = .ok (.iload_n 3, 1) := by decide +kernel
theorem dX10_fits_50 : decode cX10_fits 50 = .ok (.imul, 1) := by decide +kernel
theorem dX10_fits_51 : decode cX10_fits 51 = .ok (.iadd, 1) := by decide +kernel
theorem dX10_fits_52 : decode cX10_fits 52 = .ok (.iload 4, 2) := by decide +kernel
theorem dX10_fits_54 : decode cX10_fits 54 = .ok (.iadd, 1) := by decide +kernel
theorem dX10_fits_55 : decode cX10_fits 55 = .ok (.iaload, 1) := by decide +kernel
theorem dX10_fits_56 : decode cX10_fits 56 = .ok (.istore 5, 2) := by decide +kernel
theorem dX10_fits_58 : decode cX10_fits 58 = .ok (.aload_n 0, 1) := by decide +kernel
theorem dX10_fits_59 : decode cX10_fits 59 = .ok (.iload 5, 2) := by decide +kernel
theorem dX10_fits_61 : decode cX10_fits 61 = .ok (.bipush 8, 2) := by decide +kernel
theorem dX10_fits_63 : decode cX10_fits 63 = .ok (.idiv, 1) := by decide +kernel
theorem dX10_fits_64 : decode cX10_fits 64 = .ok (.iload 5, 2) := by decide +kernel
theorem dX10_fits_66 : decode cX10_fits 66 = .ok (.bipush 8, 2) := by decide +kernel
theorem dX10_fits_68 : decode cX10_fits 68 = .ok (.irem, 1) := by decide +kernel
theorem dX10_fits_69 : decode cX10_fits 69 = .ok (.invokevirtual 176, 3) := by decide +kernel
theorem dX10_fits_72 : decode cX10_fits 72 = .ok (.pop, 1) := by decide +kernel
theorem dX10_fits_73 : decode cX10_fits 73 = .ok (.iinc 4 1, 3) := by decide +kernel
theorem dX10_fits_76 : decode cX10_fits 76 = .ok (.goto (-48), 3) := by decide +kernel
theorem dX10_fits_79 : decode cX10_fits 79 = .ok (.aload_n 0, 1) := by decide +kernel
theorem dX10_fits_80 : decode cX10_fits 80 = .ok (.invokevirtual 179, 3) := by decide +kernel
theorem dX10_fits_83 : decode cX10_fits 83 = .ok (.iconst 0, 1) := by decide +kernel
theorem dX10_fits_84 : decode cX10_fits 84 = .ok (.istore 4, 2) := by decide +kernel
theorem dX10_fits_86 : decode cX10_fits 86 = .ok (.iload 4, 2) := by decide +kernel
theorem dX10_fits_88 : decode cX10_fits 88 = .ok (.aload_n 0, 1) := by decide +kernel
theorem dX10_fits_89 : decode cX10_fits 89 = .ok (.getfield 139, 3) := by decide +kernel
theorem dX10_fits_92 : decode cX10_fits 92 = .ok (.if_icmp .ge 54, 3) := by decide +kernel
theorem dX10_fits_95 : decode cX10_fits 95 = .ok (.iload_n 2, 1) := by decide +kernel
theorem dX10_fits_96 : decode cX10_fits 96 = .ok (.ifCond .eq 42, 3) := by decide +kernel
theorem dX10_fits_99 : decode cX10_fits 99 = .ok (.aload_n 0, 1) := by decide +kernel
theorem dX10_fits_100 : decode cX10_fits 100 = .ok (.getfield 28, 3) := by decide +kernel
theorem dX10_fits_103 : decode cX10_fits 103 = .ok (.iconst 2, 1) := by decide +kernel
theorem dX10_fits_104 : decode cX10_fits 104 = .ok (.iload 4, 2) := by decide +kernel
theorem dX10_fits_106 : decode cX10_fits 106 = .ok (.imul, 1) := by decide +kernel
theorem dX10_fits_107 : decode cX10_fits 107 = .ok (.iaload, 1) := by decide +kernel
theorem dX10_fits_108 : decode cX10_fits 108 = .ok (.iload_n 3, 1) := by decide +kernel
theorem dX10_fits_109 : decode cX10_fits 109 = .ok (.iconst 1, 1) := by decide +kernel
theorem dX10_fits_110 : decode cX10_fits 110 = .ok (.iadd, 1) := by decide +kernel
theorem dX10_fits_111 : decode cX10_fits 111 = .ok (.if_icmp .ne 23, 3) := by decide +kernel
theorem dX10_fits_114 : decode cX10_fits 114 = .ok (.aload_n 0, 1) := by decide +kernel
theorem dX10_fits_115 : decode cX10_fits 115 = .ok (.getfield 28, 3) := by decide +kernel
theorem dX10_fits_118 : decode cX10_fits 118 = .ok (.iconst 2, 1) := by decide +kernel
theorem dX10_fits_119 : decode cX10_fits 119 = .ok (.iload 4, 2) := by decide +kernel
theorem dX10_fits_121 : decode cX10_fits 121 = .ok (.imul, 1) := by decide +kernel
theorem dX10_fits_122 : decode cX10_fits 122 = .ok (.iconst 1, 1) := by decide +kernel
theorem dX10_fits_123 : decode cX10_fits 123 = .ok (.iadd, 1) := by decide +kernel
theorem dX10_fits_124 : decode cX10_fits 124 = .ok (.iaload, 1) := by decide +kernel
theorem dX10_fits_125 : decode cX10_fits 125 = .ok (.aload_n 0, 1) := by decide +kernel
theorem dX10_fits_126 : decode cX10_fits 126 = .ok (.getfield 43, 3) := by decide +kernel
theorem dX10_fits_129 : decode cX10_fits 129 = .ok (.iconst 1, 1) := by decide +kernel
theorem dX10_fits_130 : decode cX10_fits 130 = .ok (.iaload, 1) := by decide +kernel
theorem dX10_fits_131 : decode cX10_fits 131 = .ok (.if_icmp .ne 7, 3) := by decide +kernel
theorem dX10_fits_134 : decode cX10_fits 134 = .ok (.iconst 1, 1) := by decide +kernel
theorem dX10_fits_135 : decode cX10_fits 135 = .ok (.goto 4, 3) := by decide +kernel
theorem dX10_fits_138 : decode cX10_fits 138 = .ok (.iconst 0, 1) := by decide +kernel
theorem dX10_fits_139 : decode cX10_fits 139 = .ok (.istore_n 2, 1) := by decide +kernel
theorem dX10_fits_140 : decode cX10_fits 140 = .ok (.iinc 4 1, 3) := by decide +kernel
theorem dX10_fits_143 : decode cX10_fits 143 = .ok (.goto (-57), 3) := by decide +kernel
theorem dX10_fits_146 : decode cX10_fits 146 = .ok (.iinc 3 1, 3) := by decide +kernel
theorem dX10_fits_149 : decode cX10_fits 149 = .ok (.goto (-130), 3) := by decide +kernel
theorem dX10_fits_152 : decode cX10_fits 152 = .ok (.iload_n 2, 1) := by decide +kernel
theorem dX10_fits_153 : decode cX10_fits 153 = .ok (.ireturn, 1) := by decide +kernel
set_option maxRecDepth 20000 in
theorem ggX10_deeds_X10_in : GoodIn wsX10_deeds wsX10_in := goodIn_r _ [4] (by decide +kernel) (by decide +kernel)
set_option maxRecDepth 20000 in
theorem gX10_deeds_X10_in : GoodIn wsX10_deeds (va_wsS RX10 79 yX10_in wsX10_in) := goodIn_app (goodIn_of _ (by decide +kernel)) ggX10_deeds_X10_in
set_option maxRecDepth 20000 in
theorem ggX10_deeds_X10_fits : GoodIn wsX10_deeds wsX10_fits := goodIn_r _ [8, 9, 10, 11, 12, 13, 14, 15, 16, 3, 17, 18, 19, 20, 21, 22, 23, 24, 25, 26, 27, 28, 29, 30, 31, 32, 33, 34, 35, 36, 37, 38, 39, 40, 41, 42, 43, 44, 45, 46, 47, 48, 49, 50, 51, 52, 53, 54, 55, 56, 57, 58, 59, 60, 61, 62, 63, 64, 65, 66, 67, 68, 69, 70, 71, 72, 73, 74, 75, 76, 77, 78, 79, 80] (by decide +kernel) (by decide +kernel)
set_option maxRecDepth 20000 in
theorem gX10_deeds_X10_fits : GoodIn wsX10_deeds (wsV RX10 185 RX10 yX10_fits wsX10_fits) := goodIn_app (goodIn_of _ (by decide +kernel)) ggX10_deeds_X10_fits
theorem dX10_deeds_0 : decode cX10_deeds 0 = .ok (.iload_n 1, 1) := by decide +kernel
theorem dX10_deeds_1 : decode cX10_deeds 1 = .ok (.iconst 0, 1) := by decide +kernel
theorem dX10_deeds_2 : decode cX10_deeds 2 = .ok (.iconst 1, 1) := by decide +kernel
theorem dX10_deeds_3 : decode cX10_deeds 3 = .ok (.invokestatic 79, 3) := by decide +kernel
theorem dX10_deeds_6 : decode cX10_deeds 6 = .ok (.ifCond .ne 5, 3) := by decide +kernel
theorem dX10_deeds_9 : decode cX10_deeds 9 = .ok (.iconst (-1), 1) := by decide +kernel
theorem dX10_deeds_10 : decode cX10_deeds 10 = .ok (.ireturn, 1) := by decide +kernel
theorem dX10_deeds_11 : decode cX10_deeds 11 = .ok (.iconst 0, 1) := by decide +kernel
theorem dX10_deeds_12 : decode cX10_deeds 12 = .ok (.istore_n 2, 1) := by decide +kernel
theorem dX10_deeds_13 : decode cX10_deeds 13 = .ok (.bipush (-4), 2) := by decide +kernel
theorem dX10_deeds_15 : decode cX10_deeds 15 = .ok (.istore_n 3, 1) := by decide +kernel
theorem dX10_deeds_16 : decode cX10_deeds 16 = .ok (.bipush 63, 2) := by decide +kernel
theorem dX10_deeds_18 : decode cX10_deeds 18 = .ok (.istore 4, 2) := by decide +kernel
theorem dX10_deeds_20 : decode cX10_deeds 20 = .ok (.iload 4, 2) := by decide +kernel
theorem dX10_deeds_22 : decode cX10_deeds 22 = .ok (.ifCond .lt 42, 3) := by decide +kernel
theorem dX10_deeds_25 : decode cX10_deeds 25 = .ok (.aload_n 0, 1) := by decide +kernel
theorem dX10_deeds_26 : decode cX10_deeds 26 = .ok (.iload 4, 2) := by decide +kernel
theorem dX10_deeds_28 : decode cX10_deeds 28 = .ok (.invokevirtual 185, 3) := by decide +kernel
theorem dX10_deeds_31 : decode cX10_deeds 31 = .ok (.istore 5, 2) := by decide +kernel
theorem dX10_deeds_33 : decode cX10_deeds 33 = .ok (.iload_n 2, 1) := by decide +kernel
theorem dX10_deeds_34 : decode cX10_deeds 34 = .ok (.iload 5, 2) := by decide +kernel
theorem dX10_deeds_36 : decode cX10_deeds 36 = .ok (.ifCond .eq 7, 3) := by decide +kernel
theorem dX10_deeds_39 : decode cX10_deeds 39 = .ok (.iconst 1, 1) := by decide +kernel
theorem dX10_deeds_40 : decode cX10_deeds 40 = .ok (.goto 4, 3) := by decide +kernel
theorem dX10_deeds_43 : decode cX10_deeds 43 = .ok (.iconst 0, 1) := by decide +kernel
theorem dX10_deeds_44 : decode cX10_deeds 44 = .ok (.iadd, 1) := by decide +kernel
theorem dX10_deeds_45 : decode cX10_deeds 45 = .ok (.istore_n 2, 1) := by decide +kernel
theorem dX10_deeds_46 : decode cX10_deeds 46 = .ok (.iload 5, 2) := by decide +kernel
theorem dX10_deeds_48 : decode cX10_deeds 48 = .ok (.ifCond .eq 8, 3) := by decide +kernel
theorem dX10_deeds_51 : decode cX10_deeds 51 = .ok (.iload 4, 2) := by decide +kernel
theorem dX10_deeds_53 : decode cX10_deeds 53 = .ok (.goto 4, 3) := by decide +kernel
theorem dX10_deeds_56 : decode cX10_deeds 56 = .ok (.iload_n 3, 1) := by decide +kernel
theorem dX10_deeds_57 : decode cX10_deeds 57 = .ok (.istore_n 3, 1) := by decide +kernel
theorem dX10_deeds_58 : decode cX10_deeds 58 = .ok (.iinc 4 (-1), 3) := by decide +kernel
theorem dX10_deeds_61 : decode cX10_deeds 61 = .ok (.goto (-41), 3) := by decide +kernel
theorem dX10_deeds_64 : decode cX10_deeds 64 = .ok (.iload_n 1, 1) := by decide +kernel
theorem dX10_deeds_65 : decode cX10_deeds 65 = .ok (.ifCond .ne 7, 3) := by decide +kernel
theorem dX10_deeds_68 : decode cX10_deeds 68 = .ok (.iload_n 2, 1) := by decide +kernel
theorem dX10_deeds_69 : decode cX10_deeds 69 = .ok (.goto 4, 3) := by decide +kernel
theorem dX10_deeds_72 : decode cX10_deeds 72 = .ok (.iload_n 3, 1) := by decide +kernel
theorem dX10_deeds_73 : decode cX10_deeds 73 = .ok (.ireturn, 1) := by decide +kernel
set_option maxRecDepth 20000 in
theorem ggX10_quiet_X10_from : GoodIn wsX10_quiet wsX10_from := goodIn_r _ [8, 9, 10, 11, 7, 12, 23, 24, 25, 26, 27, 28, 29, 30, 31, 32, 33, 34, 35, 36, 37, 38, 39, 40, 41, 42, 43, 44, 45, 46, 47] (by decide +kernel) (by decide +kernel)
set_option maxRecDepth 20000 in
theorem gX10_quiet_X10_from : GoodIn wsX10_quiet (wsV RX10 166 RX10 yX10_from wsX10_from) := goodIn_app (goodIn_of _ (by decide +kernel)) ggX10_quiet_X10_from
set_option maxRecDepth 20000 in
theorem ggX10_quiet_X10_isAsking : GoodIn wsX10_quiet wsX10_isAsking := goodIn_r _ [16, 17, 9, 18, 19, 20, 21, 7, 22, 23, 24, 25, 26, 27, 28, 29, 30, 31, 32, 33, 34, 35, 36, 37, 38, 39, 40, 41, 42, 43, 44, 45, 46, 47] (by decide +kernel) (by decide +kernel)
set_option maxRecDepth 20000 in
theorem gX10_quiet_X10_isAsking : GoodIn wsX10_quiet (wsV RX10 155 RX10 yX10_isAsking wsX10_isAsking) := goodIn_app (goodIn_of _ (by decide +kernel)) ggX10_quiet_X10_isAsking
theorem dX10_quiet_0 : decode cX10_quiet 0 = .ok (.aload_n 0, 1) := by decide +kernel
theorem dX10_quiet_1 : decode cX10_quiet 1 = .ok (.aload_n 0, 1) := by decide +kernel
theorem dX10_quiet_2 : decode cX10_quiet 2 = .ok (.getfield 16, 3) := by decide +kernel
theorem dX10_quiet_5 : decode cX10_quiet 5 = .ok (.invokevirtual 166, 3) := by decide +kernel
theorem dX10_quiet_8 : decode cX10_quiet 8 = .ok (.iconst 0, 1) := by decide +kernel
theorem dX10_quiet_9 : decode cX10_quiet 9 = .ok (.istore_n 1, 1) := by decide +kernel
theorem dX10_quiet_10 : decode cX10_quiet 10 = .ok (.iconst 0, 1) := by decide +kernel
theorem dX10_quiet_11 : decode cX10_quiet 11 = .ok (.istore_n 2, 1) := by decide +kernel
theorem dX10_quiet_12 : decode cX10_quiet 12 = .ok (.iload_n 2, 1) := by decide +kernel
theorem dX10_quiet_13 : decode cX10_quiet 13 = .ok (.aload_n 0, 1) := by decide +kernel
theorem dX10_quiet_14 : decode cX10_quiet 14 = .ok (.getfield 123, 3) := by decide +kernel
theorem dX10_quiet_17 : decode cX10_quiet 17 = .ok (.if_icmp .ge 63, 3) := by decide +kernel
theorem dX10_quiet_20 : decode cX10_quiet 20 = .ok (.iconst 1, 1) := by decide +kernel
theorem dX10_quiet_21 : decode cX10_quiet 21 = .ok (.istore_n 3, 1) := by decide +kernel
theorem dX10_quiet_22 : decode cX10_quiet 22 = .ok (.iconst 0, 1) := by decide +kernel
theorem dX10_quiet_23 : decode cX10_quiet 23 = .ok (.istore 4, 2) := by decide +kernel
theorem dX10_quiet_25 : decode cX10_quiet 25 = .ok (.iload 4, 2) := by decide +kernel
theorem dX10_quiet_27 : decode cX10_quiet 27 = .ok (.aload_n 0, 1) := by decide +kernel
theorem dX10_quiet_28 : decode cX10_quiet 28 = .ok (.getfield 76, 3) := by decide +kernel
theorem dX10_quiet_31 : decode cX10_quiet 31 = .ok (.if_icmp .ge 29, 3) := by decide +kernel
theorem dX10_quiet_34 : decode cX10_quiet 34 = .ok (.iload_n 3, 1) := by decide +kernel
theorem dX10_quiet_35 : decode cX10_quiet 35 = .ok (.ifCond .eq 17, 3) := by decide +kernel
theorem dX10_quiet_38 : decode cX10_quiet 38 = .ok (.aload_n 0, 1) := by decide +kernel
theorem dX10_quiet_39 : decode cX10_quiet 39 = .ok (.iload_n 2, 1) := by decide +kernel
theorem dX10_quiet_40 : decode cX10_quiet 40 = .ok (.iload 4, 2) := by decide +kernel
theorem dX10_quiet_42 : decode cX10_quiet 42 = .ok (.invokevirtual 155, 3) := by decide +kernel
theorem dX10_quiet_45 : decode cX10_quiet 45 = .ok (.ifCond .ne 7, 3) := by decide +kernel
theorem dX10_quiet_48 : decode cX10_quiet 48 = .ok (.iconst 1, 1) := by decide +kernel
theorem dX10_quiet_49 : decode cX10_quiet 49 = .ok (.goto 4, 3) := by decide +kernel
theorem dX10_quiet_52 : decode cX10_quiet 52 = .ok (.iconst 0, 1) := by decide +kernel
theorem dX10_quiet_53 : decode cX10_quiet 53 = .ok (.istore_n 3, 1) := by decide +kernel
theorem dX10_quiet_54 : decode cX10_quiet 54 = .ok (.iinc 4 1, 3) := by decide +kernel
theorem dX10_quiet_57 : decode cX10_quiet 57 = .ok (.goto (-32), 3) := by decide +kernel
theorem dX10_quiet_60 : decode cX10_quiet 60 = .ok (.iload_n 1, 1) := by decide +kernel
theorem dX10_quiet_61 : decode cX10_quiet 61 = .ok (.iload_n 3, 1) := by decide +kernel
theorem dX10_quiet_62 : decode cX10_quiet 62 = .ok (.ifCond .eq 9, 3) := by decide +kernel
theorem dX10_quiet_65 : decode cX10_quiet 65 = .ok (.iconst 1, 1) := by decide +kernel
theorem dX10_quiet_66 : decode cX10_quiet 66 = .ok (.iload_n 2, 1) := by decide +kernel
theorem dX10_quiet_67 : decode cX10_quiet 67 = .ok (.ishl, 1) := by decide +kernel
theorem dX10_quiet_68 : decode cX10_quiet 68 = .ok (.goto 4, 3) := by decide +kernel
theorem dX10_quiet_71 : decode cX10_quiet 71 = .ok (.iconst 0, 1) := by decide +kernel
theorem dX10_quiet_72 : decode cX10_quiet 72 = .ok (.ior, 1) := by decide +kernel
theorem dX10_quiet_73 : decode cX10_quiet 73 = .ok (.istore_n 1, 1) := by decide +kernel
theorem dX10_quiet_74 : decode cX10_quiet 74 = .ok (.iinc 2 1, 3) := by decide +kernel
theorem dX10_quiet_77 : decode cX10_quiet 77 = .ok (.goto (-65), 3) := by decide +kernel
theorem dX10_quiet_80 : decode cX10_quiet 80 = .ok (.iload_n 1, 1) := by decide +kernel
theorem dX10_quiet_81 : decode cX10_quiet 81 = .ok (.ireturn, 1) := by decide +kernel
set_option maxRecDepth 20000 in
theorem ggX10_cloak_X10_isRelative : GoodIn wsX10_cloak wsX10_isRelative := goodIn_r _ [9, 10, 11, 12, 8, 13, 30, 31, 32, 33, 34, 35, 36, 37, 38, 39, 40, 41, 42, 43, 44, 45, 46, 47, 48, 49, 50, 51, 52, 53, 54] (by decide +kernel) (by decide +kernel)
set_option maxRecDepth 20000 in
theorem gX10_cloak_X10_isRelative : GoodIn wsX10_cloak (wsV RX10 163 RX10 yX10_isRelative wsX10_isRelative) := goodIn_app (goodIn_of _ (by decide +kernel)) ggX10_cloak_X10_isRelative
set_option maxRecDepth 20000 in
theorem ggX10_cloak_X10_in : GoodIn wsX10_cloak wsX10_in := goodIn_r _ [13] (by decide +kernel) (by decide +kernel)
set_option maxRecDepth 20000 in
theorem gX10_cloak_X10_in : GoodIn wsX10_cloak (va_wsS RX10 79 yX10_in wsX10_in) := goodIn_app (goodIn_of _ (by decide +kernel)) ggX10_cloak_X10_in
set_option maxRecDepth 20000 in
theorem ggX10_cloak_X10_from : GoodIn wsX10_cloak wsX10_from := goodIn_r _ [17, 4, 18, 19, 8, 20, 30, 31, 32, 33, 34, 35, 36, 37, 38, 39, 40, 41, 42, 43, 44, 45, 46, 47, 48, 49, 50, 51, 52, 53, 54] (by decide +kernel) (by decide +kernel)
set_option maxRecDepth 20000 in
theorem gX10_cloak_X10_from : GoodIn wsX10_cloak (wsV RX10 166 RX10 yX10_from wsX10_from) := goodIn_app (goodIn_of _ (by decide +kernel)) ggX10_cloak_X10_from
set_option maxRecDepth 20000 in
theorem ggX10_cloak_X10_bits : GoodIn wsX10_cloak wsX10_bits := goodIn_r _ [23] (by decide +kernel) (by decide +kernel)
set_option maxRecDepth 20000 in
theorem gX10_cloak_X10_bits : GoodIn wsX10_cloak (va_wsS RX10 142 yX10_bits wsX10_bits) := goodIn_app (goodIn_of _ (by decide +kernel)) ggX10_cloak_X10_bits
set_option maxRecDepth 20000 in
theorem ggX10_cloak_X10_isAsking : GoodIn wsX10_cloak wsX10_isAsking := goodIn_r _ [27, 3, 4, 28, 29, 21, 22, 8, 23, 30, 31, 32, 33, 34, 35, 36, 37, 38, 39, 40, 41, 42, 43, 44, 45, 46, 47, 48, 49, 50, 51, 52, 53, 54] (by decide +kernel) (by decide +kernel)
set_option maxRecDepth 20000 in
theorem gX10_cloak_X10_isAsking : GoodIn wsX10_cloak (wsV RX10 155 RX10 yX10_isAsking wsX10_isAsking) := goodIn_app (goodIn_of _ (by decide +kernel)) ggX10_cloak_X10_isAsking
theorem dX10_cloak_0 : decode cX10_cloak 0 = .ok (.aload_n 0, 1) := by decide +kernel
theorem dX10_cloak_1 : decode cX10_cloak 1 = .ok (.iload_n 1, 1) := by decide +kernel
theorem dX10_cloak_2 : decode cX10_cloak 2 = .ok (.invokevirtual 163, 3) := by decide +kernel
theorem dX10_cloak_5 : decode cX10_cloak 5 = .ok (.ifCond .eq 12, 3) := by decide +kernel
theorem dX10_cloak_8 : decode cX10_cloak 8 = .ok (.iload_n 2, 1) := by decide +kernel
theorem dX10_cloak_9 : decode cX10_cloak 9 = .ok (.iconst 0, 1) := by decide +kernel
theorem dX10_cloak_10 : decode cX10_cloak 10 = .ok (.iconst 1, 1) := by decide +kernel
theorem dX10_cloak_11 : decode cX10_cloak 11 = .ok (.invokestatic 79, 3) := by decide +kernel
theorem dX10_cloak_14 : decode cX10_cloak 14 = .ok (.ifCond .ne 5, 3) := by decide +kernel
theorem dX10_cloak_17 : decode cX10_cloak 17 = .ok (.iconst (-1), 1) := by decide +kernel
theorem dX10_cloak_18 : decode cX10_cloak 18 = .ok (.ireturn, 1) := by decide +kernel
theorem dX10_cloak_19 : decode cX10_cloak 19 = .ok (.aload_n 0, 1) := by decide +kernel
theorem dX10_cloak_20 : decode cX10_cloak 20 = .ok (.aload_n 0, 1) := by decide +kernel
theorem dX10_cloak_21 : decode cX10_cloak 21 = .ok (.getfield 16, 3) := by decide +kernel
theorem dX10_cloak_24 : decode cX10_cloak 24 = .ok (.invokevirtual 166, 3) := by decide +kernel
theorem dX10_cloak_27 : decode cX10_cloak 27 = .ok (.bipush (-4), 2) := by decide +kernel
theorem dX10_cloak_29 : decode cX10_cloak 29 = .ok (.istore_n 3, 1) := by decide +kernel
theorem dX10_cloak_30 : decode cX10_cloak 30 = .ok (.bipush (-4), 2) := by decide +kernel
theorem dX10_cloak_32 : decode cX10_cloak 32 = .ok (.istore 4, 2) := by decide +kernel
theorem dX10_cloak_34 : decode cX10_cloak 34 = .ok (.iconst 0, 1) := by decide +kernel
theorem dX10_cloak_35 : decode cX10_cloak 35 = .ok (.istore 5, 2) := by decide +kernel
theorem dX10_cloak_37 : decode cX10_cloak 37 = .ok (.iload 5, 2) := by decide +kernel
theorem dX10_cloak_39 : decode cX10_cloak 39 = .ok (.aload_n 0, 1) := by decide +kernel
theorem dX10_cloak_40 : decode cX10_cloak 40 = .ok (.getfield 123, 3) := by decide +kernel
theorem dX10_cloak_43 : decode cX10_cloak 43 = .ok (.if_icmp .ge 80, 3) := by decide +kernel
theorem dX10_cloak_46 : decode cX10_cloak 46 = .ok (.aload_n 0, 1) := by decide +kernel
theorem dX10_cloak_47 : decode cX10_cloak 47 = .ok (.getfield 13, 3) := by decide +kernel
theorem dX10_cloak_50 : decode cX10_cloak 50 = .ok (.iconst 2, 1) := by decide +kernel
theorem dX10_cloak_51 : decode cX10_cloak 51 = .ok (.iload 5, 2) := by decide +kernel
theorem dX10_cloak_53 : decode cX10_cloak 53 = .ok (.imul, 1) := by decide +kernel
theorem dX10_cloak_54 : decode cX10_cloak 54 = .ok (.iaload, 1) := by decide +kernel
theorem dX10_cloak_55 : decode cX10_cloak 55 = .ok (.aload_n 0, 1) := by decide +kernel
theorem dX10_cloak_56 : decode cX10_cloak 56 = .ok (.getfield 43, 3) := by decide +kernel
theorem dX10_cloak_59 : decode cX10_cloak 59 = .ok (.iconst 2, 1) := by decide +kernel
theorem dX10_cloak_60 : decode cX10_cloak 60 = .ok (.iaload, 1) := by decide +kernel
theorem dX10_cloak_61 : decode cX10_cloak 61 = .ok (.iand, 1) := by decide +kernel
theorem dX10_cloak_62 : decode cX10_cloak 62 = .ok (.invokestatic 142, 3) := by decide +kernel
theorem dX10_cloak_65 : decode cX10_cloak 65 = .ok (.istore 6, 2) := by decide +kernel
theorem dX10_cloak_67 : decode cX10_cloak 67 = .ok (.aload_n 0, 1) := by decide +kernel
theorem dX10_cloak_68 : decode cX10_cloak 68 = .ok (.iload 5, 2) := by decide +kernel
theorem dX10_cloak_70 : decode cX10_cloak 70 = .ok (.iload_n 1, 1) := by decide +kernel
theorem dX10_cloak_71 : decode cX10_cloak 71 = .ok (.invokevirtual 155, 3) := by decide +kernel
theorem dX10_cloak_74 : decode cX10_cloak 74 = .ok (.ifCond .ne 14, 3) := by decide +kernel
theorem dX10_cloak_77 : decode cX10_cloak 77 = .ok (.iload 6, 2) := by decide +kernel
theorem dX10_cloak_79 : decode cX10_cloak 79 = .ok (.iload 4, 2) := by decide +kernel
theorem dX10_cloak_81 : decode cX10_cloak 81 = .ok (.if_icmp .le 7, 3) := by decide +kernel
theorem dX10_cloak_84 : decode cX10_cloak 84 = .ok (.iconst 1, 1) := by decide +kernel
theorem dX10_cloak_85 : decode cX10_cloak 85 = .ok (.goto 4, 3) := by decide +kernel
theorem dX10_cloak_88 : decode cX10_cloak 88 = .ok (.iconst 0, 1) := by decide +kernel
theorem dX10_cloak_89 : decode cX10_cloak 89 = .ok (.istore 7, 2) := by decide +kernel
theorem dX10_cloak_91 : decode cX10_cloak 91 = .ok (.iload 7, 2) := by decide +kernel
theorem dX10_cloak_93 : decode cX10_cloak 93 = .ok (.ifCond .eq 8, 3) := by decide +kernel
theorem dX10_cloak_96 : decode cX10_cloak 96 = .ok (.iload 5, 2) := by decide +kernel
theorem dX10_cloak_98 : decode cX10_cloak 98 = .ok (.goto 4, 3) := by decide +kernel
theorem dX10_cloak_101 : decode cX10_cloak 101 = .ok (.iload_n 3, 1) := by decide +kernel
theorem dX10_cloak_102 : decode cX10_cloak 102 = .ok (.istore_n 3, 1) := by decide +kernel
theorem dX10_cloak_103 : decode cX10_cloak 103 = .ok (.iload 7, 2) := by decide +kernel
theorem dX10_cloak_105 : decode cX10_cloak 105 = .ok (.ifCond .eq 8, 3) := by decide +kernel
theorem dX10_cloak_108 : decode cX10_cloak 108 = .ok (.iload 6, 2) := by decide +kernel
theorem dX10_cloak_110 : decode cX10_cloak 110 = .ok (.goto 5, 3) := by decide +kernel
theorem dX10_cloak_113 : decode cX10_cloak 113 = .ok (.iload 4, 2) := by decide +kernel
theorem dX10_cloak_115 : decode cX10_cloak 115 = .ok (.istore 4, 2) := by decide +kernel
theorem dX10_cloak_117 : decode cX10_cloak 117 = .ok (.iinc 5 1, 3) := by decide +kernel
theorem dX10_cloak_120 : decode cX10_cloak 120 = .ok (.goto (-83), 3) := by decide +kernel
theorem dX10_cloak_123 : decode cX10_cloak 123 = .ok (.iload_n 2, 1) := by decide +kernel
theorem dX10_cloak_124 : decode cX10_cloak 124 = .ok (.ifCond .ne 7, 3) := by decide +kernel
theorem dX10_cloak_127 : decode cX10_cloak 127 = .ok (.iload_n 3, 1) := by decide +kernel
theorem dX10_cloak_128 : decode cX10_cloak 128 = .ok (.goto 5, 3) := by decide +kernel
theorem dX10_cloak_131 : decode cX10_cloak 131 = .ok (.iload 4, 2) := by decide +kernel
theorem dX10_cloak_133 : decode cX10_cloak 133 = .ok (.ireturn, 1) := by decide +kernel
set_option maxRecDepth 20000 in
theorem ggX10_allKnow_X10_from : GoodIn wsX10_allKnow wsX10_from := goodIn_r _ [7, 8, 9, 10, 6, 11, 33, 34, 35, 36, 37, 38, 39, 40, 41, 42, 43, 44, 45, 46, 47, 48, 49, 50, 51, 52, 53, 54, 55, 56, 57] (by decide +kernel) (by decide +kernel)
set_option maxRecDepth 20000 in
theorem gX10_allKnow_X10_from : GoodIn wsX10_allKnow (wsV RX10 166 RX10 yX10_from wsX10_from) := goodIn_app (goodIn_of _ (by decide +kernel)) ggX10_allKnow_X10_from
set_option maxRecDepth 20000 in
theorem ggX10_allKnow_X10_knowsOf : GoodIn wsX10_allKnow wsX10_knowsOf := goodIn_r _ [15, 16, 17, 18, 19, 6, 20, 8, 33, 34, 35, 36, 37, 38, 39, 40, 41, 42, 43, 44, 45, 46, 47, 48, 49, 50, 51, 52, 53, 54, 55, 56, 57] (by decide +kernel) (by decide +kernel)
set_option maxRecDepth 20000 in
theorem gX10_allKnow_X10_knowsOf : GoodIn wsX10_allKnow (wsV RX10 170 RX10 yX10_knowsOf wsX10_knowsOf) := goodIn_app (goodIn_of _ (by decide +kernel)) ggX10_allKnow_X10_knowsOf
set_option maxRecDepth 20000 in
theorem ggX10_allKnow_X10_agoBy : GoodIn wsX10_allKnow wsX10_agoBy := goodIn_r _ [20, 8, 33, 34, 35, 36, 37, 38, 39, 40, 41, 42, 43, 44, 45, 46, 47, 48, 49, 50, 51, 52, 53, 54, 55, 56, 57] (by decide +kernel) (by decide +kernel)
set_option maxRecDepth 20000 in
theorem gX10_allKnow_X10_agoBy : GoodIn wsX10_allKnow (wsV RX10 145 RX10 yX10_agoBy wsX10_agoBy) := goodIn_app (goodIn_of _ (by decide +kernel)) ggX10_allKnow_X10_agoBy
set_option maxRecDepth 20000 in
theorem ggX10_allKnow_X10_goesToNoon : GoodIn wsX10_allKnow wsX10_goesToNoon := goodIn_r _ [24, 8, 2, 25, 26, 27, 6, 28, 29, 30, 31, 32, 17, 18, 19, 20, 33, 34, 35, 36, 37, 38, 39, 40, 41, 42, 43, 44, 45, 46, 47, 48, 49, 50, 51, 52, 53, 54, 55, 56, 57] (by decide +kernel) (by decide +kernel)
set_option maxRecDepth 20000 in
theorem gX10_allKnow_X10_goesToNoon : GoodIn wsX10_allKnow (wsV RX10 179 RX10 yX10_goesToNoon wsX10_goesToNoon) := goodIn_app (goodIn_of _ (by decide +kernel)) ggX10_allKnow_X10_goesToNoon
theorem dX10_allKnow_0 : decode cX10_allKnow 0 = .ok (.aload_n 0, 1) := by decide +kernel
theorem dX10_allKnow_1 : decode cX10_allKnow 1 = .ok (.aload_n 0, 1) := by decide +kernel
theorem dX10_allKnow_2 : decode cX10_allKnow 2 = .ok (.getfield 16, 3) := by decide +kernel
theorem dX10_allKnow_5 : decode cX10_allKnow 5 = .ok (.invokevirtual 166, 3) := by decide +kernel
theorem dX10_allKnow_8 : decode cX10_allKnow 8 = .ok (.iconst 0, 1) := by decide +kernel
theorem dX10_allKnow_9 : decode cX10_allKnow 9 = .ok (.istore_n 1, 1) := by decide +kernel
theorem dX10_allKnow_10 : decode cX10_allKnow 10 = .ok (.iconst 0, 1) := by decide +kernel
theorem dX10_allKnow_11 : decode cX10_allKnow 11 = .ok (.istore_n 2, 1) := by decide +kernel
theorem dX10_allKnow_12 : decode cX10_allKnow 12 = .ok (.iload_n 2, 1) := by decide +kernel
theorem dX10_allKnow_13 : decode cX10_allKnow 13 = .ok (.ifCond .ne 80, 3) := by decide +kernel
theorem dX10_allKnow_16 : decode cX10_allKnow 16 = .ok (.iconst 1, 1) := by decide +kernel
theorem dX10_allKnow_17 : decode cX10_allKnow 17 = .ok (.istore_n 2, 1) := by decide +kernel
theorem dX10_allKnow_18 : decode cX10_allKnow 18 = .ok (.iconst 0, 1) := by decide +kernel
theorem dX10_allKnow_19 : decode cX10_allKnow 19 = .ok (.istore_n 3, 1) := by decide +kernel
theorem dX10_allKnow_20 : decode cX10_allKnow 20 = .ok (.iload_n 3, 1) := by decide +kernel
theorem dX10_allKnow_21 : decode cX10_allKnow 21 = .ok (.aload_n 0, 1) := by decide +kernel
theorem dX10_allKnow_22 : decode cX10_allKnow 22 = .ok (.getfield 76, 3) := by decide +kernel
theorem dX10_allKnow_25 : decode cX10_allKnow 25 = .ok (.if_icmp .ge 54, 3) := by decide +kernel
theorem dX10_allKnow_28 : decode cX10_allKnow 28 = .ok (.iconst 0, 1) := by decide +kernel
theorem dX10_allKnow_29 : decode cX10_allKnow 29 = .ok (.istore 4, 2) := by decide +kernel
theorem dX10_allKnow_31 : decode cX10_allKnow 31 = .ok (.iload 4, 2) := by decide +kernel
theorem dX10_allKnow_33 : decode cX10_allKnow 33 = .ok (.aload_n 0, 1) := by decide +kernel
theorem dX10_allKnow_34 : decode cX10_allKnow 34 = .ok (.getfield 76, 3) := by decide +kernel
theorem dX10_allKnow_37 : decode cX10_allKnow 37 = .ok (.if_icmp .ge 36, 3) := by decide +kernel
theorem dX10_allKnow_40 : decode cX10_allKnow 40 = .ok (.iload_n 2, 1) := by decide +kernel
theorem dX10_allKnow_41 : decode cX10_allKnow 41 = .ok (.ifCond .eq 24, 3) := by decide +kernel
theorem dX10_allKnow_44 : decode cX10_allKnow 44 = .ok (.aload_n 0, 1) := by decide +kernel
theorem dX10_allKnow_45 : decode cX10_allKnow 45 = .ok (.iload_n 3, 1) := by decide +kernel
theorem dX10_allKnow_46 : decode cX10_allKnow 46 = .ok (.iload 4, 2) := by decide +kernel
theorem dX10_allKnow_48 : decode cX10_allKnow 48 = .ok (.invokevirtual 170, 3) := by decide +kernel
theorem dX10_allKnow_51 : decode cX10_allKnow 51 = .ok (.aload_n 0, 1) := by decide +kernel
theorem dX10_allKnow_52 : decode cX10_allKnow 52 = .ok (.iload 4, 2) := by decide +kernel
theorem dX10_allKnow_54 : decode cX10_allKnow 54 = .ok (.iconst 0, 1) := by decide +kernel
theorem dX10_allKnow_55 : decode cX10_allKnow 55 = .ok (.invokevirtual 145, 3) := by decide +kernel
theorem dX10_allKnow_58 : decode cX10_allKnow 58 = .ok (.if_icmp .ne 7, 3) := by decide +kernel
theorem dX10_allKnow_61 : decode cX10_allKnow 61 = .ok (.iconst 1, 1) := by decide +kernel
theorem dX10_allKnow_62 : decode cX10_allKnow 62 = .ok (.goto 4, 3) := by decide +kernel
theorem dX10_allKnow_65 : decode cX10_allKnow 65 = .ok (.iconst 0, 1) := by decide +kernel
theorem dX10_allKnow_66 : decode cX10_allKnow 66 = .ok (.istore_n 2, 1) := by decide +kernel
theorem dX10_allKnow_67 : decode cX10_allKnow 67 = .ok (.iinc 4 1, 3) := by decide +kernel
theorem dX10_allKnow_70 : decode cX10_allKnow 70 = .ok (.goto (-39), 3) := by decide +kernel
theorem dX10_allKnow_73 : decode cX10_allKnow 73 = .ok (.iinc 3 1, 3) := by decide +kernel
theorem dX10_allKnow_76 : decode cX10_allKnow 76 = .ok (.goto (-56), 3) := by decide +kernel
theorem dX10_allKnow_79 : decode cX10_allKnow 79 = .ok (.iload_n 2, 1) := by decide +kernel
theorem dX10_allKnow_80 : decode cX10_allKnow 80 = .ok (.ifCond .ne (-68), 3) := by decide +kernel
theorem dX10_allKnow_83 : decode cX10_allKnow 83 = .ok (.aload_n 0, 1) := by decide +kernel
theorem dX10_allKnow_84 : decode cX10_allKnow 84 = .ok (.invokevirtual 179, 3) := by decide +kernel
theorem dX10_allKnow_87 : decode cX10_allKnow 87 = .ok (.iinc 1 1, 3) := by decide +kernel
theorem dX10_allKnow_90 : decode cX10_allKnow 90 = .ok (.goto (-78), 3) := by decide +kernel
theorem dX10_allKnow_93 : decode cX10_allKnow 93 = .ok (.iload_n 1, 1) := by decide +kernel
theorem dX10_allKnow_94 : decode cX10_allKnow 94 = .ok (.ireturn, 1) := by decide +kernel
set_option maxRecDepth 20000 in
theorem ggX10_lasts_X10_in : GoodIn wsX10_lasts wsX10_in := goodIn_r _ [10] (by decide +kernel) (by decide +kernel)
set_option maxRecDepth 20000 in
theorem gX10_lasts_X10_in : GoodIn wsX10_lasts (va_wsS RX10 79 yX10_in wsX10_in) := goodIn_app (goodIn_of _ (by decide +kernel)) ggX10_lasts_X10_in
set_option maxRecDepth 20000 in
theorem ggX10_lasts_X10_from : GoodIn wsX10_lasts wsX10_from := goodIn_r _ [14, 6, 15, 16, 9, 17, 38, 39, 40, 41, 42, 43, 44, 45, 46, 47, 48, 49, 50, 51, 52, 53, 54, 55, 56, 57, 58, 59, 60, 61, 62] (by decide +kernel) (by decide +kernel)
set_option maxRecDepth 20000 in
theorem gX10_lasts_X10_from : GoodIn wsX10_lasts (wsV RX10 166 RX10 yX10_from wsX10_from) := goodIn_app (goodIn_of _ (by decide +kernel)) ggX10_lasts_X10_from
set_option maxRecDepth 20000 in
theorem ggX10_lasts_X10_asks : GoodIn wsX10_lasts wsX10_asks := goodIn_r _ [21, 6, 38, 39, 40, 41, 42, 43, 44, 45, 46, 47, 48, 49, 50, 51, 52, 53, 54, 55, 56, 57, 58, 59, 60, 61, 62] (by decide +kernel) (by decide +kernel)
set_option maxRecDepth 20000 in
theorem gX10_lasts_X10_asks : GoodIn wsX10_lasts (wsV RX10 159 RX10 yX10_asks wsX10_asks) := goodIn_app (goodIn_of _ (by decide +kernel)) ggX10_lasts_X10_asks
set_option maxRecDepth 20000 in
theorem ggX10_lasts_X10_goesToNoon : GoodIn wsX10_lasts wsX10_goesToNoon := goodIn_r _ [25, 6, 2, 26, 27, 28, 9, 29, 30, 31, 32, 33, 34, 35, 36, 37, 38, 39, 40, 41, 42, 43, 44, 45, 46, 47, 48, 49, 50, 51, 52, 53, 54, 55, 56, 57, 58, 59, 60, 61, 62] (by decide +kernel) (by decide +kernel)
set_option maxRecDepth 20000 in
theorem gX10_lasts_X10_goesToNoon : GoodIn wsX10_lasts (wsV RX10 179 RX10 yX10_goesToNoon wsX10_goesToNoon) := goodIn_app (goodIn_of _ (by decide +kernel)) ggX10_lasts_X10_goesToNoon
theorem dX10_lasts_0 : decode cX10_lasts 0 = .ok (.iload_n 1, 1) := by decide +kernel
theorem dX10_lasts_1 : decode cX10_lasts 1 = .ok (.iconst 0, 1) := by decide +kernel
theorem dX10_lasts_2 : decode cX10_lasts 2 = .ok (.bipush 9, 2) := by decide +kernel
theorem dX10_lasts_4 : decode cX10_lasts 4 = .ok (.invokestatic 79, 3) := by decide +kernel
theorem dX10_lasts_7 : decode cX10_lasts 7 = .ok (.ifCond .eq 22, 3) := by decide +kernel
theorem dX10_lasts_10 : decode cX10_lasts 10 = .ok (.iload_n 2, 1) := by decide +kernel
theorem dX10_lasts_11 : decode cX10_lasts 11 = .ok (.iconst 0, 1) := by decide +kernel
theorem dX10_lasts_12 : decode cX10_lasts 12 = .ok (.bipush 10, 2) := by decide +kernel
theorem dX10_lasts_14 : decode cX10_lasts 14 = .ok (.invokestatic 79, 3) := by decide +kernel
theorem dX10_lasts_17 : decode cX10_lasts 17 = .ok (.ifCond .eq 12, 3) := by decide +kernel
theorem dX10_lasts_20 : decode cX10_lasts 20 = .ok (.iload_n 3, 1) := by decide +kernel
theorem dX10_lasts_21 : decode cX10_lasts 21 = .ok (.iconst 0, 1) := by decide +kernel
theorem dX10_lasts_22 : decode cX10_lasts 22 = .ok (.iconst 1, 1) := by decide +kernel
theorem dX10_lasts_23 : decode cX10_lasts 23 = .ok (.invokestatic 79, 3) := by decide +kernel
theorem dX10_lasts_26 : decode cX10_lasts 26 = .ok (.ifCond .ne 7, 3) := by decide +kernel
theorem dX10_lasts_29 : decode cX10_lasts 29 = .ok (.ldc2_w 188, 3) := by decide +kernel
theorem dX10_lasts_32 : decode cX10_lasts 32 = .ok (.lreturn, 1) := by decide +kernel
theorem dX10_lasts_33 : decode cX10_lasts 33 = .ok (.iconst 0, 1) := by decide +kernel
theorem dX10_lasts_34 : decode cX10_lasts 34 = .ok (.istore 4, 2) := by decide +kernel
theorem dX10_lasts_36 : decode cX10_lasts 36 = .ok (.aload_n 0, 1) := by decide +kernel
theorem dX10_lasts_37 : decode cX10_lasts 37 = .ok (.getfield 76, 3) := by decide +kernel
theorem dX10_lasts_40 : decode cX10_lasts 40 = .ok (.iconst 1, 1) := by decide +kernel
theorem dX10_lasts_41 : decode cX10_lasts 41 = .ok (.isub, 1) := by decide +kernel
theorem dX10_lasts_42 : decode cX10_lasts 42 = .ok (.istore 5, 2) := by decide +kernel
theorem dX10_lasts_44 : decode cX10_lasts 44 = .ok (.iload 5, 2) := by decide +kernel
theorem dX10_lasts_46 : decode cX10_lasts 46 = .ok (.ifCond .lt 31, 3) := by decide +kernel
theorem dX10_lasts_49 : decode cX10_lasts 49 = .ok (.aload_n 0, 1) := by decide +kernel
theorem dX10_lasts_50 : decode cX10_lasts 50 = .ok (.getfield 7, 3) := by decide +kernel
theorem dX10_lasts_53 : decode cX10_lasts 53 = .ok (.iconst 3, 1) := by decide +kernel
theorem dX10_lasts_54 : decode cX10_lasts 54 = .ok (.iload 5, 2) := by decide +kernel
theorem dX10_lasts_56 : decode cX10_lasts 56 = .ok (.imul, 1) := by decide +kernel
theorem dX10_lasts_57 : decode cX10_lasts 57 = .ok (.iaload, 1) := by decide +kernel
theorem dX10_lasts_58 : decode cX10_lasts 58 = .ok (.iconst 3, 1) := by decide +kernel
theorem dX10_lasts_59 : decode cX10_lasts 59 = .ok (.if_icmp .ne 8, 3) := by decide +kernel
theorem dX10_lasts_62 : decode cX10_lasts 62 = .ok (.iload 5, 2) := by decide +kernel
theorem dX10_lasts_64 : decode cX10_lasts 64 = .ok (.goto 5, 3) := by decide +kernel
theorem dX10_lasts_67 : decode cX10_lasts 67 = .ok (.iload 4, 2) := by decide +kernel
theorem dX10_lasts_69 : decode cX10_lasts 69 = .ok (.istore 4, 2) := by decide +kernel
theorem dX10_lasts_71 : decode cX10_lasts 71 = .ok (.iinc 5 (-1), 3) := by decide +kernel
theorem dX10_lasts_74 : decode cX10_lasts 74 = .ok (.goto (-30), 3) := by decide +kernel
theorem dX10_lasts_77 : decode cX10_lasts 77 = .ok (.lconst 0, 1) := by decide +kernel
theorem dX10_lasts_78 : decode cX10_lasts 78 = .ok (.lstore 5, 2) := by decide +kernel
theorem dX10_lasts_80 : decode cX10_lasts 80 = .ok (.lconst 1, 1) := by decide +kernel
theorem dX10_lasts_81 : decode cX10_lasts 81 = .ok (.lstore 7, 2) := by decide +kernel
theorem dX10_lasts_83 : decode cX10_lasts 83 = .ok (.iconst 0, 1) := by decide +kernel
theorem dX10_lasts_84 : decode cX10_lasts 84 = .ok (.istore 9, 2) := by decide +kernel
theorem dX10_lasts_86 : decode cX10_lasts 86 = .ok (.iload 9, 2) := by decide +kernel
theorem dX10_lasts_88 : decode cX10_lasts 88 = .ok (.iload_n 1, 1) := by decide +kernel
theorem dX10_lasts_89 : decode cX10_lasts 89 = .ok (.if_icmp .ge 17, 3) := by decide +kernel
theorem dX10_lasts_92 : decode cX10_lasts 92 = .ok (.lload 7, 2) := by decide +kernel
theorem dX10_lasts_94 : decode cX10_lasts 94 = .ok (.ldc2_w 190, 3) := by decide +kernel
theorem dX10_lasts_97 : decode cX10_lasts 97 = .ok (.lmul, 1) := by decide +kernel
theorem dX10_lasts_98 : decode cX10_lasts 98 = .ok (.lstore 7, 2) := by decide +kernel
theorem dX10_lasts_100 : decode cX10_lasts 100 = .ok (.iinc 9 1, 3) := by decide +kernel
theorem dX10_lasts_103 : decode cX10_lasts 103 = .ok (.goto (-17), 3) := by decide +kernel
theorem dX10_lasts_106 : decode cX10_lasts 106 = .ok (.iconst 0, 1) := by decide +kernel
theorem dX10_lasts_107 : decode cX10_lasts 107 = .ok (.istore 9, 2) := by decide +kernel
theorem dX10_lasts_109 : decode cX10_lasts 109 = .ok (.iload 9, 2) := by decide +kernel
theorem dX10_lasts_111 : decode cX10_lasts 111 = .ok (.iconst 1, 1) := by decide +kernel
theorem dX10_lasts_112 : decode cX10_lasts 112 = .ok (.iload_n 1, 1) := by decide +kernel
theorem dX10_lasts_113 : decode cX10_lasts 113 = .ok (.ishl, 1) := by decide +kernel
theorem dX10_lasts_114 : decode cX10_lasts 114 = .ok (.if_icmp .ge 114, 3) := by decide +kernel
theorem dX10_lasts_117 : decode cX10_lasts 117 = .ok (.lconst 1, 1) := by decide +kernel
theorem dX10_lasts_118 : decode cX10_lasts 118 = .ok (.lstore 10, 2) := by decide +kernel
theorem dX10_lasts_120 : decode cX10_lasts 120 = .ok (.aload_n 0, 1) := by decide +kernel
theorem dX10_lasts_121 : decode cX10_lasts 121 = .ok (.aload_n 0, 1) := by decide +kernel
theorem dX10_lasts_122 : decode cX10_lasts 122 = .ok (.getfield 16, 3) := by decide +kernel
theorem dX10_lasts_125 : decode cX10_lasts 125 = .ok (.invokevirtual 166, 3) := by decide +kernel
theorem dX10_lasts_128 : decode cX10_lasts 128 = .ok (.iconst 0, 1) := by decide +kernel
theorem dX10_lasts_129 : decode cX10_lasts 129 = .ok (.istore 12, 2) := by decide +kernel
theorem dX10_lasts_131 : decode cX10_lasts 131 = .ok (.iload 12, 2) := by decide +kernel
theorem dX10_lasts_133 : decode cX10_lasts 133 = .ok (.iload_n 1, 1) := by decide +kernel
theorem dX10_lasts_134 : decode cX10_lasts 134 = .ok (.if_icmp .ge 62, 3) := by decide +kernel
theorem dX10_lasts_137 : decode cX10_lasts 137 = .ok (.iload 9, 2) := by decide +kernel
theorem dX10_lasts_139 : decode cX10_lasts 139 = .ok (.iload 12, 2) := by decide +kernel
theorem dX10_lasts_141 : decode cX10_lasts 141 = .ok (.ishr, 1) := by decide +kernel
theorem dX10_lasts_142 : decode cX10_lasts 142 = .ok (.iconst 1, 1) := by decide +kernel
theorem dX10_lasts_143 : decode cX10_lasts 143 = .ok (.iand, 1) := by decide +kernel
theorem dX10_lasts_144 : decode cX10_lasts 144 = .ok (.iconst 1, 1) := by decide +kernel
theorem dX10_lasts_145 : decode cX10_lasts 145 = .ok (.if_icmp .ne 7, 3) := by decide +kernel
theorem dX10_lasts_148 : decode cX10_lasts 148 = .ok (.iconst 1, 1) := by decide +kernel
theorem dX10_lasts_149 : decode cX10_lasts 149 = .ok (.goto 4, 3) := by decide +kernel
theorem dX10_lasts_152 : decode cX10_lasts 152 = .ok (.iconst 0, 1) := by decide +kernel
theorem dX10_lasts_153 : decode cX10_lasts 153 = .ok (.istore 13, 2) := by decide +kernel
theorem dX10_lasts_155 : decode cX10_lasts 155 = .ok (.lload 10, 2) := by decide +kernel
theorem dX10_lasts_157 : decode cX10_lasts 157 = .ok (.iload 13, 2) := by decide +kernel
theorem dX10_lasts_159 : decode cX10_lasts 159 = .ok (.ifCond .eq 8, 3) := by decide +kernel
theorem dX10_lasts_162 : decode cX10_lasts 162 = .ok (.iload_n 2, 1) := by decide +kernel
theorem dX10_lasts_163 : decode cX10_lasts 163 = .ok (.i2l, 1) := by decide +kernel
theorem dX10_lasts_164 : decode cX10_lasts 164 = .ok (.goto 8, 3) := by decide +kernel
theorem dX10_lasts_167 : decode cX10_lasts 167 = .ok (.bipush 10, 2) := by decide +kernel
theorem dX10_lasts_169 : decode cX10_lasts 169 = .ok (.iload_n 2, 1) := by decide +kernel
theorem dX10_lasts_170 : decode cX10_lasts 170 = .ok (.isub, 1) := by decide +kernel
theorem dX10_lasts_171 : decode cX10_lasts 171 = .ok (.i2l, 1) := by decide +kernel
theorem dX10_lasts_172 : decode cX10_lasts 172 = .ok (.lmul, 1) := by decide +kernel
theorem dX10_lasts_173 : decode cX10_lasts 173 = .ok (.lstore 10, 2) := by decide +kernel
theorem dX10_lasts_175 : decode cX10_lasts 175 = .ok (.iload 13, 2) := by decide +kernel
theorem dX10_lasts_177 : decode cX10_lasts 177 = .ok (.ifCond .eq 9, 3) := by decide +kernel
theorem dX10_lasts_180 : decode cX10_lasts 180 = .ok (.aload_n 0, 1) := by decide +kernel
theorem dX10_lasts_181 : decode cX10_lasts 181 = .ok (.iload 4, 2) := by decide +kernel
theorem dX10_lasts_183 : decode cX10_lasts 183 = .ok (.invokevirtual 159, 3) := by decide +kernel
theorem dX10_lasts_186 : decode cX10_lasts 186 = .ok (.aload_n 0, 1) := by decide +kernel
theorem dX10_lasts_187 : decode cX10_lasts 187 = .ok (.invokevirtual 179, 3) := by decide +kernel
theorem dX10_lasts_190 : decode cX10_lasts 190 = .ok (.iinc 12 1, 3) := by decide +kernel
theorem dX10_lasts_193 : decode cX10_lasts 193 = .ok (.goto (-62), 3) := by decide +kernel
theorem dX10_lasts_196 : decode cX10_lasts 196 = .ok (.lload 5, 2) := by decide +kernel
theorem dX10_lasts_198 : decode cX10_lasts 198 = .ok (.aload_n 0, 1) := by decide +kernel
theorem dX10_lasts_199 : decode cX10_lasts 199 = .ok (.getfield 43, 3) := by decide +kernel
theorem dX10_lasts_202 : decode cX10_lasts 202 = .ok (.iconst 1, 1) := by decide +kernel
theorem dX10_lasts_203 : decode cX10_lasts 203 = .ok (.iaload, 1) := by decide +kernel
theorem dX10_lasts_204 : decode cX10_lasts 204 = .ok (.aload_n 0, 1) := by decide +kernel
theorem dX10_lasts_205 : decode cX10_lasts 205 = .ok (.getfield 16, 3) := by decide +kernel
theorem dX10_lasts_208 : decode cX10_lasts 208 = .ok (.iconst 1, 1) := by decide +kernel
theorem dX10_lasts_209 : decode cX10_lasts 209 = .ok (.iaload, 1) := by decide +kernel
theorem dX10_lasts_210 : decode cX10_lasts 210 = .ok (.if_icmp .ne 8, 3) := by decide +kernel
theorem dX10_lasts_213 : decode cX10_lasts 213 = .ok (.lload 10, 2) := by decide +kernel
theorem dX10_lasts_215 : decode cX10_lasts 215 = .ok (.goto 4, 3) := by decide +kernel
theorem dX10_lasts_218 : decode cX10_lasts 218 = .ok (.lconst 0, 1) := by decide +kernel
theorem dX10_lasts_219 : decode cX10_lasts 219 = .ok (.ladd, 1) := by decide +kernel
theorem dX10_lasts_220 : decode cX10_lasts 220 = .ok (.lstore 5, 2) := by decide +kernel
theorem dX10_lasts_222 : decode cX10_lasts 222 = .ok (.iinc 9 1, 3) := by decide +kernel
theorem dX10_lasts_225 : decode cX10_lasts 225 = .ok (.goto (-116), 3) := by decide +kernel
theorem dX10_lasts_228 : decode cX10_lasts 228 = .ok (.lload 5, 2) := by decide +kernel
theorem dX10_lasts_230 : decode cX10_lasts 230 = .ok (.lstore 9, 2) := by decide +kernel
theorem dX10_lasts_232 : decode cX10_lasts 232 = .ok (.lload 7, 2) := by decide +kernel
theorem dX10_lasts_234 : decode cX10_lasts 234 = .ok (.lstore 11, 2) := by decide +kernel
theorem dX10_lasts_236 : decode cX10_lasts 236 = .ok (.lload 11, 2) := by decide +kernel
theorem dX10_lasts_238 : decode cX10_lasts 238 = .ok (.lconst 0, 1) := by decide +kernel
theorem dX10_lasts_239 : decode cX10_lasts 239 = .ok (.lcmp, 1) := by decide +kernel
theorem dX10_lasts_240 : decode cX10_lasts 240 = .ok (.ifCond .le 21, 3) := by decide +kernel
theorem dX10_lasts_243 : decode cX10_lasts 243 = .ok (.lload 9, 2) := by decide +kernel
theorem dX10_lasts_245 : decode cX10_lasts 245 = .ok (.lload 11, 2) := by decide +kernel
theorem dX10_lasts_247 : decode cX10_lasts 247 = .ok (.lrem, 1) := by decide +kernel
theorem dX10_lasts_248 : decode cX10_lasts 248 = .ok (.lstore 13, 2) := by decide +kernel
theorem dX10_lasts_250 : decode cX10_lasts 250 = .ok (.lload 11, 2) := by decide +kernel
theorem dX10_lasts_252 : decode cX10_lasts 252 = .ok (.lstore 9, 2) := by decide +kernel
theorem dX10_lasts_254 : decode cX10_lasts 254 = .ok (.lload 13, 2) := by decide +kernel
theorem dX10_lasts_256 : decode cX10_lasts 256 = .ok (.lstore 11, 2) := by decide +kernel
theorem dX10_lasts_258 : decode cX10_lasts 258 = .ok (.goto (-22), 3) := by decide +kernel
theorem dX10_lasts_261 : decode cX10_lasts 261 = .ok (.iload_n 3, 1) := by decide +kernel
theorem dX10_lasts_262 : decode cX10_lasts 262 = .ok (.ifCond .ne 8, 3) := by decide +kernel
theorem dX10_lasts_265 : decode cX10_lasts 265 = .ok (.lload 5, 2) := by decide +kernel
theorem dX10_lasts_267 : decode cX10_lasts 267 = .ok (.goto 5, 3) := by decide +kernel
theorem dX10_lasts_270 : decode cX10_lasts 270 = .ok (.lload 7, 2) := by decide +kernel
theorem dX10_lasts_272 : decode cX10_lasts 272 = .ok (.lload 9, 2) := by decide +kernel
theorem dX10_lasts_274 : decode cX10_lasts 274 = .ok (.ldiv, 1) := by decide +kernel
theorem dX10_lasts_275 : decode cX10_lasts 275 = .ok (.lreturn, 1) := by decide +kernel
set_option maxRecDepth 20000 in
theorem ggX10_year_X10_in : GoodIn wsX10_year wsX10_in := goodIn_r _ [12] (by decide +kernel) (by decide +kernel)
set_option maxRecDepth 20000 in
theorem gX10_year_X10_in : GoodIn wsX10_year (va_wsS RX10 79 yX10_in wsX10_in) := goodIn_app (goodIn_of _ (by decide +kernel)) ggX10_year_X10_in
set_option maxRecDepth 20000 in
theorem ggX10_year_X10_from : GoodIn wsX10_year wsX10_from := goodIn_r _ [16, 8, 17, 18, 11, 19, 54, 55, 56, 57, 58, 59, 60, 61, 62, 63, 64, 65, 66, 67, 68, 69, 70, 71, 72, 73, 74, 75, 76, 77, 78] (by decide +kernel) (by decide +kernel)
set_option maxRecDepth 20000 in
theorem gX10_year_X10_from : GoodIn wsX10_year (wsV RX10 166 RX10 yX10_from wsX10_from) := goodIn_app (goodIn_of _ (by decide +kernel)) ggX10_year_X10_from
set_option maxRecDepth 20000 in
theorem ggX10_year_X10_saysIt : GoodIn wsX10_year wsX10_saysIt := goodIn_r _ [23, 8, 24, 25, 26, 11, 27, 28, 29, 30, 31, 32, 33, 34, 35, 36, 37, 54, 55, 56, 57, 58, 59, 60, 61, 62, 63, 64, 65, 66, 67, 68, 69, 70, 71, 72, 73, 74, 75, 76, 77, 78] (by decide +kernel) (by decide +kernel)
set_option maxRecDepth 20000 in
theorem gX10_year_X10_saysIt : GoodIn wsX10_year (wsV RX10 176 RX10 yX10_saysIt wsX10_saysIt) := goodIn_app (goodIn_of _ (by decide +kernel)) ggX10_year_X10_saysIt
set_option maxRecDepth 20000 in
theorem ggX10_year_X10_goesToNoon : GoodIn wsX10_year wsX10_goesToNoon := goodIn_r _ [41, 8, 6, 42, 43, 44, 11, 45, 46, 47, 48, 49, 50, 51, 52, 53, 54, 55, 56, 57, 58, 59, 60, 61, 62, 63, 64, 65, 66, 67, 68, 69, 70, 71, 72, 73, 74, 75, 76, 77, 78] (by decide +kernel) (by decide +kernel)
set_option maxRecDepth 20000 in
theorem gX10_year_X10_goesToNoon : GoodIn wsX10_year (wsV RX10 179 RX10 yX10_goesToNoon wsX10_goesToNoon) := goodIn_app (goodIn_of _ (by decide +kernel)) ggX10_year_X10_goesToNoon
theorem dX10_year_0 : decode cX10_year 0 = .ok (.iload_n 1, 1) := by decide +kernel
theorem dX10_year_1 : decode cX10_year 1 = .ok (.iconst 0, 1) := by decide +kernel
theorem dX10_year_2 : decode cX10_year 2 = .ok (.sipush 9999, 3) := by decide +kernel
theorem dX10_year_5 : decode cX10_year 5 = .ok (.invokestatic 79, 3) := by decide +kernel
theorem dX10_year_8 : decode cX10_year 8 = .ok (.ifCond .eq 22, 3) := by decide +kernel
theorem dX10_year_11 : decode cX10_year 11 = .ok (.iload_n 2, 1) := by decide +kernel
theorem dX10_year_12 : decode cX10_year 12 = .ok (.iconst 1, 1) := by decide +kernel
theorem dX10_year_13 : decode cX10_year 13 = .ok (.bipush 99, 2) := by decide +kernel
theorem dX10_year_15 : decode cX10_year 15 = .ok (.invokestatic 79, 3) := by decide +kernel
theorem dX10_year_18 : decode cX10_year 18 = .ok (.ifCond .eq 12, 3) := by decide +kernel
theorem dX10_year_21 : decode cX10_year 21 = .ok (.iload_n 3, 1) := by decide +kernel
theorem dX10_year_22 : decode cX10_year 22 = .ok (.iconst 0, 1) := by decide +kernel
theorem dX10_year_23 : decode cX10_year 23 = .ok (.iconst 1, 1) := by decide +kernel
theorem dX10_year_24 : decode cX10_year 24 = .ok (.invokestatic 79, 3) := by decide +kernel
theorem dX10_year_27 : decode cX10_year 27 = .ok (.ifCond .ne 5, 3) := by decide +kernel
theorem dX10_year_30 : decode cX10_year 30 = .ok (.iconst (-1), 1) := by decide +kernel
theorem dX10_year_31 : decode cX10_year 31 = .ok (.ireturn, 1) := by decide +kernel
theorem dX10_year_32 : decode cX10_year 32 = .ok (.aload_n 0, 1) := by decide +kernel
theorem dX10_year_33 : decode cX10_year 33 = .ok (.aload_n 0, 1) := by decide +kernel
theorem dX10_year_34 : decode cX10_year 34 = .ok (.getfield 16, 3) := by decide +kernel
theorem dX10_year_37 : decode cX10_year 37 = .ok (.invokevirtual 166, 3) := by decide +kernel
theorem dX10_year_40 : decode cX10_year 40 = .ok (.iconst 0, 1) := by decide +kernel
theorem dX10_year_41 : decode cX10_year 41 = .ok (.istore 4, 2) := by decide +kernel
theorem dX10_year_43 : decode cX10_year 43 = .ok (.iconst 0, 1) := by decide +kernel
theorem dX10_year_44 : decode cX10_year 44 = .ok (.istore 5, 2) := by decide +kernel
theorem dX10_year_46 : decode cX10_year 46 = .ok (.iload 5, 2) := by decide +kernel
theorem dX10_year_48 : decode cX10_year 48 = .ok (.iload_n 2, 1) := by decide +kernel
theorem dX10_year_49 : decode cX10_year 49 = .ok (.if_icmp .ge 108, 3) := by decide +kernel
theorem dX10_year_52 : decode cX10_year 52 = .ok (.ldc2_w 192, 3) := by decide +kernel
theorem dX10_year_55 : decode cX10_year 55 = .ok (.iload_n 1, 1) := by decide +kernel
theorem dX10_year_56 : decode cX10_year 56 = .ok (.i2l, 1) := by decide +kernel
theorem dX10_year_57 : decode cX10_year 57 = .ok (.lmul, 1) := by decide +kernel
theorem dX10_year_58 : decode cX10_year 58 = .ok (.ldc2_w 194, 3) := by decide +kernel
theorem dX10_year_61 : decode cX10_year 61 = .ok (.iload 5, 2) := by decide +kernel
theorem dX10_year_63 : decode cX10_year 63 = .ok (.i2l, 1) := by decide +kernel
theorem dX10_year_64 : decode cX10_year 64 = .ok (.lmul, 1) := by decide +kernel
theorem dX10_year_65 : decode cX10_year 65 = .ok (.ladd, 1) := by decide +kernel
theorem dX10_year_66 : decode cX10_year 66 = .ok (.lconst 1, 1) := by decide +kernel
theorem dX10_year_67 : decode cX10_year 67 = .ok (.ladd, 1) := by decide +kernel
theorem dX10_year_68 : decode cX10_year 68 = .ok (.lstore 6, 2) := by decide +kernel
theorem dX10_year_70 : decode cX10_year 70 = .ok (.lload 6, 2) := by decide +kernel
theorem dX10_year_72 : decode cX10_year 72 = .ok (.lload 6, 2) := by decide +kernel
theorem dX10_year_74 : decode cX10_year 74 = .ok (.lmul, 1) := by decide +kernel
theorem dX10_year_75 : decode cX10_year 75 = .ok (.ldc2_w 196, 3) := by decide +kernel
theorem dX10_year_78 : decode cX10_year 78 = .ok (.lrem, 1) := by decide +kernel
theorem dX10_year_79 : decode cX10_year 79 = .ok (.ldc2_w 198, 3) := by decide +kernel
theorem dX10_year_82 : decode cX10_year 82 = .ok (.ldiv, 1) := by decide +kernel
theorem dX10_year_83 : decode cX10_year 83 = .ok (.l2i, 1) := by decide +kernel
theorem dX10_year_84 : decode cX10_year 84 = .ok (.istore 8, 2) := by decide +kernel
theorem dX10_year_86 : decode cX10_year 86 = .ok (.iload 8, 2) := by decide +kernel
theorem dX10_year_88 : decode cX10_year 88 = .ok (.bipush 64, 2) := by decide +kernel
theorem dX10_year_90 : decode cX10_year 90 = .ok (.idiv, 1) := by decide +kernel
theorem dX10_year_91 : decode cX10_year 91 = .ok (.iconst 3, 1) := by decide +kernel
theorem dX10_year_92 : decode cX10_year 92 = .ok (.irem, 1) := by decide +kernel
theorem dX10_year_93 : decode cX10_year 93 = .ok (.ifCond .ne 25, 3) := by decide +kernel
theorem dX10_year_96 : decode cX10_year 96 = .ok (.aload_n 0, 1) := by decide +kernel
theorem dX10_year_97 : decode cX10_year 97 = .ok (.iload 8, 2) := by decide +kernel
theorem dX10_year_99 : decode cX10_year 99 = .ok (.aload_n 0, 1) := by decide +kernel
theorem dX10_year_100 : decode cX10_year 100 = .ok (.getfield 76, 3) := by decide +kernel
theorem dX10_year_103 : decode cX10_year 103 = .ok (.irem, 1) := by decide +kernel
theorem dX10_year_104 : decode cX10_year 104 = .ok (.iload 8, 2) := by decide +kernel
theorem dX10_year_106 : decode cX10_year 106 = .ok (.bipush 8, 2) := by decide +kernel
theorem dX10_year_108 : decode cX10_year 108 = .ok (.idiv, 1) := by decide +kernel
theorem dX10_year_109 : decode cX10_year 109 = .ok (.aload_n 0, 1) := by decide +kernel
theorem dX10_year_110 : decode cX10_year 110 = .ok (.getfield 123, 3) := by decide +kernel
theorem dX10_year_113 : decode cX10_year 113 = .ok (.irem, 1) := by decide +kernel
theorem dX10_year_114 : decode cX10_year 114 = .ok (.invokevirtual 176, 3) := by decide +kernel
theorem dX10_year_117 : decode cX10_year 117 = .ok (.pop, 1) := by decide +kernel
theorem dX10_year_118 : decode cX10_year 118 = .ok (.aload_n 0, 1) := by decide +kernel
theorem dX10_year_119 : decode cX10_year 119 = .ok (.getfield 43, 3) := by decide +kernel
theorem dX10_year_122 : decode cX10_year 122 = .ok (.iconst 1, 1) := by decide +kernel
theorem dX10_year_123 : decode cX10_year 123 = .ok (.iaload, 1) := by decide +kernel
theorem dX10_year_124 : decode cX10_year 124 = .ok (.istore 9, 2) := by decide +kernel
theorem dX10_year_126 : decode cX10_year 126 = .ok (.aload_n 0, 1) := by decide +kernel
theorem dX10_year_127 : decode cX10_year 127 = .ok (.invokevirtual 179, 3) := by decide +kernel
theorem dX10_year_130 : decode cX10_year 130 = .ok (.iload 4, 2) := by decide +kernel
theorem dX10_year_132 : decode cX10_year 132 = .ok (.aload_n 0, 1) := by decide +kernel
theorem dX10_year_133 : decode cX10_year 133 = .ok (.getfield 43, 3) := by decide +kernel
theorem dX10_year_136 : decode cX10_year 136 = .ok (.iconst 1, 1) := by decide +kernel
theorem dX10_year_137 : decode cX10_year 137 = .ok (.iaload, 1) := by decide +kernel
theorem dX10_year_138 : decode cX10_year 138 = .ok (.iload 9, 2) := by decide +kernel
theorem dX10_year_140 : decode cX10_year 140 = .ok (.if_icmp .ne 7, 3) := by decide +kernel
theorem dX10_year_143 : decode cX10_year 143 = .ok (.iconst 0, 1) := by decide +kernel
theorem dX10_year_144 : decode cX10_year 144 = .ok (.goto 4, 3) := by decide +kernel
theorem dX10_year_147 : decode cX10_year 147 = .ok (.iconst 1, 1) := by decide +kernel
theorem dX10_year_148 : decode cX10_year 148 = .ok (.iadd, 1) := by decide +kernel
theorem dX10_year_149 : decode cX10_year 149 = .ok (.istore 4, 2) := by decide +kernel
theorem dX10_year_151 : decode cX10_year 151 = .ok (.iinc 5 1, 3) := by decide +kernel
theorem dX10_year_154 : decode cX10_year 154 = .ok (.goto (-108), 3) := by decide +kernel
theorem dX10_year_157 : decode cX10_year 157 = .ok (.iload_n 3, 1) := by decide +kernel
theorem dX10_year_158 : decode cX10_year 158 = .ok (.iconst 1, 1) := by decide +kernel
theorem dX10_year_159 : decode cX10_year 159 = .ok (.if_icmp .ne 8, 3) := by decide +kernel
theorem dX10_year_162 : decode cX10_year 162 = .ok (.iload 4, 2) := by decide +kernel
theorem dX10_year_164 : decode cX10_year 164 = .ok (.goto 23, 3) := by decide +kernel
theorem dX10_year_167 : decode cX10_year 167 = .ok (.aload_n 0, 1) := by decide +kernel
theorem dX10_year_168 : decode cX10_year 168 = .ok (.getfield 43, 3) := by decide +kernel
theorem dX10_year_171 : decode cX10_year 171 = .ok (.iconst 1, 1) := by decide +kernel
theorem dX10_year_172 : decode cX10_year 172 = .ok (.iaload, 1) := by decide +kernel
theorem dX10_year_173 : decode cX10_year 173 = .ok (.ifCond .ge 8, 3) := by decide +kernel
theorem dX10_year_176 : decode cX10_year 176 = .ok (.bipush (-4), 2) := by decide +kernel
theorem dX10_year_178 : decode cX10_year 178 = .ok (.goto 9, 3) := by decide +kernel
theorem dX10_year_181 : decode cX10_year 181 = .ok (.aload_n 0, 1) := by decide +kernel
theorem dX10_year_182 : decode cX10_year 182 = .ok (.getfield 43, 3) := by decide +kernel
theorem dX10_year_185 : decode cX10_year 185 = .ok (.iconst 1, 1) := by decide +kernel
theorem dX10_year_186 : decode cX10_year 186 = .ok (.iaload, 1) := by decide +kernel
theorem dX10_year_187 : decode cX10_year 187 = .ok (.ireturn, 1) := by decide +kernel
set_option maxRecDepth 20000 in
theorem ggX10_keep_X10_put : GoodIn wsX10_keep wsX10_put := goodIn_r _ [7] (by decide +kernel) (by decide +kernel)
set_option maxRecDepth 20000 in
theorem gX10_keep_X10_put : GoodIn wsX10_keep (va_wsS RX10 129 yX10_put wsX10_put) := goodIn_app (goodIn_of _ (by decide +kernel)) ggX10_keep_X10_put
theorem dX10_keep_0 : decode cX10_keep 0 = .ok (.aload_n 0, 1) := by decide +kernel
theorem dX10_keep_1 : decode cX10_keep 1 = .ok (.getfield 136, 3) := by decide +kernel
theorem dX10_keep_4 : decode cX10_keep 4 = .ok (.iconst 2, 1) := by decide +kernel
theorem dX10_keep_5 : decode cX10_keep 5 = .ok (.if_icmp .ne 6, 3) := by decide +kernel
theorem dX10_keep_8 : decode cX10_keep 8 = .ok (.bipush (-3), 2) := by decide +kernel
theorem dX10_keep_10 : decode cX10_keep 10 = .ok (.ireturn, 1) := by decide +kernel
theorem dX10_keep_11 : decode cX10_keep 11 = .ok (.aload_n 0, 1) := by decide +kernel
theorem dX10_keep_12 : decode cX10_keep 12 = .ok (.getfield 25, 3) := by decide +kernel
theorem dX10_keep_15 : decode cX10_keep 15 = .ok (.bipush 72, 2) := by decide +kernel
theorem dX10_keep_17 : decode cX10_keep 17 = .ok (.aload_n 0, 1) := by decide +kernel
theorem dX10_keep_18 : decode cX10_keep 18 = .ok (.getfield 136, 3) := by decide +kernel
theorem dX10_keep_21 : decode cX10_keep 21 = .ok (.imul, 1) := by decide +kernel
theorem dX10_keep_22 : decode cX10_keep 22 = .ok (.aload_n 0, 1) := by decide +kernel
theorem dX10_keep_23 : decode cX10_keep 23 = .ok (.getfield 16, 3) := by decide +kernel
theorem dX10_keep_26 : decode cX10_keep 26 = .ok (.bipush 72, 2) := by decide +kernel
theorem dX10_keep_28 : decode cX10_keep 28 = .ok (.invokestatic 129, 3) := by decide +kernel
theorem dX10_keep_31 : decode cX10_keep 31 = .ok (.aload_n 0, 1) := by decide +kernel
theorem dX10_keep_32 : decode cX10_keep 32 = .ok (.dup, 1) := by decide +kernel
theorem dX10_keep_33 : decode cX10_keep 33 = .ok (.getfield 136, 3) := by decide +kernel
theorem dX10_keep_36 : decode cX10_keep 36 = .ok (.iconst 1, 1) := by decide +kernel
theorem dX10_keep_37 : decode cX10_keep 37 = .ok (.iadd, 1) := by decide +kernel
theorem dX10_keep_38 : decode cX10_keep 38 = .ok (.putfield 136, 3) := by decide +kernel
theorem dX10_keep_41 : decode cX10_keep 41 = .ok (.aload_n 0, 1) := by decide +kernel
theorem dX10_keep_42 : decode cX10_keep 42 = .ok (.getfield 136, 3) := by decide +kernel
theorem dX10_keep_45 : decode cX10_keep 45 = .ok (.ireturn, 1) := by decide +kernel
theorem dX10_back_0 : decode cX10_back 0 = .ok (.aload_n 0, 1) := by decide +kernel
theorem dX10_back_1 : decode cX10_back 1 = .ok (.getfield 136, 3) := by decide +kernel
theorem dX10_back_4 : decode cX10_back 4 = .ok (.ifCond .ne 6, 3) := by decide +kernel
theorem dX10_back_7 : decode cX10_back 7 = .ok (.bipush (-2), 2) := by decide +kernel
theorem dX10_back_9 : decode cX10_back 9 = .ok (.ireturn, 1) := by decide +kernel
theorem dX10_back_10 : decode cX10_back 10 = .ok (.aload_n 0, 1) := by decide +kernel
theorem dX10_back_11 : decode cX10_back 11 = .ok (.dup, 1) := by decide +kernel
theorem dX10_back_12 : decode cX10_back 12 = .ok (.getfield 136, 3) := by decide +kernel
theorem dX10_back_15 : decode cX10_back 15 = .ok (.iconst 1, 1) := by decide +kernel
theorem dX10_back_16 : decode cX10_back 16 = .ok (.isub, 1) := by decide +kernel
theorem dX10_back_17 : decode cX10_back 17 = .ok (.putfield 136, 3) := by decide +kernel
theorem dX10_back_20 : decode cX10_back 20 = .ok (.iconst 0, 1) := by decide +kernel
theorem dX10_back_21 : decode cX10_back 21 = .ok (.istore_n 1, 1) := by decide +kernel
theorem dX10_back_22 : decode cX10_back 22 = .ok (.iload_n 1, 1) := by decide +kernel
theorem dX10_back_23 : decode cX10_back 23 = .ok (.bipush 72, 2) := by decide +kernel
theorem dX10_back_25 : decode cX10_back 25 = .ok (.if_icmp .ge 29, 3) := by decide +kernel
theorem dX10_back_28 : decode cX10_back 28 = .ok (.aload_n 0, 1) := by decide +kernel
theorem dX10_back_29 : decode cX10_back 29 = .ok (.getfield 16, 3) := by decide +kernel
theorem dX10_back_32 : decode cX10_back 32 = .ok (.iload_n 1, 1) := by decide +kernel
theorem dX10_back_33 : decode cX10_back 33 = .ok (.aload_n 0, 1) := by decide +kernel
theorem dX10_back_34 : decode cX10_back 34 = .ok (.getfield 25, 3) := by decide +kernel
theorem dX10_back_37 : decode cX10_back 37 = .ok (.bipush 72, 2) := by decide +kernel
theorem dX10_back_39 : decode cX10_back 39 = .ok (.aload_n 0, 1) := by decide +kernel
theorem dX10_back_40 : decode cX10_back 40 = .ok (.getfield 136, 3) := by decide +kernel
theorem dX10_back_43 : decode cX10_back 43 = .ok (.imul, 1) := by decide +kernel
theorem dX10_back_44 : decode cX10_back 44 = .ok (.iload_n 1, 1) := by decide +kernel
theorem dX10_back_45 : decode cX10_back 45 = .ok (.iadd, 1) := by decide +kernel
theorem dX10_back_46 : decode cX10_back 46 = .ok (.iaload, 1) := by decide +kernel
theorem dX10_back_47 : decode cX10_back 47 = .ok (.iastore, 1) := by decide +kernel
theorem dX10_back_48 : decode cX10_back 48 = .ok (.iinc 1 1, 3) := by decide +kernel
theorem dX10_back_51 : decode cX10_back 51 = .ok (.goto (-29), 3) := by decide +kernel
theorem dX10_back_54 : decode cX10_back 54 = .ok (.aload_n 0, 1) := by decide +kernel
theorem dX10_back_55 : decode cX10_back 55 = .ok (.iconst 0, 1) := by decide +kernel
theorem dX10_back_56 : decode cX10_back 56 = .ok (.putfield 133, 3) := by decide +kernel
theorem dX10_back_59 : decode cX10_back 59 = .ok (.aload_n 0, 1) := by decide +kernel
theorem dX10_back_60 : decode cX10_back 60 = .ok (.getfield 136, 3) := by decide +kernel
theorem dX10_back_63 : decode cX10_back 63 = .ok (.ireturn, 1) := by decide +kernel
theorem dX10_count_0 : decode cX10_count 0 = .ok (.iload_n 1, 1) := by decide +kernel
theorem dX10_count_1 : decode cX10_count 1 = .ok (.tableswitch 124 0 10 #[59, 64, 69, 76, 81, 88, 97, 102, 107, 112, 117], 59) := by decide +kernel
theorem dX10_count_60 : decode cX10_count 60 = .ok (.aload_n 0, 1) := by decide +kernel
theorem dX10_count_61 : decode cX10_count 61 = .ok (.getfield 76, 3) := by decide +kernel
theorem dX10_count_64 : decode cX10_count 64 = .ok (.ireturn, 1) := by decide +kernel
theorem dX10_count_65 : decode cX10_count 65 = .ok (.aload_n 0, 1) := by decide +kernel
theorem dX10_count_66 : decode cX10_count 66 = .ok (.getfield 123, 3) := by decide +kernel
theorem dX10_count_69 : decode cX10_count 69 = .ok (.ireturn, 1) := by decide +kernel
theorem dX10_count_70 : decode cX10_count 70 = .ok (.aload_n 0, 1) := by decide +kernel
theorem dX10_count_71 : decode cX10_count 71 = .ok (.getfield 16, 3) := by decide +kernel
theorem dX10_count_74 : decode cX10_count 74 = .ok (.iconst 2, 1) := by decide +kernel
theorem dX10_count_75 : decode cX10_count 75 = .ok (.iaload, 1) := by decide +kernel
theorem dX10_count_76 : decode cX10_count 76 = .ok (.ireturn, 1) := by decide +kernel
theorem dX10_count_77 : decode cX10_count 77 = .ok (.aload_n 0, 1) := by decide +kernel
theorem dX10_count_78 : decode cX10_count 78 = .ok (.getfield 126, 3) := by decide +kernel
theorem dX10_count_81 : decode cX10_count 81 = .ok (.ireturn, 1) := by decide +kernel
theorem dX10_count_82 : decode cX10_count 82 = .ok (.aload_n 0, 1) := by decide +kernel
theorem dX10_count_83 : decode cX10_count 83 = .ok (.getfield 16, 3) := by decide +kernel
theorem dX10_count_86 : decode cX10_count 86 = .ok (.iconst 0, 1) := by decide +kernel
theorem dX10_count_87 : decode cX10_count 87 = .ok (.iaload, 1) := by decide +kernel
theorem dX10_count_88 : decode cX10_count 88 = .ok (.ireturn, 1) := by decide +kernel
theorem dX10_count_89 : decode cX10_count 89 = .ok (.aload_n 0, 1) := by decide +kernel
theorem dX10_count_90 : decode cX10_count 90 = .ok (.getfield 16, 3) := by decide +kernel
theorem dX10_count_93 : decode cX10_count 93 = .ok (.iconst 1, 1) := by decide +kernel
theorem dX10_count_94 : decode cX10_count 94 = .ok (.iaload, 1) := by decide +kernel
theorem dX10_count_95 : decode cX10_count 95 = .ok (.iconst 1, 1) := by decide +kernel
theorem dX10_count_96 : decode cX10_count 96 = .ok (.iadd, 1) := by decide +kernel
theorem dX10_count_97 : decode cX10_count 97 = .ok (.ireturn, 1) := by decide +kernel
theorem dX10_count_98 : decode cX10_count 98 = .ok (.aload_n 0, 1) := by decide +kernel
theorem dX10_count_99 : decode cX10_count 99 = .ok (.getfield 139, 3) := by decide +kernel
theorem dX10_count_102 : decode cX10_count 102 = .ok (.ireturn, 1) := by decide +kernel
theorem dX10_count_103 : decode cX10_count 103 = .ok (.aload_n 0, 1) := by decide +kernel
theorem dX10_count_104 : decode cX10_count 104 = .ok (.getfield 133, 3) := by decide +kernel
theorem dX10_count_107 : decode cX10_count 107 = .ok (.ireturn, 1) := by decide +kernel
theorem dX10_count_108 : decode cX10_count 108 = .ok (.aload_n 0, 1) := by decide +kernel
theorem dX10_count_109 : decode cX10_count 109 = .ok (.getfield 136, 3) := by decide +kernel
theorem dX10_count_112 : decode cX10_count 112 = .ok (.ireturn, 1) := by decide +kernel
theorem dX10_count_113 : decode cX10_count 113 = .ok (.aload_n 0, 1) := by decide +kernel
theorem dX10_count_114 : decode cX10_count 114 = .ok (.getfield 83, 3) := by decide +kernel
theorem dX10_count_117 : decode cX10_count 117 = .ok (.ireturn, 1) := by decide +kernel
theorem dX10_count_118 : decode cX10_count 118 = .ok (.aload_n 0, 1) := by decide +kernel
theorem dX10_count_119 : decode cX10_count 119 = .ok (.getfield 16, 3) := by decide +kernel
theorem dX10_count_122 : decode cX10_count 122 = .ok (.iconst 3, 1) := by decide +kernel
theorem dX10_count_123 : decode cX10_count 123 = .ok (.iaload, 1) := by decide +kernel
theorem dX10_count_124 : decode cX10_count 124 = .ok (.ireturn, 1) := by decide +kernel
theorem dX10_count_125 : decode cX10_count 125 = .ok (.iconst (-1), 1) := by decide +kernel
theorem dX10_count_126 : decode cX10_count 126 = .ok (.ireturn, 1) := by decide +kernel
theorem dJ6_bitCount_0f7a4_0 : decode cJ6_bitCount_0f7a4 0 = .ok (.iload_n 0, 1) := by decide +kernel
theorem dJ6_bitCount_0f7a4_1 : decode cJ6_bitCount_0f7a4 1 = .ok (.iload_n 0, 1) := by decide +kernel
theorem dJ6_bitCount_0f7a4_2 : decode cJ6_bitCount_0f7a4 2 = .ok (.iconst 1, 1) := by decide +kernel
theorem dJ6_bitCount_0f7a4_3 : decode cJ6_bitCount_0f7a4 3 = .ok (.iushr, 1) := by decide +kernel
theorem dJ6_bitCount_0f7a4_4 : decode cJ6_bitCount_0f7a4 4 = .ok (.ldc_w 265, 3) := by decide +kernel
theorem dJ6_bitCount_0f7a4_7 : decode cJ6_bitCount_0f7a4 7 = .ok (.iand, 1) := by decide +kernel
theorem dJ6_bitCount_0f7a4_8 : decode cJ6_bitCount_0f7a4 8 = .ok (.isub, 1) := by decide +kernel
theorem dJ6_bitCount_0f7a4_9 : decode cJ6_bitCount_0f7a4 9 = .ok (.istore_n 0, 1) := by decide +kernel
theorem dJ6_bitCount_0f7a4_10 : decode cJ6_bitCount_0f7a4 10 = .ok (.iload_n 0, 1) := by decide +kernel
theorem dJ6_bitCount_0f7a4_11 : decode cJ6_bitCount_0f7a4 11 = .ok (.ldc_w 266, 3) := by decide +kernel
theorem dJ6_bitCount_0f7a4_14 : decode cJ6_bitCount_0f7a4 14 = .ok (.iand, 1) := by decide +kernel
theorem dJ6_bitCount_0f7a4_15 : decode cJ6_bitCount_0f7a4 15 = .ok (.iload_n 0, 1) := by decide +kernel
theorem dJ6_bitCount_0f7a4_16 : decode cJ6_bitCount_0f7a4 16 = .ok (.iconst 2, 1) := by decide +kernel
theorem dJ6_bitCount_0f7a4_17 : decode cJ6_bitCount_0f7a4 17 = .ok (.iushr, 1) := by decide +kernel
theorem dJ6_bitCount_0f7a4_18 : decode cJ6_bitCount_0f7a4 18 = .ok (.ldc_w 266, 3) := by decide +kernel
theorem dJ6_bitCount_0f7a4_21 : decode cJ6_bitCount_0f7a4 21 = .ok (.iand, 1) := by decide +kernel
theorem dJ6_bitCount_0f7a4_22 : decode cJ6_bitCount_0f7a4 22 = .ok (.iadd, 1) := by decide +kernel
theorem dJ6_bitCount_0f7a4_23 : decode cJ6_bitCount_0f7a4 23 = .ok (.istore_n 0, 1) := by decide +kernel
theorem dJ6_bitCount_0f7a4_24 : decode cJ6_bitCount_0f7a4 24 = .ok (.iload_n 0, 1) := by decide +kernel
theorem dJ6_bitCount_0f7a4_25 : decode cJ6_bitCount_0f7a4 25 = .ok (.iload_n 0, 1) := by decide +kernel
theorem dJ6_bitCount_0f7a4_26 : decode cJ6_bitCount_0f7a4 26 = .ok (.iconst 4, 1) := by decide +kernel
theorem dJ6_bitCount_0f7a4_27 : decode cJ6_bitCount_0f7a4 27 = .ok (.iushr, 1) := by decide +kernel
theorem dJ6_bitCount_0f7a4_28 : decode cJ6_bitCount_0f7a4 28 = .ok (.iadd, 1) := by decide +kernel
theorem dJ6_bitCount_0f7a4_29 : decode cJ6_bitCount_0f7a4 29 = .ok (.ldc_w 267, 3) := by decide +kernel
theorem dJ6_bitCount_0f7a4_32 : decode cJ6_bitCount_0f7a4 32 = .ok (.iand, 1) := by decide +kernel
theorem dJ6_bitCount_0f7a4_33 : decode cJ6_bitCount_0f7a4 33 = .ok (.istore_n 0, 1) := by decide +kernel
theorem dJ6_bitCount_0f7a4_34 : decode cJ6_bitCount_0f7a4 34 = .ok (.iload_n 0, 1) := by decide +kernel
theorem dJ6_bitCount_0f7a4_35 : decode cJ6_bitCount_0f7a4 35 = .ok (.iload_n 0, 1) := by decide +kernel
theorem dJ6_bitCount_0f7a4_36 : decode cJ6_bitCount_0f7a4 36 = .ok (.bipush 8, 2) := by decide +kernel
theorem dJ6_bitCount_0f7a4_38 : decode cJ6_bitCount_0f7a4 38 = .ok (.iushr, 1) := by decide +kernel
theorem dJ6_bitCount_0f7a4_39 : decode cJ6_bitCount_0f7a4 39 = .ok (.iadd, 1) := by decide +kernel
theorem dJ6_bitCount_0f7a4_40 : decode cJ6_bitCount_0f7a4 40 = .ok (.istore_n 0, 1) := by decide +kernel
theorem dJ6_bitCount_0f7a4_41 : decode cJ6_bitCount_0f7a4 41 = .ok (.iload_n 0, 1) := by decide +kernel
theorem dJ6_bitCount_0f7a4_42 : decode cJ6_bitCount_0f7a4 42 = .ok (.iload_n 0, 1) := by decide +kernel
theorem dJ6_bitCount_0f7a4_43 : decode cJ6_bitCount_0f7a4 43 = .ok (.bipush 16, 2) := by decide +kernel
theorem dJ6_bitCount_0f7a4_45 : decode cJ6_bitCount_0f7a4 45 = .ok (.iushr, 1) := by decide +kernel
theorem dJ6_bitCount_0f7a4_46 : decode cJ6_bitCount_0f7a4 46 = .ok (.iadd, 1) := by decide +kernel
theorem dJ6_bitCount_0f7a4_47 : decode cJ6_bitCount_0f7a4 47 = .ok (.istore_n 0, 1) := by decide +kernel
theorem dJ6_bitCount_0f7a4_48 : decode cJ6_bitCount_0f7a4 48 = .ok (.iload_n 0, 1) := by decide +kernel
theorem dJ6_bitCount_0f7a4_49 : decode cJ6_bitCount_0f7a4 49 = .ok (.bipush 63, 2) := by decide +kernel
theorem dJ6_bitCount_0f7a4_51 : decode cJ6_bitCount_0f7a4 51 = .ok (.iand, 1) := by decide +kernel
theorem dJ6_bitCount_0f7a4_52 : decode cJ6_bitCount_0f7a4 52 = .ok (.ireturn, 1) := by decide +kernel
theorem dJ9_max_7cf53_0 : decode cJ9_max_7cf53 0 = .ok (.iload_n 0, 1) := by decide +kernel
theorem dJ9_max_7cf53_1 : decode cJ9_max_7cf53 1 = .ok (.iload_n 1, 1) := by decide +kernel
theorem dJ9_max_7cf53_2 : decode cJ9_max_7cf53 2 = .ok (.if_icmp .lt 7, 3) := by decide +kernel
theorem dJ9_max_7cf53_5 : decode cJ9_max_7cf53 5 = .ok (.iload_n 0, 1) := by decide +kernel
theorem dJ9_max_7cf53_6 : decode cJ9_max_7cf53 6 = .ok (.goto 4, 3) := by decide +kernel
theorem dJ9_max_7cf53_9 : decode cJ9_max_7cf53 9 = .ok (.iload_n 1, 1) := by decide +kernel
theorem dJ9_max_7cf53_10 : decode cJ9_max_7cf53 10 = .ok (.ireturn, 1) := by decide +kernel
theorem dJ9_min_7cf53_0 : decode cJ9_min_7cf53 0 = .ok (.iload_n 0, 1) := by decide +kernel
theorem dJ9_min_7cf53_1 : decode cJ9_min_7cf53 1 = .ok (.iload_n 1, 1) := by decide +kernel
theorem dJ9_min_7cf53_2 : decode cJ9_min_7cf53 2 = .ok (.if_icmp .gt 7, 3) := by decide +kernel
theorem dJ9_min_7cf53_5 : decode cJ9_min_7cf53 5 = .ok (.iload_n 0, 1) := by decide +kernel
theorem dJ9_min_7cf53_6 : decode cJ9_min_7cf53 6 = .ok (.goto 4, 3) := by decide +kernel
theorem dJ9_min_7cf53_9 : decode cJ9_min_7cf53 9 = .ok (.iload_n 1, 1) := by decide +kernel
theorem dJ9_min_7cf53_10 : decode cJ9_min_7cf53 10 = .ok (.ireturn, 1) := by decide +kernel
set_option maxRecDepth 20000 in
theorem ggJ0_length_8abf5_J0_coder_7d493 : GoodIn wsJ0_length_8abf5 wsJ0_coder_7d493 := goodIn_r _ [6, 7, 8] (by decide +kernel) (by decide +kernel)
set_option maxRecDepth 20000 in
theorem gJ0_length_8abf5_J0_coder_7d493 : GoodIn wsJ0_length_8abf5 (wsV RJ0 335 RJ0 yJ0_coder_7d493 wsJ0_coder_7d493) := goodIn_app (goodIn_of _ (by decide +kernel)) ggJ0_length_8abf5_J0_coder_7d493
theorem dJ0_length_8abf5_0 : decode cJ0_length_8abf5 0 = .ok (.aload_n 0, 1) := by decide +kernel
theorem dJ0_length_8abf5_1 : decode cJ0_length_8abf5 1 = .ok (.getfield 9, 3) := by decide +kernel
theorem dJ0_length_8abf5_4 : decode cJ0_length_8abf5 4 = .ok (.arraylength, 1) := by decide +kernel
theorem dJ0_length_8abf5_5 : decode cJ0_length_8abf5 5 = .ok (.aload_n 0, 1) := by decide +kernel
theorem dJ0_length_8abf5_6 : decode cJ0_length_8abf5 6 = .ok (.invokevirtual 335, 3) := by decide +kernel
theorem dJ0_length_8abf5_9 : decode cJ0_length_8abf5 9 = .ok (.ishr, 1) := by decide +kernel
theorem dJ0_length_8abf5_10 : decode cJ0_length_8abf5 10 = .ok (.ireturn, 1) := by decide +kernel
set_option maxRecDepth 20000 in
theorem ggJ0_charAt_5068e_J0_isLatin1_aae02 : GoodIn wsJ0_charAt_5068e wsJ0_isLatin1_aae02 := goodIn_r _ [6, 7, 8] (by decide +kernel) (by decide +kernel)
set_option maxRecDepth 20000 in
theorem gJ0_charAt_5068e_J0_isLatin1_aae02 : GoodIn wsJ0_charAt_5068e (wsV RJ0 492 RJ0 yJ0_isLatin1_aae02 wsJ0_isLatin1_aae02) := goodIn_app (goodIn_of _ (by decide +kernel)) ggJ0_charAt_5068e_J0_isLatin1_aae02
set_option maxRecDepth 20000 in
theorem ggJ0_charAt_5068e_J1_charAt_3b067 : GoodIn wsJ0_charAt_5068e wsJ1_charAt_3b067 := goodIn_r _ [12, 13, 14, 5, 15, 16, 17, 18, 19, 20] (by decide +kernel) (by decide +kernel)
set_option maxRecDepth 20000 in
theorem gJ0_charAt_5068e_J1_charAt_3b067 : GoodIn wsJ0_charAt_5068e (va_wsS RJ0 495 yJ1_charAt_3b067 wsJ1_charAt_3b067) := goodIn_app (goodIn_of _ (by decide +kernel)) ggJ0_charAt_5068e_J1_charAt_3b067
set_option maxRecDepth 20000 in
theorem ggJ0_charAt_5068e_J2_charAt_3b067 : GoodIn wsJ0_charAt_5068e wsJ2_charAt_3b067 := goodIn_r _ [24, 25, 26, 23, 27, 28, 29, 30, 31, 14, 5, 15, 16, 17, 18, 19, 20, 32, 33, 34, 35, 36, 37] (by decide +kernel) (by decide +kernel)
set_option maxRecDepth 20000 in
theorem gJ0_charAt_5068e_J2_charAt_3b067 : GoodIn wsJ0_charAt_5068e (va_wsS RJ0 498 yJ2_charAt_3b067 wsJ2_charAt_3b067) := goodIn_app (goodIn_of _ (by decide +kernel)) ggJ0_charAt_5068e_J2_charAt_3b067
theorem dJ0_charAt_5068e_0 : decode cJ0_charAt_5068e 0 = .ok (.aload_n 0, 1) := by decide +kernel
theorem dJ0_charAt_5068e_1 : decode cJ0_charAt_5068e 1 = .ok (.invokevirtual 492, 3) := by decide +kernel
theorem dJ0_charAt_5068e_4 : decode cJ0_charAt_5068e 4 = .ok (.ifCond .eq 12, 3) := by decide +kernel
theorem dJ0_charAt_5068e_7 : decode cJ0_charAt_5068e 7 = .ok (.aload_n 0, 1) := by decide +kernel
theorem dJ0_charAt_5068e_8 : decode cJ0_charAt_5068e 8 = .ok (.getfield 9, 3) := by decide +kernel
theorem dJ0_charAt_5068e_11 : decode cJ0_charAt_5068e 11 = .ok (.iload_n 1, 1) := by decide +kernel
theorem dJ0_charAt_5068e_12 : decode cJ0_charAt_5068e 12 = .ok (.invokestatic 495, 3) := by decide +kernel
theorem dJ0_charAt_5068e_15 : decode cJ0_charAt_5068e 15 = .ok (.ireturn, 1) := by decide +kernel
theorem dJ0_charAt_5068e_16 : decode cJ0_charAt_5068e 16 = .ok (.aload_n 0, 1) := by decide +kernel
theorem dJ0_charAt_5068e_17 : decode cJ0_charAt_5068e 17 = .ok (.getfield 9, 3) := by decide +kernel
theorem dJ0_charAt_5068e_20 : decode cJ0_charAt_5068e 20 = .ok (.iload_n 1, 1) := by decide +kernel
theorem dJ0_charAt_5068e_21 : decode cJ0_charAt_5068e 21 = .ok (.invokestatic 498, 3) := by decide +kernel
theorem dJ0_charAt_5068e_24 : decode cJ0_charAt_5068e 24 = .ok (.ireturn, 1) := by decide +kernel
theorem dJ0_coder_7d493_0 : decode cJ0_coder_7d493 0 = .ok (.getstatic 38, 3) := by decide +kernel
theorem dJ0_coder_7d493_3 : decode cJ0_coder_7d493 3 = .ok (.ifCond .eq 10, 3) := by decide +kernel
theorem dJ0_coder_7d493_6 : decode cJ0_coder_7d493 6 = .ok (.aload_n 0, 1) := by decide +kernel
theorem dJ0_coder_7d493_7 : decode cJ0_coder_7d493 7 = .ok (.getfield 15, 3) := by decide +kernel
theorem dJ0_coder_7d493_10 : decode cJ0_coder_7d493 10 = .ok (.goto 4, 3) := by decide +kernel
theorem dJ0_coder_7d493_13 : decode cJ0_coder_7d493 13 = .ok (.iconst 1, 1) := by decide +kernel
theorem dJ0_coder_7d493_14 : decode cJ0_coder_7d493 14 = .ok (.ireturn, 1) := by decide +kernel
theorem dJ0_isLatin1_aae02_0 : decode cJ0_isLatin1_aae02 0 = .ok (.getstatic 38, 3) := by decide +kernel
theorem dJ0_isLatin1_aae02_3 : decode cJ0_isLatin1_aae02 3 = .ok (.ifCond .eq 14, 3) := by decide +kernel
theorem dJ0_isLatin1_aae02_6 : decode cJ0_isLatin1_aae02 6 = .ok (.aload_n 0, 1) := by decide +kernel
theorem dJ0_isLatin1_aae02_7 : decode cJ0_isLatin1_aae02 7 = .ok (.getfield 15, 3) := by decide +kernel
theorem dJ0_isLatin1_aae02_10 : decode cJ0_isLatin1_aae02 10 = .ok (.ifCond .ne 7, 3) := by decide +kernel
theorem dJ0_isLatin1_aae02_13 : decode cJ0_isLatin1_aae02 13 = .ok (.iconst 1, 1) := by decide +kernel
theorem dJ0_isLatin1_aae02_14 : decode cJ0_isLatin1_aae02 14 = .ok (.goto 4, 3) := by decide +kernel
theorem dJ0_isLatin1_aae02_17 : decode cJ0_isLatin1_aae02 17 = .ok (.iconst 0, 1) := by decide +kernel
theorem dJ0_isLatin1_aae02_18 : decode cJ0_isLatin1_aae02 18 = .ok (.ireturn, 1) := by decide +kernel
set_option maxRecDepth 20000 in
theorem ggJ0_checkIndex_df160_J3_checkIndex_8e157 : GoodIn wsJ0_checkIndex_df160 wsJ3_checkIndex_8e157 := goodIn_r _ [5] (by decide +kernel) (by decide +kernel)
set_option maxRecDepth 20000 in
theorem gJ0_checkIndex_df160_J3_checkIndex_8e157 : GoodIn wsJ0_checkIndex_df160 (va_wsS RJ0 1059 yJ3_checkIndex_8e157 wsJ3_checkIndex_8e157) := goodIn_app (goodIn_of _ (by decide +kernel)) ggJ0_checkIndex_df160_J3_checkIndex_8e157
theorem dJ0_checkIndex_df160_0 : decode cJ0_checkIndex_df160 0 = .ok (.iload_n 0, 1) := by decide +kernel
theorem dJ0_checkIndex_df160_1 : decode cJ0_checkIndex_df160 1 = .ok (.iload_n 1, 1) := by decide +kernel
theorem dJ0_checkIndex_df160_2 : decode cJ0_checkIndex_df160 2 = .ok (.getstatic 1053, 3) := by decide +kernel
theorem dJ0_checkIndex_df160_5 : decode cJ0_checkIndex_df160 5 = .ok (.invokestatic 1059, 3) := by decide +kernel
theorem dJ0_checkIndex_df160_8 : decode cJ0_checkIndex_df160 8 = .ok (.pop, 1) := by decide +kernel
theorem dJ0_checkIndex_df160_9 : decode cJ0_checkIndex_df160 9 = .ok (.return_, 1) := by decide +kernel
set_option maxRecDepth 20000 in
theorem ggJ1_charAt_3b067_J0_checkIndex_df160 : GoodIn wsJ1_charAt_3b067 wsJ0_checkIndex_df160 := goodIn_r _ [4, 5, 6, 7, 8, 9] (by decide +kernel) (by decide +kernel)
set_option maxRecDepth 20000 in
theorem gJ1_charAt_3b067_J0_checkIndex_df160 : GoodIn wsJ1_charAt_3b067 (va_wsS RJ1 9 yJ0_checkIndex_df160 wsJ0_checkIndex_df160) := goodIn_app (goodIn_of _ (by decide +kernel)) ggJ1_charAt_3b067_J0_checkIndex_df160
theorem dJ1_charAt_3b067_0 : decode cJ1_charAt_3b067 0 = .ok (.iload_n 1, 1) := by decide +kernel
theorem dJ1_charAt_3b067_1 : decode cJ1_charAt_3b067 1 = .ok (.aload_n 0, 1) := by decide +kernel
theorem dJ1_charAt_3b067_2 : decode cJ1_charAt_3b067 2 = .ok (.arraylength, 1) := by decide +kernel
theorem dJ1_charAt_3b067_3 : decode cJ1_charAt_3b067 3 = .ok (.invokestatic 9, 3) := by decide +kernel
theorem dJ1_charAt_3b067_6 : decode cJ1_charAt_3b067 6 = .ok (.aload_n 0, 1) := by decide +kernel
theorem dJ1_charAt_3b067_7 : decode cJ1_charAt_3b067 7 = .ok (.iload_n 1, 1) := by decide +kernel
theorem dJ1_charAt_3b067_8 : decode cJ1_charAt_3b067 8 = .ok (.baload, 1) := by decide +kernel
theorem dJ1_charAt_3b067_9 : decode cJ1_charAt_3b067 9 = .ok (.sipush 255, 3) := by decide +kernel
theorem dJ1_charAt_3b067_12 : decode cJ1_charAt_3b067 12 = .ok (.iand, 1) := by decide +kernel
theorem dJ1_charAt_3b067_13 : decode cJ1_charAt_3b067 13 = .ok (.i2c, 1) := by decide +kernel
theorem dJ1_charAt_3b067_14 : decode cJ1_charAt_3b067 14 = .ok (.ireturn, 1) := by decide +kernel
set_option maxRecDepth 20000 in
theorem ggJ2_getChar_3b067_J2_length_9d52b : GoodIn wsJ2_getChar_3b067 wsJ2_length_9d52b := goodIn_r _ [7] (by decide +kernel) (by decide +kernel)
set_option maxRecDepth 20000 in
theorem gJ2_getChar_3b067_J2_length_9d52b : GoodIn wsJ2_getChar_3b067 (va_wsS RJ2 48 yJ2_length_9d52b wsJ2_length_9d52b) := goodIn_app (goodIn_of _ (by decide +kernel)) ggJ2_getChar_3b067_J2_length_9d52b
theorem dJ2_getChar_3b067_0 : decode cJ2_getChar_3b067 0 = .ok (.getstatic 44, 3) := by decide +kernel
theorem dJ2_getChar_3b067_3 : decode cJ2_getChar_3b067 3 = .ok (.ifCond .ne 25, 3) := by decide +kernel
theorem dJ2_getChar_3b067_6 : decode cJ2_getChar_3b067 6 = .ok (.iload_n 1, 1) := by decide +kernel
theorem dJ2_getChar_3b067_7 : decode cJ2_getChar_3b067 7 = .ok (.ifCond .lt 11, 3) := by decide +kernel
theorem dJ2_getChar_3b067_10 : decode cJ2_getChar_3b067 10 = .ok (.iload_n 1, 1) := by decide +kernel
theorem dJ2_getChar_3b067_11 : decode cJ2_getChar_3b067 11 = .ok (.aload_n 0, 1) := by decide +kernel
theorem dJ2_getChar_3b067_12 : decode cJ2_getChar_3b067 12 = .ok (.invokestatic 48, 3) := by decide +kernel
theorem dJ2_getChar_3b067_15 : decode cJ2_getChar_3b067 15 = .ok (.if_icmp .lt 13, 3) := by decide +kernel
theorem dJ2_getChar_3b067_18 : decode cJ2_getChar_3b067 18 = .ok (.new 52, 3) := by decide +kernel
theorem dJ2_getChar_3b067_21 : decode cJ2_getChar_3b067 21 = .ok (.dup, 1) := by decide +kernel
theorem dJ2_getChar_3b067_22 : decode cJ2_getChar_3b067 22 = .ok (.ldc 54, 2) := by decide +kernel
theorem dJ2_getChar_3b067_24 : decode cJ2_getChar_3b067 24 = .ok (.invokespecial 56, 3) := by decide +kernel
theorem dJ2_getChar_3b067_27 : decode cJ2_getChar_3b067 27 = .ok (.athrow, 1) := by decide +kernel
theorem dJ2_getChar_3b067_28 : decode cJ2_getChar_3b067 28 = .ok (.iload_n 1, 1) := by decide +kernel
theorem dJ2_getChar_3b067_29 : decode cJ2_getChar_3b067 29 = .ok (.iconst 1, 1) := by decide +kernel
theorem dJ2_getChar_3b067_30 : decode cJ2_getChar_3b067 30 = .ok (.ishl, 1) := by decide +kernel
theorem dJ2_getChar_3b067_31 : decode cJ2_getChar_3b067 31 = .ok (.istore_n 1, 1) := by decide +kernel
theorem dJ2_getChar_3b067_32 : decode cJ2_getChar_3b067 32 = .ok (.aload_n 0, 1) := by decide +kernel
theorem dJ2_getChar_3b067_33 : decode cJ2_getChar_3b067 33 = .ok (.iload_n 1, 1) := by decide +kernel
theorem dJ2_getChar_3b067_34 : decode cJ2_getChar_3b067 34 = .ok (.iinc 1 1, 3) := by decide +kernel
theorem dJ2_getChar_3b067_37 : decode cJ2_getChar_3b067 37 = .ok (.baload, 1) := by decide +kernel
theorem dJ2_getChar_3b067_38 : decode cJ2_getChar_3b067 38 = .ok (.sipush 255, 3) := by decide +kernel
theorem dJ2_getChar_3b067_41 : decode cJ2_getChar_3b067 41 = .ok (.iand, 1) := by decide +kernel
theorem dJ2_getChar_3b067_42 : decode cJ2_getChar_3b067 42 = .ok (.getstatic 59, 3) := by decide +kernel
theorem dJ2_getChar_3b067_45 : decode cJ2_getChar_3b067 45 = .ok (.ishl, 1) := by decide +kernel
theorem dJ2_getChar_3b067_46 : decode cJ2_getChar_3b067 46 = .ok (.aload_n 0, 1) := by decide +kernel
theorem dJ2_getChar_3b067_47 : decode cJ2_getChar_3b067 47 = .ok (.iload_n 1, 1) := by decide +kernel
theorem dJ2_getChar_3b067_48 : decode cJ2_getChar_3b067 48 = .ok (.baload, 1) := by decide +kernel
theorem dJ2_getChar_3b067_49 : decode cJ2_getChar_3b067 49 = .ok (.sipush 255, 3) := by decide +kernel
theorem dJ2_getChar_3b067_52 : decode cJ2_getChar_3b067 52 = .ok (.iand, 1) := by decide +kernel
theorem dJ2_getChar_3b067_53 : decode cJ2_getChar_3b067 53 = .ok (.getstatic 63, 3) := by decide +kernel
theorem dJ2_getChar_3b067_56 : decode cJ2_getChar_3b067 56 = .ok (.ishl, 1) := by decide +kernel
theorem dJ2_getChar_3b067_57 : decode cJ2_getChar_3b067 57 = .ok (.ior, 1) := by decide +kernel
theorem dJ2_getChar_3b067_58 : decode cJ2_getChar_3b067 58 = .ok (.i2c, 1) := by decide +kernel
theorem dJ2_getChar_3b067_59 : decode cJ2_getChar_3b067 59 = .ok (.ireturn, 1) := by decide +kernel
theorem dJ2_length_9d52b_0 : decode cJ2_length_9d52b 0 = .ok (.aload_n 0, 1) := by decide +kernel
theorem dJ2_length_9d52b_1 : decode cJ2_length_9d52b 1 = .ok (.arraylength, 1) := by decide +kernel
theorem dJ2_length_9d52b_2 : decode cJ2_length_9d52b 2 = .ok (.iconst 1, 1) := by decide +kernel
theorem dJ2_length_9d52b_3 : decode cJ2_length_9d52b 3 = .ok (.ishr, 1) := by decide +kernel
theorem dJ2_length_9d52b_4 : decode cJ2_length_9d52b 4 = .ok (.ireturn, 1) := by decide +kernel
set_option maxRecDepth 20000 in
theorem ggJ2_charAt_3b067_J2_checkIndex_2214a : GoodIn wsJ2_charAt_3b067 wsJ2_checkIndex_2214a := goodIn_r _ [4, 5, 6, 3, 7, 8, 9, 10, 11, 12, 13, 14, 15, 16] (by decide +kernel) (by decide +kernel)
set_option maxRecDepth 20000 in
theorem gJ2_charAt_3b067_J2_checkIndex_2214a : GoodIn wsJ2_charAt_3b067 (va_wsS RJ2 67 yJ2_checkIndex_2214a wsJ2_checkIndex_2214a) := goodIn_app (goodIn_of _ (by decide +kernel)) ggJ2_charAt_3b067_J2_checkIndex_2214a
set_option maxRecDepth 20000 in
theorem ggJ2_charAt_3b067_J2_getChar_3b067 : GoodIn wsJ2_charAt_3b067 wsJ2_getChar_3b067 := goodIn_r _ [19, 20, 21, 22, 5, 6, 3, 7] (by decide +kernel) (by decide +kernel)
set_option maxRecDepth 20000 in
theorem gJ2_charAt_3b067_J2_getChar_3b067 : GoodIn wsJ2_charAt_3b067 (va_wsS RJ2 71 yJ2_getChar_3b067 wsJ2_getChar_3b067) := goodIn_app (goodIn_of _ (by decide +kernel)) ggJ2_charAt_3b067_J2_getChar_3b067
theorem dJ2_charAt_3b067_0 : decode cJ2_charAt_3b067 0 = .ok (.iload_n 1, 1) := by decide +kernel
theorem dJ2_charAt_3b067_1 : decode cJ2_charAt_3b067 1 = .ok (.aload_n 0, 1) := by decide +kernel
theorem dJ2_charAt_3b067_2 : decode cJ2_charAt_3b067 2 = .ok (.invokestatic 67, 3) := by decide +kernel
theorem dJ2_charAt_3b067_5 : decode cJ2_charAt_3b067 5 = .ok (.aload_n 0, 1) := by decide +kernel
theorem dJ2_charAt_3b067_6 : decode cJ2_charAt_3b067 6 = .ok (.iload_n 1, 1) := by decide +kernel
theorem dJ2_charAt_3b067_7 : decode cJ2_charAt_3b067 7 = .ok (.invokestatic 71, 3) := by decide +kernel
theorem dJ2_charAt_3b067_10 : decode cJ2_charAt_3b067 10 = .ok (.ireturn, 1) := by decide +kernel
set_option maxRecDepth 20000 in
theorem ggJ2_checkIndex_2214a_J2_length_9d52b : GoodIn wsJ2_checkIndex_2214a wsJ2_length_9d52b := goodIn_r _ [4] (by decide +kernel) (by decide +kernel)
set_option maxRecDepth 20000 in
theorem gJ2_checkIndex_2214a_J2_length_9d52b : GoodIn wsJ2_checkIndex_2214a (va_wsS RJ2 48 yJ2_length_9d52b wsJ2_length_9d52b) := goodIn_app (goodIn_of _ (by decide +kernel)) ggJ2_checkIndex_2214a_J2_length_9d52b
set_option maxRecDepth 20000 in
theorem ggJ2_checkIndex_2214a_J0_checkIndex_df160 : GoodIn wsJ2_checkIndex_2214a wsJ0_checkIndex_df160 := goodIn_r _ [8, 9, 10, 11, 12, 13] (by decide +kernel) (by decide +kernel)
set_option maxRecDepth 20000 in
theorem gJ2_checkIndex_2214a_J0_checkIndex_df160 : GoodIn wsJ2_checkIndex_2214a (va_wsS RJ2 414 yJ0_checkIndex_df160 wsJ0_checkIndex_df160) := goodIn_app (goodIn_of _ (by decide +kernel)) ggJ2_checkIndex_2214a_J0_checkIndex_df160
theorem dJ2_checkIndex_2214a_0 : decode cJ2_checkIndex_2214a 0 = .ok (.iload_n 0, 1) := by decide +kernel
theorem dJ2_checkIndex_2214a_1 : decode cJ2_checkIndex_2214a 1 = .ok (.aload_n 1, 1) := by decide +kernel
theorem dJ2_checkIndex_2214a_2 : decode cJ2_checkIndex_2214a 2 = .ok (.invokestatic 48, 3) := by decide +kernel
theorem dJ2_checkIndex_2214a_5 : decode cJ2_checkIndex_2214a 5 = .ok (.invokestatic 414, 3) := by decide +kernel
theorem dJ2_checkIndex_2214a_8 : decode cJ2_checkIndex_2214a 8 = .ok (.return_, 1) := by decide +kernel
theorem dJ3_checkIndex_8e157_0 : decode cJ3_checkIndex_8e157 0 = .ok (.iload_n 0, 1) := by decide +kernel
theorem dJ3_checkIndex_8e157_1 : decode cJ3_checkIndex_8e157 1 = .ok (.ifCond .lt 8, 3) := by decide +kernel
theorem dJ3_checkIndex_8e157_4 : decode cJ3_checkIndex_8e157 4 = .ok (.iload_n 0, 1) := by decide +kernel
theorem dJ3_checkIndex_8e157_5 : decode cJ3_checkIndex_8e157 5 = .ok (.iload_n 1, 1) := by decide +kernel
theorem dJ3_checkIndex_8e157_6 : decode cJ3_checkIndex_8e157 6 = .ok (.if_icmp .lt 10, 3) := by decide +kernel
theorem dJ3_checkIndex_8e157_9 : decode cJ3_checkIndex_8e157 9 = .ok (.aload_n 2, 1) := by decide +kernel
theorem dJ3_checkIndex_8e157_10 : decode cJ3_checkIndex_8e157 10 = .ok (.iload_n 0, 1) := by decide +kernel
theorem dJ3_checkIndex_8e157_11 : decode cJ3_checkIndex_8e157 11 = .ok (.iload_n 1, 1) := by decide +kernel
theorem dJ3_checkIndex_8e157_12 : decode cJ3_checkIndex_8e157 12 = .ok (.invokestatic 95, 3) := by decide +kernel
theorem dJ3_checkIndex_8e157_15 : decode cJ3_checkIndex_8e157 15 = .ok (.athrow, 1) := by decide +kernel
theorem dJ3_checkIndex_8e157_16 : decode cJ3_checkIndex_8e157 16 = .ok (.iload_n 0, 1) := by decide +kernel
theorem dJ3_checkIndex_8e157_17 : decode cJ3_checkIndex_8e157 17 = .ok (.ireturn, 1) := by decide +kernel
set_option maxRecDepth 20000 in
theorem ggL_law_X9_init : GoodIn wsL_law wsX9_init := goodIn_r _ [8, 9, 10, 11, 12, 13, 14, 15, 16, 17, 18, 19, 20, 21, 22, 23, 24, 25, 26, 27, 28, 29, 30, 31, 32, 33, 34, 35, 36, 37, 38, 39, 40, 41, 42, 43, 44, 45, 46, 47, 48, 49, 50, 51, 52, 53, 54, 55, 56, 57, 58, 59, 60, 61, 62, 63, 64, 65, 66, 67, 68, 69, 70, 71, 72, 73, 74, 75, 76, 77, 78, 79, 80, 81, 82, 83, 84, 85, 86, 87, 88, 89, 90, 91, 92, 93, 94, 95, 96, 97, 98, 99, 100, 101, 102, 103, 104, 105, 106, 107, 108, 109, 110, 111, 112, 113, 114, 115, 116, 117, 118, 119, 120, 121, 122, 123, 124, 125, 126, 127, 128, 129, 130, 131, 132, 133, 134, 135, 136, 137, 138, 139, 140, 141, 142, 143, 144, 145, 146, 147, 148, 149, 150, 151, 152, 153, 154, 155, 156, 157, 158, 159, 160, 161, 162, 163, 164, 165, 166, 167, 2, 168, 169, 170, 171, 172, 173, 174, 175, 176, 177, 178, 179, 180, 181, 182, 183, 184, 185, 186, 187, 188, 189, 190, 191, 192, 193, 194, 195, 196, 197, 198, 199, 200, 201, 202, 203, 204, 205, 206, 207, 208, 209, 210, 211, 212, 213, 214, 215, 216, 217, 218, 219, 220, 221, 222, 223, 224, 225, 226, 227, 228, 229, 230, 231, 232, 233, 234, 235, 236, 237, 238, 239, 240, 241, 242, 243, 244, 245, 246, 247, 248, 249, 250, 251, 252, 253, 254, 255, 256, 257, 258, 259, 260, 261, 262, 263, 264, 265, 266, 267, 268, 994, 995, 996, 959, 960, 961, 962, 963, 964, 965, 966, 967, 968, 997, 998, 999, 1000, 1001, 1002, 1003, 1004, 1005, 1006, 1007, 1008, 1009, 1010, 1011, 1012, 1013, 1014, 1015, 1016, 1017, 1018, 1019, 1020, 1021, 1022, 1023, 1024, 1025, 1026, 1027, 1028, 1029, 1030, 1031, 1032, 1033] (by decide +kernel) (by decide +kernel)
set_option maxRecDepth 20000 in
theorem gL_law_X9_init : GoodIn wsL_law (wsX9_init) := ggL_law_X9_init
set_option maxRecDepth 20000 in
theorem ggL_law_X10_init : GoodIn wsL_law wsX10_init := goodIn_r _ [271, 272, 10, 11, 51, 273, 274, 275, 276, 277, 278, 279, 280, 281, 282, 283, 284, 285, 286, 287, 288, 289, 290, 5, 291, 292, 293, 294, 295, 296, 297, 298, 299, 300, 301, 302, 303, 304, 305, 306, 307, 308, 309, 310, 311, 312, 313, 314, 969, 970, 971, 972, 973, 974, 975, 976, 977, 978, 979, 980, 981, 982, 983, 984, 985, 986, 987, 988, 989, 990, 991, 992, 993] (by decide +kernel) (by decide +kernel)
set_option maxRecDepth 20000 in
theorem gL_law_X10_init : GoodIn wsL_law (wsX10_init) := ggL_law_X10_init
set_option maxRecDepth 20000 in
theorem ggL_law_X9_write : GoodIn wsL_law wsX9_write := goodIn_r _ [318, 15, 160, 161, 162, 14, 163, 164, 50, 319, 320, 321, 322, 959, 960, 961, 962, 963, 964, 965, 966, 967, 968, 994, 995, 996] (by decide +kernel) (by decide +kernel)
set_option maxRecDepth 20000 in
theorem gL_law_X9_write : GoodIn wsL_law (wsV RL 13 RX9 yX9_write wsX9_write) := goodIn_app (goodIn_of _ (by decide +kernel)) ggL_law_X9_write
set_option maxRecDepth 20000 in
theorem ggL_law_X10_write : GoodIn wsL_law wsX10_write := goodIn_r _ [326, 327, 280, 328, 329, 5, 330, 969, 970, 971, 972, 973, 974, 975, 976, 977, 978, 979, 980, 981, 982, 983, 984, 985, 986, 987, 988, 989, 990, 991, 992, 993] (by decide +kernel) (by decide +kernel)
set_option maxRecDepth 20000 in
theorem gL_law_X10_write : GoodIn wsL_law (wsV RL 17 RX10 yX10_write wsX10_write) := goodIn_app (goodIn_of _ (by decide +kernel)) ggL_law_X10_write
set_option maxRecDepth 20000 in
theorem ggL_law_X9_wipe : GoodIn wsL_law wsX9_wipe := goodIn_r _ [334, 15, 319, 320, 321, 14, 322, 164, 265, 266, 267, 268, 959, 960, 961, 962, 963, 964, 965, 966, 967, 968, 994, 995, 996] (by decide +kernel) (by decide +kernel)
set_option maxRecDepth 20000 in
theorem gL_law_X9_wipe : GoodIn wsL_law (wsV RL 18 RX9 yX9_wipe wsX9_wipe) := goodIn_app (goodIn_of _ (by decide +kernel)) ggL_law_X9_wipe
set_option maxRecDepth 20000 in
theorem ggL_law_X10_wipe : GoodIn wsL_law wsX10_wipe := goodIn_r _ [338, 327, 969, 970, 971, 972, 973, 974, 975, 976, 977, 978, 979, 980, 981, 982, 983, 984, 985, 986, 987, 988, 989, 990, 991, 992, 993] (by decide +kernel) (by decide +kernel)
set_option maxRecDepth 20000 in
theorem gL_law_X10_wipe : GoodIn wsL_law (wsV RL 22 RX10 yX10_wipe wsX10_wipe) := goodIn_app (goodIn_of _ (by decide +kernel)) ggL_law_X10_wipe
set_option maxRecDepth 20000 in
theorem ggL_law_X9_fault : GoodIn wsL_law wsX9_fault := goodIn_r _ [342, 15, 20, 169, 170, 171, 14, 172, 164, 173, 174, 175, 18, 176, 177, 178, 179, 180, 181, 182, 183, 184, 185, 186, 187, 188, 50, 189, 190, 191, 192, 193, 194, 195, 196, 52, 197, 198, 199, 200, 201, 202, 203, 204, 205, 206, 207, 208, 56, 57, 58, 209, 210, 211, 212, 59, 61, 213, 214, 215, 216, 217, 218, 219, 220, 959, 960, 961, 962, 963, 964, 965, 966, 967, 968, 994, 995, 996, 997, 998, 999, 1000, 1001, 1002, 1003, 1004, 1005] (by decide +kernel) (by decide +kernel)
set_option maxRecDepth 20000 in
theorem gL_law_X9_fault : GoodIn wsL_law (wsV RL 23 RX9 yX9_fault wsX9_fault) := goodIn_app (goodIn_of _ (by decide +kernel)) ggL_law_X9_fault
set_option maxRecDepth 20000 in
theorem ggL_law_X10_fault : GoodIn wsL_law wsX10_fault := goodIn_r _ [346, 347, 327, 288, 289, 290, 5, 291, 292, 293, 286, 287, 348, 349, 350, 351, 352, 353, 354, 355, 280, 356, 357, 358, 359, 281, 360, 361, 362, 363, 364, 365, 366, 328, 329, 330, 367, 368, 369, 370, 294, 295, 296, 297, 282, 371, 372, 373, 374, 298, 299, 300, 301, 283, 375, 376, 377, 378, 379, 380, 381, 382, 969, 970, 971, 972, 973, 974, 975, 976, 977, 978, 979, 980, 981, 982, 983, 984, 985, 986, 987, 988, 989, 990, 991, 992, 993] (by decide +kernel) (by decide +kernel)
set_option maxRecDepth 20000 in
theorem gL_law_X10_fault : GoodIn wsL_law (wsV RL 26 RX10 yX10_fault wsX10_fault) := goodIn_app (goodIn_of _ (by decide +kernel)) ggL_law_X10_fault
set_option maxRecDepth 20000 in
theorem ggL_law_X9_lay : GoodIn wsL_law wsX9_lay := goodIn_r _ [386, 15, 20, 19, 169, 170, 171, 14, 172, 164, 173, 174, 175, 18, 176, 177, 178, 179, 180, 181, 182, 183, 184, 185, 186, 187, 188, 50, 189, 190, 191, 192, 193, 194, 195, 196, 52, 197, 198, 199, 200, 201, 202, 203, 204, 205, 206, 207, 208, 56, 57, 58, 209, 210, 211, 212, 59, 61, 213, 214, 215, 216, 217, 218, 219, 220, 387, 388, 389, 390, 165, 166, 167, 2, 168, 24, 28, 29, 33, 221, 222, 223, 23, 224, 68, 70, 69, 71, 225, 226, 227, 228, 229, 67, 230, 231, 232, 84, 233, 234, 77, 235, 236, 237, 238, 239, 240, 241, 242, 243, 244, 245, 246, 247, 248, 249, 250, 251, 252, 253, 254, 255, 256, 257, 27, 258, 259, 260, 261, 262, 32, 263, 264, 391, 959, 960, 961, 962, 963, 964, 965, 966, 967, 968, 994, 995, 996, 997, 998, 999, 1000, 1001, 1002, 1003, 1004, 1005, 1006, 1007, 1008, 1009, 1010, 1011, 1012, 1013, 1029, 1030, 1031, 1032, 1033, 1014, 1015, 1016, 1017, 1018, 1019, 1020] (by decide +kernel) (by decide +kernel)
set_option maxRecDepth 20000 in
theorem gL_law_X9_lay : GoodIn wsL_law (wsV RL 27 RX9 yX9_lay wsX9_lay) := goodIn_app (goodIn_of _ (by decide +kernel)) ggL_law_X9_lay
set_option maxRecDepth 20000 in
theorem ggL_law_X10_lay : GoodIn wsL_law wsX10_lay := goodIn_r _ [395, 292, 293, 306, 396, 344, 345, 5, 346, 347, 327, 288, 289, 290, 291, 286, 287, 348, 349, 350, 351, 352, 353, 354, 355, 280, 356, 357, 358, 359, 281, 360, 361, 362, 363, 364, 365, 366, 328, 329, 330, 367, 368, 369, 370, 294, 295, 296, 297, 282, 371, 372, 373, 374, 298, 299, 300, 301, 283, 375, 376, 377, 378, 379, 380, 381, 382, 302, 303, 304, 305, 307, 308, 273, 274, 275, 276, 309, 310, 311, 312, 313, 314, 969, 970, 971, 972, 973, 974, 975, 976, 977, 978, 979, 980, 981, 982, 983, 984, 985, 986, 987, 988, 989, 990, 991, 992, 993] (by decide +kernel) (by decide +kernel)
set_option maxRecDepth 20000 in
theorem gL_law_X10_lay : GoodIn wsL_law (wsV RL 30 RX10 yX10_lay wsX10_lay) := goodIn_app (goodIn_of _ (by decide +kernel)) ggL_law_X10_lay
set_option maxRecDepth 20000 in
theorem ggL_law_X9_relative : GoodIn wsL_law wsX9_relative := goodIn_r _ [400, 19, 24, 401, 247, 248, 18, 249, 177, 402, 403, 404, 405, 56, 246, 406, 407, 408, 23, 409, 68, 410, 411, 412, 67, 413, 234, 235, 77, 414, 415, 416, 417, 58, 418, 419, 420, 421, 237, 422, 423, 424, 425, 70, 959, 960, 961, 962, 963, 964, 965, 966, 967, 968, 997, 998, 999, 1000, 1001, 1002, 1003, 1004, 1005, 1006, 1007, 1008, 1009, 1010, 1011, 1012, 1013, 1029, 1030, 1031, 1032, 1033] (by decide +kernel) (by decide +kernel)
set_option maxRecDepth 20000 in
theorem gL_law_X9_relative : GoodIn wsL_law (wsV RL 31 RX9 yX9_relative wsX9_relative) := goodIn_app (goodIn_of _ (by decide +kernel)) ggL_law_X9_relative
set_option maxRecDepth 20000 in
theorem ggL_law_X10_relative : GoodIn wsL_law wsX10_relative := goodIn_r _ [429, 275, 273, 430, 431, 432, 5, 433, 306, 328, 329, 330, 434, 435, 436, 437, 284, 312, 313, 314, 438, 439, 440, 441, 969, 970, 971, 972, 973, 974, 975, 976, 977, 978, 979, 980, 981, 982, 983, 984, 985, 986, 987, 988, 989, 990, 991, 992, 993] (by decide +kernel) (by decide +kernel)
set_option maxRecDepth 20000 in
theorem gL_law_X10_relative : GoodIn wsL_law (wsV RL 35 RX10 yX10_relative wsX10_relative) := goodIn_app (goodIn_of _ (by decide +kernel)) ggL_law_X10_relative
set_option maxRecDepth 20000 in
theorem ggL_law_X9_saying : GoodIn wsL_law wsX9_saying := goodIn_r _ [445, 19, 446, 447, 448, 18, 449, 178, 450, 451, 452, 453, 59, 454, 455, 456, 457, 458, 61, 959, 960, 961, 962, 963, 964, 965, 966, 967, 968, 997, 998, 999, 1000, 1001, 1002, 1003, 1004, 1005] (by decide +kernel) (by decide +kernel)
set_option maxRecDepth 20000 in
theorem gL_law_X9_saying : GoodIn wsL_law (wsV RL 36 RX9 yX9_saying wsX9_saying) := goodIn_app (goodIn_of _ (by decide +kernel)) ggL_law_X9_saying
set_option maxRecDepth 20000 in
theorem ggL_law_X10_saying : GoodIn wsL_law wsX10_saying := goodIn_r _ [462, 307, 274, 328, 329, 5, 330, 969, 970, 971, 972, 973, 974, 975, 976, 977, 978, 979, 980, 981, 982, 983, 984, 985, 986, 987, 988, 989, 990, 991, 992, 993] (by decide +kernel) (by decide +kernel)
set_option maxRecDepth 20000 in
theorem gL_law_X10_saying : GoodIn wsL_law (wsV RL 39 RX10 yX10_saying wsX10_saying) := goodIn_app (goodIn_of _ (by decide +kernel)) ggL_law_X10_saying
set_option maxRecDepth 20000 in
theorem ggL_law_X9_asking : GoodIn wsL_law wsX9_asking := goodIn_r _ [466, 19, 24, 446, 447, 448, 18, 449, 178, 401, 247, 248, 249, 177, 467, 468, 469, 23, 470, 226, 471, 472, 473, 474, 180, 475, 456, 457, 458, 61, 454, 476, 451, 452, 453, 59, 477, 403, 404, 405, 56, 246, 478, 479, 480, 481, 482, 483, 484, 959, 960, 961, 962, 963, 964, 965, 966, 967, 968, 997, 998, 999, 1000, 1001, 1002, 1003, 1004, 1005, 1006, 1007, 1008, 1009, 1010, 1011, 1012, 1013] (by decide +kernel) (by decide +kernel)
set_option maxRecDepth 20000 in
theorem gL_law_X9_asking : GoodIn wsL_law (wsV RL 40 RX9 yX9_asking wsX9_asking) := goodIn_app (goodIn_of _ (by decide +kernel)) ggL_law_X9_asking
set_option maxRecDepth 20000 in
theorem ggL_law_X10_asking : GoodIn wsL_law wsX10_asking := goodIn_r _ [488, 307, 275, 328, 329, 5, 330, 430, 431, 432, 433, 306, 434, 435, 436, 437, 284, 312, 313, 314, 489, 490, 491, 492, 274, 273, 308, 493, 494, 495, 969, 970, 971, 972, 973, 974, 975, 976, 977, 978, 979, 980, 981, 982, 983, 984, 985, 986, 987, 988, 989, 990, 991, 992, 993] (by decide +kernel) (by decide +kernel)
set_option maxRecDepth 20000 in
theorem gL_law_X10_asking : GoodIn wsL_law (wsV RL 43 RX10 yX10_asking wsX10_asking) := goodIn_app (goodIn_of _ (by decide +kernel)) ggL_law_X10_asking
set_option maxRecDepth 20000 in
theorem ggL_law_X9_knows : GoodIn wsL_law wsX9_knows := goodIn_r _ [499, 19, 24, 401, 247, 248, 18, 249, 177, 500, 501, 502, 23, 503, 68, 504, 411, 412, 67, 413, 234, 235, 77, 505, 506, 507, 508, 509, 415, 416, 417, 58, 246, 510, 511, 512, 513, 69, 959, 960, 961, 962, 963, 964, 965, 966, 967, 968, 997, 998, 999, 1000, 1001, 1002, 1003, 1004, 1005, 1006, 1007, 1008, 1009, 1010, 1011, 1012, 1013, 1029, 1030, 1031, 1032, 1033] (by decide +kernel) (by decide +kernel)
set_option maxRecDepth 20000 in
theorem gL_law_X9_knows : GoodIn wsL_law (wsV RL 44 RX9 yX9_knows wsX9_knows) := goodIn_app (goodIn_of _ (by decide +kernel)) ggL_law_X9_knows
set_option maxRecDepth 20000 in
theorem ggL_law_X10_knows : GoodIn wsL_law wsX10_knows := goodIn_r _ [517, 275, 430, 431, 432, 5, 433, 306, 328, 329, 330, 434, 435, 436, 437, 284, 312, 313, 314, 518, 519, 520, 521, 273, 438, 439, 440, 441, 969, 970, 971, 972, 973, 974, 975, 976, 977, 978, 979, 980, 981, 982, 983, 984, 985, 986, 987, 988, 989, 990, 991, 992, 993] (by decide +kernel) (by decide +kernel)
set_option maxRecDepth 20000 in
theorem gL_law_X10_knows : GoodIn wsL_law (wsV RL 47 RX10 yX10_knows wsX10_knows) := goodIn_app (goodIn_of _ (by decide +kernel)) ggL_law_X10_knows
set_option maxRecDepth 20000 in
theorem ggL_law_X9_say : GoodIn wsL_law wsX9_say := goodIn_r _ [525, 19, 24, 28, 401, 247, 248, 18, 249, 177, 446, 447, 448, 449, 178, 526, 527, 528, 23, 529, 225, 530, 531, 532, 27, 533, 534, 87, 259, 535, 232, 84, 233, 536, 537, 538, 539, 540, 541, 542, 543, 68, 69, 544, 545, 546, 547, 70, 71, 72, 73, 226, 548, 549, 550, 67, 551, 77, 552, 234, 235, 236, 237, 553, 554, 555, 556, 557, 558, 559, 560, 505, 506, 507, 508, 561, 472, 473, 474, 180, 475, 456, 457, 458, 61, 454, 476, 451, 452, 453, 59, 477, 403, 404, 405, 56, 246, 478, 479, 480, 481, 482, 483, 484, 562, 563, 564, 565, 959, 960, 961, 962, 963, 964, 965, 966, 967, 968, 997, 998, 999, 1000, 1001, 1002, 1003, 1004, 1005, 1006, 1007, 1008, 1009, 1010, 1011, 1012, 1013, 1014, 1015, 1016, 1029, 1030, 1031, 1032, 1033] (by decide +kernel) (by decide +kernel)
set_option maxRecDepth 20000 in
theorem gL_law_X9_say : GoodIn wsL_law (wsV RL 48 RX9 yX9_say wsX9_say) := goodIn_app (goodIn_of _ (by decide +kernel)) ggL_law_X9_say
set_option maxRecDepth 20000 in
theorem ggL_law_X10_say : GoodIn wsL_law wsX10_say := goodIn_r _ [569, 307, 275, 284, 430, 431, 432, 5, 433, 306, 328, 329, 330, 570, 571, 572, 573, 309, 277, 312, 313, 314, 434, 435, 436, 437, 574, 575, 576, 577, 489, 490, 491, 492, 274, 273, 308, 493, 494, 495, 578, 579, 580, 581, 969, 970, 971, 972, 973, 974, 975, 976, 977, 978, 979, 980, 981, 982, 983, 984, 985, 986, 987, 988, 989, 990, 991, 992, 993] (by decide +kernel) (by decide +kernel)
set_option maxRecDepth 20000 in
theorem gL_law_X10_say : GoodIn wsL_law (wsV RL 51 RX10 yX10_say wsX10_say) := goodIn_app (goodIn_of _ (by decide +kernel)) ggL_law_X10_say
set_option maxRecDepth 20000 in
theorem ggL_law_X9_noon : GoodIn wsL_law wsX9_noon := goodIn_r _ [585, 24, 28, 406, 407, 408, 23, 409, 68, 586, 506, 507, 67, 508, 235, 530, 531, 532, 27, 533, 534, 87, 259, 535, 232, 84, 233, 536, 537, 538, 539, 540, 541, 542, 543, 69, 544, 545, 546, 547, 70, 71, 72, 73, 225, 226, 548, 549, 550, 551, 77, 552, 234, 236, 237, 587, 588, 589, 590, 591, 592, 593, 594, 595, 596, 597, 598, 599, 411, 412, 413, 418, 419, 420, 421, 959, 960, 961, 962, 963, 964, 965, 966, 967, 968, 1006, 1007, 1008, 1009, 1010, 1011, 1012, 1013, 1029, 1030, 1031, 1032, 1033, 1014, 1015, 1016] (by decide +kernel) (by decide +kernel)
set_option maxRecDepth 20000 in
theorem gL_law_X9_noon : GoodIn wsL_law (wsV RL 52 RX9 yX9_noon wsX9_noon) := goodIn_app (goodIn_of _ (by decide +kernel)) ggL_law_X9_noon
set_option maxRecDepth 20000 in
theorem ggL_law_X10_noon : GoodIn wsL_law wsX10_noon := goodIn_r _ [603, 275, 284, 570, 571, 572, 5, 573, 309, 277, 312, 313, 314, 434, 435, 436, 437, 604, 605, 606, 607, 306, 608, 609, 610, 611, 612, 613, 614, 615, 438, 439, 440, 441, 969, 970, 971, 972, 973, 974, 975, 976, 977, 978, 979, 980, 981, 982, 983, 984, 985, 986, 987, 988, 989, 990, 991, 992, 993] (by decide +kernel) (by decide +kernel)
set_option maxRecDepth 20000 in
theorem gL_law_X10_noon : GoodIn wsL_law (wsV RL 55 RX10 yX10_noon wsX10_noon) := goodIn_app (goodIn_of _ (by decide +kernel)) ggL_law_X10_noon
set_option maxRecDepth 20000 in
theorem ggL_law_X9_mend : GoodIn wsL_law wsX9_mend := goodIn_r _ [619, 24, 28, 467, 468, 469, 23, 470, 226, 530, 531, 532, 27, 533, 534, 87, 259, 535, 232, 84, 233, 536, 537, 538, 539, 540, 541, 542, 543, 68, 69, 544, 545, 546, 547, 70, 71, 72, 73, 225, 548, 549, 550, 67, 551, 77, 552, 234, 235, 236, 237, 620, 621, 622, 623, 959, 960, 961, 962, 963, 964, 965, 966, 967, 968, 1006, 1007, 1008, 1009, 1010, 1011, 1012, 1013, 1014, 1015, 1016, 1029, 1030, 1031, 1032, 1033] (by decide +kernel) (by decide +kernel)
set_option maxRecDepth 20000 in
theorem gL_law_X9_mend : GoodIn wsL_law (wsV RL 56 RX9 yX9_mend wsX9_mend) := goodIn_app (goodIn_of _ (by decide +kernel)) ggL_law_X9_mend
set_option maxRecDepth 20000 in
theorem ggL_law_X10_mend : GoodIn wsL_law wsX10_mend := goodIn_r _ [627, 275, 328, 329, 5, 330, 570, 571, 572, 573, 309, 277, 312, 313, 314, 969, 970, 971, 972, 973, 974, 975, 976, 977, 978, 979, 980, 981, 982, 983, 984, 985, 986, 987, 988, 989, 990, 991, 992, 993] (by decide +kernel) (by decide +kernel)
set_option maxRecDepth 20000 in
theorem gL_law_X10_mend : GoodIn wsL_law (wsV RL 59 RX10 yX10_mend wsX10_mend) := goodIn_app (goodIn_of _ (by decide +kernel)) ggL_law_X10_mend
set_option maxRecDepth 20000 in
theorem ggL_law_X9_undo : GoodIn wsL_law wsX9_undo := goodIn_r _ [631, 28, 24, 632, 633, 634, 27, 635, 259, 636, 637, 638, 639, 534, 87, 536, 537, 538, 539, 540, 541, 542, 23, 543, 68, 69, 544, 545, 546, 547, 70, 71, 72, 73, 225, 226, 548, 549, 550, 67, 551, 77, 552, 234, 235, 236, 237, 959, 960, 961, 962, 963, 964, 965, 966, 967, 968, 1014, 1015, 1016, 1006, 1007, 1008, 1009, 1010, 1011, 1012, 1013, 1029, 1030, 1031, 1032, 1033] (by decide +kernel) (by decide +kernel)
set_option maxRecDepth 20000 in
theorem gL_law_X9_undo : GoodIn wsL_law (wsV RL 60 RX9 yX9_undo wsX9_undo) := goodIn_app (goodIn_of _ (by decide +kernel)) ggL_law_X9_undo
set_option maxRecDepth 20000 in
theorem ggL_law_X10_undo : GoodIn wsL_law wsX10_undo := goodIn_r _ [643, 309, 275, 277, 969, 970, 971, 972, 973, 974, 975, 976, 977, 978, 979, 980, 981, 982, 983, 984, 985, 986, 987, 988, 989, 990, 991, 992, 993] (by decide +kernel) (by decide +kernel)
set_option maxRecDepth 20000 in
theorem gL_law_X10_undo : GoodIn wsL_law (wsV RL 63 RX10 yX10_undo wsX10_undo) := goodIn_app (goodIn_of _ (by decide +kernel)) ggL_law_X10_undo
set_option maxRecDepth 20000 in
theorem ggL_law_X9_heir : GoodIn wsL_law wsX9_heir := goodIn_r _ [647, 19, 24, 401, 247, 248, 18, 249, 177, 406, 407, 408, 23, 409, 68, 648, 596, 597, 67, 598, 234, 599, 411, 412, 413, 235, 77, 959, 960, 961, 962, 963, 964, 965, 966, 967, 968, 997, 998, 999, 1000, 1001, 1002, 1003, 1004, 1005, 1006, 1007, 1008, 1009, 1010, 1011, 1012, 1013, 1029, 1030, 1031, 1032, 1033] (by decide +kernel) (by decide +kernel)
set_option maxRecDepth 20000 in
theorem gL_law_X9_heir : GoodIn wsL_law (wsV RL 64 RX9 yX9_heir wsX9_heir) := goodIn_app (goodIn_of _ (by decide +kernel)) ggL_law_X9_heir
set_option maxRecDepth 20000 in
theorem ggL_law_X10_heir : GoodIn wsL_law wsX10_heir := goodIn_r _ [652, 275, 430, 431, 432, 5, 433, 306, 328, 329, 330, 434, 435, 436, 437, 284, 312, 313, 314, 612, 613, 614, 615, 438, 439, 440, 441, 969, 970, 971, 972, 973, 974, 975, 976, 977, 978, 979, 980, 981, 982, 983, 984, 985, 986, 987, 988, 989, 990, 991, 992, 993] (by decide +kernel) (by decide +kernel)
set_option maxRecDepth 20000 in
theorem gL_law_X10_heir : GoodIn wsL_law (wsV RL 67 RX10 yX10_heir wsX10_heir) := goodIn_app (goodIn_of _ (by decide +kernel)) ggL_law_X10_heir
set_option maxRecDepth 20000 in
theorem ggL_law_X9_among : GoodIn wsL_law wsX9_among := goodIn_r _ [656, 24, 406, 407, 408, 23, 409, 68, 657, 658, 659, 67, 660, 234, 595, 596, 597, 598, 599, 411, 412, 413, 235, 77, 959, 960, 961, 962, 963, 964, 965, 966, 967, 968, 1006, 1007, 1008, 1009, 1010, 1011, 1012, 1013, 1029, 1030, 1031, 1032, 1033] (by decide +kernel) (by decide +kernel)
set_option maxRecDepth 20000 in
theorem gL_law_X9_among : GoodIn wsL_law (wsV RL 68 RX9 yX9_among wsX9_among) := goodIn_app (goodIn_of _ (by decide +kernel)) ggL_law_X9_among
set_option maxRecDepth 20000 in
theorem ggL_law_X10_among : GoodIn wsL_law wsX10_among := goodIn_r _ [664, 275, 306, 434, 435, 436, 5, 437, 284, 312, 313, 314, 612, 613, 614, 615, 438, 439, 440, 441, 969, 970, 971, 972, 973, 974, 975, 976, 977, 978, 979, 980, 981, 982, 983, 984, 985, 986, 987, 988, 989, 990, 991, 992, 993] (by decide +kernel) (by decide +kernel)
set_option maxRecDepth 20000 in
theorem gL_law_X10_among : GoodIn wsL_law (wsV RL 71 RX10 yX10_among wsX10_among) := goodIn_app (goodIn_of _ (by decide +kernel)) ggL_law_X10_among
set_option maxRecDepth 20000 in
theorem ggL_law_X9_thinks : GoodIn wsL_law wsX9_thinks := goodIn_r _ [668, 19, 24, 401, 247, 248, 18, 249, 177, 669, 670, 671, 23, 672, 673, 239, 240, 241, 674, 501, 502, 503, 68, 504, 411, 412, 67, 413, 234, 235, 77, 505, 506, 507, 508, 509, 415, 416, 417, 58, 246, 510, 511, 512, 513, 69, 959, 960, 961, 962, 963, 964, 965, 966, 967, 968, 997, 998, 999, 1000, 1001, 1002, 1003, 1004, 1005, 1006, 1007, 1008, 1009, 1010, 1011, 1012, 1013, 1029, 1030, 1031, 1032, 1033] (by decide +kernel) (by decide +kernel)
set_option maxRecDepth 20000 in
theorem gL_law_X9_thinks : GoodIn wsL_law (wsV RL 72 RX9 yX9_thinks wsX9_thinks) := goodIn_app (goodIn_of _ (by decide +kernel)) ggL_law_X9_thinks
set_option maxRecDepth 20000 in
theorem ggL_law_X10_thinks : GoodIn wsL_law wsX10_thinks := goodIn_r _ [678, 275, 306, 430, 431, 432, 5, 433, 328, 329, 330, 434, 435, 436, 437, 284, 312, 313, 314, 518, 519, 520, 521, 273, 438, 439, 440, 441, 969, 970, 971, 972, 973, 974, 975, 976, 977, 978, 979, 980, 981, 982, 983, 984, 985, 986, 987, 988, 989, 990, 991, 992, 993] (by decide +kernel) (by decide +kernel)
set_option maxRecDepth 20000 in
theorem gL_law_X10_thinks : GoodIn wsL_law (wsV RL 75 RX10 yX10_thinks wsX10_thinks) := goodIn_app (goodIn_of _ (by decide +kernel)) ggL_law_X10_thinks
set_option maxRecDepth 20000 in
theorem ggL_law_X9_make : GoodIn wsL_law wsX9_make := goodIn_r _ [682, 19, 24, 401, 247, 248, 18, 249, 177, 406, 407, 408, 23, 409, 68, 683, 684, 685, 67, 686, 234, 236, 687, 479, 480, 481, 482, 483, 484, 595, 596, 597, 598, 599, 411, 412, 413, 235, 77, 959, 960, 961, 962, 963, 964, 965, 966, 967, 968, 997, 998, 999, 1000, 1001, 1002, 1003, 1004, 1005, 1006, 1007, 1008, 1009, 1010, 1011, 1012, 1013, 1029, 1030, 1031, 1032, 1033] (by decide +kernel) (by decide +kernel)
set_option maxRecDepth 20000 in
theorem gL_law_X9_make : GoodIn wsL_law (wsV RL 76 RX9 yX9_make wsX9_make) := goodIn_app (goodIn_of _ (by decide +kernel)) ggL_law_X9_make
set_option maxRecDepth 20000 in
theorem ggL_law_X10_make : GoodIn wsL_law wsX10_make := goodIn_r _ [691, 275, 306, 430, 431, 432, 5, 433, 328, 329, 330, 434, 435, 436, 437, 284, 312, 313, 314, 608, 609, 610, 611, 612, 613, 614, 615, 438, 439, 440, 441, 493, 494, 495, 969, 970, 971, 972, 973, 974, 975, 976, 977, 978, 979, 980, 981, 982, 983, 984, 985, 986, 987, 988, 989, 990, 991, 992, 993] (by decide +kernel) (by decide +kernel)
set_option maxRecDepth 20000 in
theorem gL_law_X10_make : GoodIn wsL_law (wsV RL 79 RX10 yX10_make wsX10_make) := goodIn_app (goodIn_of _ (by decide +kernel)) ggL_law_X10_make
set_option maxRecDepth 20000 in
theorem ggL_law_X9_byTurns : GoodIn wsL_law wsX9_byTurns := goodIn_r _ [695, 37, 24, 406, 407, 408, 23, 409, 68, 696, 697, 698, 36, 699, 700, 83, 84, 85, 98, 701, 702, 703, 67, 704, 234, 705, 706, 707, 708, 100, 709, 549, 550, 551, 77, 552, 545, 546, 547, 235, 236, 237, 710, 563, 564, 565, 711, 592, 593, 594, 595, 596, 597, 598, 599, 411, 412, 413, 712, 419, 420, 421, 713, 714, 715, 716, 717, 718, 719, 720, 721, 722, 723, 724, 725, 726, 727, 728, 729, 959, 960, 961, 962, 963, 964, 965, 966, 967, 968, 1006, 1007, 1008, 1009, 1010, 1011, 1012, 1013, 1021, 1022, 1023, 1029, 1030, 1031, 1032, 1033] (by decide +kernel) (by decide +kernel)
set_option maxRecDepth 20000 in
theorem gL_law_X9_byTurns : GoodIn wsL_law (wsV RL 80 RX9 yX9_byTurns wsX9_byTurns) := goodIn_app (goodIn_of _ (by decide +kernel)) ggL_law_X9_byTurns
set_option maxRecDepth 20000 in
theorem ggL_law_X10_byTurns : GoodIn wsL_law wsX10_byTurns := goodIn_r _ [733, 275, 306, 285, 284, 328, 329, 5, 330, 434, 435, 436, 437, 312, 313, 314, 578, 579, 580, 581, 604, 605, 606, 607, 608, 609, 610, 611, 612, 613, 614, 615, 438, 439, 440, 441, 734, 735, 736, 969, 970, 971, 972, 973, 974, 975, 976, 977, 978, 979, 980, 981, 982, 983, 984, 985, 986, 987, 988, 989, 990, 991, 992, 993] (by decide +kernel) (by decide +kernel)
set_option maxRecDepth 20000 in
theorem gL_law_X10_byTurns : GoodIn wsL_law (wsV RL 83 RX10 yX10_byTurns wsX10_byTurns) := goodIn_app (goodIn_of _ (by decide +kernel)) ggL_law_X10_byTurns
set_option maxRecDepth 20000 in
theorem ggL_law_X9_took : GoodIn wsL_law wsX9_took := goodIn_r _ [740, 24, 19, 33, 406, 407, 408, 23, 409, 68, 586, 506, 507, 67, 508, 235, 401, 247, 248, 18, 249, 177, 741, 742, 743, 32, 744, 264, 91, 92, 745, 746, 747, 748, 959, 960, 961, 962, 963, 964, 965, 966, 967, 968, 1006, 1007, 1008, 1009, 1010, 1011, 1012, 1013, 1029, 1030, 1031, 1032, 1033, 997, 998, 999, 1000, 1001, 1002, 1003, 1004, 1005, 1017, 1018, 1019, 1020] (by decide +kernel) (by decide +kernel)
set_option maxRecDepth 20000 in
theorem gL_law_X9_took : GoodIn wsL_law (wsV RL 84 RX9 yX9_took wsX9_took) := goodIn_app (goodIn_of _ (by decide +kernel)) ggL_law_X9_took
set_option maxRecDepth 20000 in
theorem ggL_law_X10_took : GoodIn wsL_law wsX10_took := goodIn_r _ [752, 275, 311, 279, 328, 329, 5, 330, 430, 431, 432, 433, 306, 969, 970, 971, 972, 973, 974, 975, 976, 977, 978, 979, 980, 981, 982, 983, 984, 985, 986, 987, 988, 989, 990, 991, 992, 993] (by decide +kernel) (by decide +kernel)
set_option maxRecDepth 20000 in
theorem gL_law_X10_took : GoodIn wsL_law (wsV RL 87 RX10 yX10_took wsX10_took) := goodIn_app (goodIn_of _ (by decide +kernel)) ggL_law_X10_took
set_option maxRecDepth 20000 in
theorem ggL_law_X9_forget : GoodIn wsL_law wsX9_forget := goodIn_r _ [756, 33, 745, 746, 747, 32, 748, 264, 260, 261, 262, 263, 959, 960, 961, 962, 963, 964, 965, 966, 967, 968, 1017, 1018, 1019, 1020] (by decide +kernel) (by decide +kernel)
set_option maxRecDepth 20000 in
theorem gL_law_X9_forget : GoodIn wsL_law (wsV RL 88 RX9 yX9_forget wsX9_forget) := goodIn_app (goodIn_of _ (by decide +kernel)) ggL_law_X9_forget
set_option maxRecDepth 20000 in
theorem ggL_law_X10_forget : GoodIn wsL_law wsX10_forget := goodIn_r _ [760, 311, 969, 970, 971, 972, 973, 974, 975, 976, 977, 978, 979, 980, 981, 982, 983, 984, 985, 986, 987, 988, 989, 990, 991, 992, 993] (by decide +kernel) (by decide +kernel)
set_option maxRecDepth 20000 in
theorem gL_law_X10_forget : GoodIn wsL_law (wsV RL 91 RX10 yX10_forget wsX10_forget) := goodIn_app (goodIn_of _ (by decide +kernel)) ggL_law_X10_forget
set_option maxRecDepth 20000 in
theorem ggL_law_X9_deeds : GoodIn wsL_law wsX9_deeds := goodIn_r _ [764, 33, 19, 24, 765, 766, 767, 32, 768, 769, 770, 771, 772, 94, 773, 228, 229, 67, 230, 231, 232, 84, 233, 234, 77, 235, 236, 237, 238, 239, 240, 18, 241, 177, 242, 243, 244, 245, 57, 246, 247, 248, 249, 774, 775, 776, 23, 777, 71, 72, 73, 561, 472, 473, 474, 180, 475, 456, 457, 458, 61, 454, 447, 448, 449, 178, 476, 451, 452, 453, 59, 477, 403, 404, 405, 56, 478, 479, 480, 481, 482, 483, 484, 562, 563, 564, 565, 778, 592, 593, 594, 595, 596, 597, 598, 599, 411, 412, 413, 779, 419, 420, 421, 780, 781, 782, 783, 264, 91, 92, 784, 785, 786, 787, 959, 960, 961, 962, 963, 964, 965, 966, 967, 968, 1017, 1018, 1019, 1020, 1029, 1030, 1031, 1032, 1033, 997, 998, 999, 1000, 1001, 1002, 1003, 1004, 1005, 1006, 1007, 1008, 1009, 1010, 1011, 1012, 1013] (by decide +kernel) (by decide +kernel)
set_option maxRecDepth 20000 in
theorem gL_law_X9_deeds : GoodIn wsL_law (wsV RL 92 RX9 yX9_deeds wsX9_deeds) := goodIn_app (goodIn_of _ (by decide +kernel)) ggL_law_X9_deeds
set_option maxRecDepth 20000 in
theorem ggL_law_X10_deeds : GoodIn wsL_law wsX10_deeds := goodIn_r _ [791, 328, 329, 5, 330, 792, 793, 794, 795, 276, 284, 275, 311, 279, 434, 435, 436, 437, 312, 313, 314, 574, 575, 576, 577, 489, 490, 491, 492, 274, 273, 308, 493, 494, 495, 578, 579, 580, 581, 604, 605, 606, 607, 306, 608, 609, 610, 611, 612, 613, 614, 615, 438, 439, 440, 441, 969, 970, 971, 972, 973, 974, 975, 976, 977, 978, 979, 980, 981, 982, 983, 984, 985, 986, 987, 988, 989, 990, 991, 992, 993] (by decide +kernel) (by decide +kernel)
set_option maxRecDepth 20000 in
theorem gL_law_X10_deeds : GoodIn wsL_law (wsV RL 95 RX10 yX10_deeds wsX10_deeds) := goodIn_app (goodIn_of _ (by decide +kernel)) ggL_law_X10_deeds
set_option maxRecDepth 20000 in
theorem ggL_law_X9_quiet : GoodIn wsL_law wsX9_quiet := goodIn_r _ [799, 19, 24, 467, 468, 469, 23, 470, 226, 800, 801, 802, 18, 803, 178, 177, 804, 472, 473, 474, 180, 475, 456, 457, 458, 61, 454, 447, 448, 449, 476, 451, 452, 453, 59, 477, 403, 404, 405, 56, 246, 247, 248, 249, 478, 479, 480, 481, 482, 483, 484, 959, 960, 961, 962, 963, 964, 965, 966, 967, 968, 1006, 1007, 1008, 1009, 1010, 1011, 1012, 1013, 997, 998, 999, 1000, 1001, 1002, 1003, 1004, 1005] (by decide +kernel) (by decide +kernel)
set_option maxRecDepth 20000 in
theorem gL_law_X9_quiet : GoodIn wsL_law (wsV RL 96 RX9 yX9_quiet wsX9_quiet) := goodIn_app (goodIn_of _ (by decide +kernel)) ggL_law_X9_quiet
set_option maxRecDepth 20000 in
theorem ggL_law_X10_quiet : GoodIn wsL_law wsX10_quiet := goodIn_r _ [808, 275, 307, 306, 434, 435, 436, 5, 437, 284, 312, 313, 314, 489, 490, 491, 492, 274, 273, 308, 493, 494, 495, 969, 970, 971, 972, 973, 974, 975, 976, 977, 978, 979, 980, 981, 982, 983, 984, 985, 986, 987, 988, 989, 990, 991, 992, 993] (by decide +kernel) (by decide +kernel)
set_option maxRecDepth 20000 in
theorem gL_law_X10_quiet : GoodIn wsL_law (wsV RL 99 RX10 yX10_quiet wsX10_quiet) := goodIn_app (goodIn_of _ (by decide +kernel)) ggL_law_X10_quiet
set_option maxRecDepth 20000 in
theorem ggL_law_X9_cloak : GoodIn wsL_law wsX9_cloak := goodIn_r _ [812, 19, 24, 401, 247, 248, 18, 249, 177, 467, 468, 469, 23, 470, 226, 813, 814, 815, 816, 178, 804, 472, 473, 474, 180, 475, 456, 457, 458, 61, 454, 447, 448, 449, 476, 451, 452, 453, 59, 477, 403, 404, 405, 56, 246, 478, 479, 480, 481, 482, 483, 484, 817, 818, 819, 820, 821, 959, 960, 961, 962, 963, 964, 965, 966, 967, 968, 997, 998, 999, 1000, 1001, 1002, 1003, 1004, 1005, 1006, 1007, 1008, 1009, 1010, 1011, 1012, 1013] (by decide +kernel) (by decide +kernel)
set_option maxRecDepth 20000 in
theorem gL_law_X9_cloak : GoodIn wsL_law (wsV RL 100 RX9 yX9_cloak wsX9_cloak) := goodIn_app (goodIn_of _ (by decide +kernel)) ggL_law_X9_cloak
set_option maxRecDepth 20000 in
theorem ggL_law_X10_cloak : GoodIn wsL_law wsX10_cloak := goodIn_r _ [825, 275, 307, 274, 284, 430, 431, 432, 5, 433, 306, 328, 329, 330, 434, 435, 436, 437, 312, 313, 314, 493, 494, 495, 489, 490, 491, 492, 273, 308, 969, 970, 971, 972, 973, 974, 975, 976, 977, 978, 979, 980, 981, 982, 983, 984, 985, 986, 987, 988, 989, 990, 991, 992, 993] (by decide +kernel) (by decide +kernel)
set_option maxRecDepth 20000 in
theorem gL_law_X10_cloak : GoodIn wsL_law (wsV RL 103 RX10 yX10_cloak wsX10_cloak) := goodIn_app (goodIn_of _ (by decide +kernel)) ggL_law_X10_cloak
set_option maxRecDepth 20000 in
theorem ggL_law_X9_allKnow : GoodIn wsL_law wsX9_allKnow := goodIn_r _ [829, 24, 19, 830, 831, 832, 23, 833, 834, 835, 836, 837, 838, 83, 84, 85, 673, 239, 240, 18, 241, 177, 509, 415, 416, 417, 58, 246, 247, 248, 249, 510, 511, 512, 513, 69, 959, 960, 961, 962, 963, 964, 965, 966, 967, 968, 997, 998, 999, 1000, 1001, 1002, 1003, 1004, 1005, 1006, 1007, 1008, 1009, 1010, 1011, 1012, 1013] (by decide +kernel) (by decide +kernel)
set_option maxRecDepth 20000 in
theorem gL_law_X9_allKnow : GoodIn wsL_law (wsV RL 104 RX9 yX9_allKnow wsX9_allKnow) := goodIn_app (goodIn_of _ (by decide +kernel)) ggL_law_X9_allKnow
set_option maxRecDepth 20000 in
theorem ggL_law_X10_allKnow : GoodIn wsL_law wsX10_allKnow := goodIn_r _ [842, 275, 306, 434, 435, 436, 5, 437, 284, 312, 313, 314, 518, 519, 520, 521, 273, 438, 439, 440, 441, 604, 605, 606, 607, 608, 609, 610, 611, 612, 613, 614, 615, 969, 970, 971, 972, 973, 974, 975, 976, 977, 978, 979, 980, 981, 982, 983, 984, 985, 986, 987, 988, 989, 990, 991, 992, 993] (by decide +kernel) (by decide +kernel)
set_option maxRecDepth 20000 in
theorem gL_law_X10_allKnow : GoodIn wsL_law (wsV RL 107 RX10 yX10_allKnow wsX10_allKnow) := goodIn_app (goodIn_of _ (by decide +kernel)) ggL_law_X10_allKnow
set_option maxRecDepth 20000 in
theorem ggL_law_X9_lasts : GoodIn wsL_law wsX9_lasts := goodIn_r _ [846, 847, 41, 24, 19, 406, 407, 408, 23, 409, 68, 848, 849, 850, 18, 851, 177, 477, 403, 404, 405, 56, 246, 247, 248, 249, 852, 853, 854, 40, 855, 105, 856, 857, 858, 859, 549, 550, 67, 551, 77, 552, 545, 546, 547, 234, 235, 236, 237, 860, 596, 597, 598, 599, 411, 412, 413, 861, 592, 593, 594, 595, 862, 419, 420, 421, 863, 864, 865, 866, 867, 868, 869, 870, 871, 872, 873, 874, 959, 960, 961, 962, 963, 964, 965, 966, 967, 968, 1006, 1007, 1008, 1009, 1010, 1011, 1012, 1013, 997, 998, 999, 1000, 1001, 1002, 1003, 1004, 1005, 1024, 1025, 1026, 1029, 1030, 1031, 1032, 1033] (by decide +kernel) (by decide +kernel)
set_option maxRecDepth 20000 in
theorem gL_law_X9_lasts : GoodIn wsL_law (wsV RL 108 RX9 yX9_lasts wsX9_lasts) := goodIn_app (goodIn_of _ (by decide +kernel)) ggL_law_X9_lasts
set_option maxRecDepth 20000 in
theorem ggL_law_X10_lasts : GoodIn wsL_law wsX10_lasts := goodIn_r _ [878, 879, 306, 273, 880, 275, 284, 328, 329, 5, 330, 434, 435, 436, 437, 312, 313, 314, 578, 579, 580, 581, 604, 605, 606, 607, 608, 609, 610, 611, 612, 613, 614, 615, 438, 439, 440, 441, 969, 970, 971, 972, 973, 974, 975, 976, 977, 978, 979, 980, 981, 982, 983, 984, 985, 986, 987, 988, 989, 990, 991, 992, 993] (by decide +kernel) (by decide +kernel)
set_option maxRecDepth 20000 in
theorem gL_law_X10_lasts : GoodIn wsL_law (wsV RL 112 RX10 yX10_lasts wsX10_lasts) := goodIn_app (goodIn_of _ (by decide +kernel)) ggL_law_X10_lasts
set_option maxRecDepth 20000 in
theorem ggL_law_X9_year : GoodIn wsL_law wsX9_year := goodIn_r _ [884, 45, 19, 24, 885, 886, 887, 44, 888, 110, 889, 890, 407, 408, 23, 409, 68, 891, 549, 550, 67, 551, 77, 552, 545, 546, 547, 234, 235, 236, 237, 892, 468, 469, 470, 226, 893, 894, 895, 896, 897, 898, 899, 900, 901, 902, 903, 904, 905, 239, 240, 18, 241, 177, 906, 907, 908, 909, 178, 910, 472, 473, 474, 180, 475, 456, 457, 458, 61, 454, 447, 448, 449, 476, 451, 452, 453, 59, 477, 403, 404, 405, 56, 246, 247, 248, 249, 478, 479, 480, 481, 482, 483, 484, 911, 563, 564, 565, 912, 419, 420, 421, 913, 592, 593, 594, 595, 596, 597, 598, 599, 411, 412, 413, 914, 915, 916, 917, 918, 919, 920, 921, 959, 960, 961, 962, 963, 964, 965, 966, 967, 968, 1027, 1028, 1006, 1007, 1008, 1009, 1010, 1011, 1012, 1013, 1029, 1030, 1031, 1032, 1033, 997, 998, 999, 1000, 1001, 1002, 1003, 1004, 1005] (by decide +kernel) (by decide +kernel)
set_option maxRecDepth 20000 in
theorem gL_law_X9_year : GoodIn wsL_law (wsV RL 113 RX9 yX9_year wsX9_year) := goodIn_app (goodIn_of _ (by decide +kernel)) ggL_law_X9_year
set_option maxRecDepth 20000 in
theorem ggL_law_X10_year : GoodIn wsL_law wsX10_year := goodIn_r _ [925, 275, 926, 927, 928, 929, 306, 307, 284, 328, 329, 5, 330, 434, 435, 436, 437, 312, 313, 314, 574, 575, 576, 577, 489, 490, 491, 492, 274, 273, 308, 493, 494, 495, 578, 579, 580, 581, 604, 605, 606, 607, 608, 609, 610, 611, 612, 613, 614, 615, 438, 439, 440, 441, 969, 970, 971, 972, 973, 974, 975, 976, 977, 978, 979, 980, 981, 982, 983, 984, 985, 986, 987, 988, 989, 990, 991, 992, 993] (by decide +kernel) (by decide +kernel)
set_option maxRecDepth 20000 in
theorem gL_law_X10_year : GoodIn wsL_law (wsV RL 117 RX10 yX10_year wsX10_year) := goodIn_app (goodIn_of _ (by decide +kernel)) ggL_law_X10_year
set_option maxRecDepth 20000 in
theorem ggL_law_X9_keep : GoodIn wsL_law wsX9_keep := goodIn_r _ [933, 29, 24, 632, 633, 634, 27, 635, 259, 530, 531, 532, 533, 534, 87, 535, 232, 84, 233, 536, 537, 538, 539, 540, 541, 542, 23, 543, 68, 69, 544, 545, 546, 547, 70, 71, 72, 73, 225, 226, 548, 549, 550, 67, 551, 77, 552, 234, 235, 236, 237, 959, 960, 961, 962, 963, 964, 965, 966, 967, 968, 1014, 1015, 1016, 1006, 1007, 1008, 1009, 1010, 1011, 1012, 1013, 1029, 1030, 1031, 1032, 1033] (by decide +kernel) (by decide +kernel)
set_option maxRecDepth 20000 in
theorem gL_law_X9_keep : GoodIn wsL_law (wsV RL 118 RX9 yX9_keep wsX9_keep) := goodIn_app (goodIn_of _ (by decide +kernel)) ggL_law_X9_keep
set_option maxRecDepth 20000 in
theorem ggL_law_X10_keep : GoodIn wsL_law wsX10_keep := goodIn_r _ [937, 310, 278, 275, 312, 313, 5, 314, 969, 970, 971, 972, 973, 974, 975, 976, 977, 978, 979, 980, 981, 982, 983, 984, 985, 986, 987, 988, 989, 990, 991, 992, 993] (by decide +kernel) (by decide +kernel)
set_option maxRecDepth 20000 in
theorem gL_law_X10_keep : GoodIn wsL_law (wsV RL 121 RX10 yX10_keep wsX10_keep) := goodIn_app (goodIn_of _ (by decide +kernel)) ggL_law_X10_keep
set_option maxRecDepth 20000 in
theorem ggL_law_X9_back : GoodIn wsL_law wsX9_back := goodIn_r _ [941, 29, 24, 28, 632, 633, 634, 27, 635, 259, 636, 637, 638, 639, 534, 87, 536, 537, 538, 539, 540, 541, 542, 23, 543, 68, 69, 544, 545, 546, 547, 70, 71, 72, 73, 225, 226, 548, 549, 550, 67, 551, 77, 552, 234, 235, 236, 237, 255, 256, 257, 258, 959, 960, 961, 962, 963, 964, 965, 966, 967, 968, 1014, 1015, 1016, 1006, 1007, 1008, 1009, 1010, 1011, 1012, 1013, 1029, 1030, 1031, 1032, 1033] (by decide +kernel) (by decide +kernel)
set_option maxRecDepth 20000 in
theorem gL_law_X9_back : GoodIn wsL_law (wsV RL 122 RX9 yX9_back wsX9_back) := goodIn_app (goodIn_of _ (by decide +kernel)) ggL_law_X9_back
set_option maxRecDepth 20000 in
theorem ggL_law_X10_back : GoodIn wsL_law wsX10_back := goodIn_r _ [945, 310, 275, 278, 309, 969, 970, 971, 972, 973, 974, 975, 976, 977, 978, 979, 980, 981, 982, 983, 984, 985, 986, 987, 988, 989, 990, 991, 992, 993] (by decide +kernel) (by decide +kernel)
set_option maxRecDepth 20000 in
theorem gL_law_X10_back : GoodIn wsL_law (wsV RL 125 RX10 yX10_back wsX10_back) := goodIn_app (goodIn_of _ (by decide +kernel)) ggL_law_X10_back
set_option maxRecDepth 20000 in
theorem ggL_law_X9_count : GoodIn wsL_law wsX9_count := goodIn_r _ [949, 19, 24, 33, 28, 29, 15, 391, 239, 240, 18, 241, 177, 950, 907, 908, 909, 178, 467, 468, 469, 23, 470, 226, 951, 952, 953, 954, 180, 406, 407, 408, 409, 68, 586, 506, 507, 67, 508, 235, 418, 419, 420, 421, 237, 745, 746, 747, 32, 748, 264, 632, 633, 634, 27, 635, 259, 319, 320, 321, 14, 322, 164, 526, 527, 528, 529, 225, 959, 960, 961, 962, 963, 964, 965, 966, 967, 968, 997, 998, 999, 1000, 1001, 1002, 1003, 1004, 1005, 1006, 1007, 1008, 1009, 1010, 1011, 1012, 1013, 1029, 1030, 1031, 1032, 1033, 1017, 1018, 1019, 1020, 1014, 1015, 1016, 994, 995, 996] (by decide +kernel) (by decide +kernel)
set_option maxRecDepth 20000 in
theorem gL_law_X9_count : GoodIn wsL_law (wsV RL 126 RX9 yX9_count wsX9_count) := goodIn_app (goodIn_of _ (by decide +kernel)) ggL_law_X9_count
set_option maxRecDepth 20000 in
theorem ggL_law_X10_count : GoodIn wsL_law wsX10_count := goodIn_r _ [958, 306, 307, 275, 308, 311, 309, 310, 327, 969, 970, 971, 972, 973, 974, 975, 976, 977, 978, 979, 980, 981, 982, 983, 984, 985, 986, 987, 988, 989, 990, 991, 992, 993] (by decide +kernel) (by decide +kernel)
set_option maxRecDepth 20000 in
theorem gL_law_X10_count : GoodIn wsL_law (wsV RL 129 RX10 yX10_count wsX10_count) := goodIn_app (goodIn_of _ (by decide +kernel)) ggL_law_X10_count
theorem dL_law_0 : decode cL_law 0 = .ok (.new 7, 3) := by decide +kernel
theorem dL_law_3 : decode cL_law 3 = .ok (.dup, 1) := by decide +kernel
theorem dL_law_4 : decode cL_law 4 = .ok (.invokespecial 9, 3) := by decide +kernel
theorem dL_law_7 : decode cL_law 7 = .ok (.astore_n 1, 1) := by decide +kernel
theorem dL_law_8 : decode cL_law 8 = .ok (.new 10, 3) := by decide +kernel
theorem dL_law_11 : decode cL_law 11 = .ok (.dup, 1) := by decide +kernel
theorem dL_law_12 : decode cL_law 12 = .ok (.invokespecial 12, 3) := by decide +kernel
theorem dL_law_15 : decode cL_law 15 = .ok (.astore_n 2, 1) := by decide +kernel
theorem dL_law_16 : decode cL_law 16 = .ok (.iconst 0, 1) := by decide +kernel
theorem dL_law_17 : decode cL_law 17 = .ok (.istore_n 3, 1) := by decide +kernel
theorem dL_law_18 : decode cL_law 18 = .ok (.iload_n 3, 1) := by decide +kernel
theorem dL_law_19 : decode cL_law 19 = .ok (.aload_n 0, 1) := by decide +kernel
theorem dL_law_20 : decode cL_law 20 = .ok (.arraylength, 1) := by decide +kernel
theorem dL_law_21 : decode cL_law 21 = .ok (.iconst 4, 1) := by decide +kernel
theorem dL_law_22 : decode cL_law 22 = .ok (.isub, 1) := by decide +kernel
theorem dL_law_23 : decode cL_law 23 = .ok (.if_icmp .gt 798, 3) := by decide +kernel
theorem dL_law_26 : decode cL_law 26 = .ok (.aload_n 0, 1) := by decide +kernel
theorem dL_law_27 : decode cL_law 27 = .ok (.iload_n 3, 1) := by decide +kernel
theorem dL_law_28 : decode cL_law 28 = .ok (.iaload, 1) := by decide +kernel
theorem dL_law_29 : decode cL_law 29 = .ok (.bipush 31, 2) := by decide +kernel
theorem dL_law_31 : decode cL_law 31 = .ok (.iand, 1) := by decide +kernel
theorem dL_law_32 : decode cL_law 32 = .ok (.tableswitch 783 0 27 #[128, 151, 164, 177, 190, 223, 256, 289, 322, 355, 368, 391, 404, 427, 440, 463, 486, 519, 552, 565, 588, 601, 634, 647, 691, 734, 747, 760], 128) := by decide +kernel
theorem dL_law_160 : decode cL_law 160 = .ok (.aload_n 1, 1) := by decide +kernel
theorem dL_law_161 : decode cL_law 161 = .ok (.aload_n 0, 1) := by decide +kernel
theorem dL_law_162 : decode cL_law 162 = .ok (.iload_n 3, 1) := by decide +kernel
theorem dL_law_163 : decode cL_law 163 = .ok (.iconst 1, 1) := by decide +kernel
theorem dL_law_164 : decode cL_law 164 = .ok (.iadd, 1) := by decide +kernel
theorem dL_law_165 : decode cL_law 165 = .ok (.iaload, 1) := by decide +kernel
theorem dL_law_166 : decode cL_law 166 = .ok (.invokevirtual 13, 3) := by decide +kernel
theorem dL_law_169 : decode cL_law 169 = .ok (.aload_n 2, 1) := by decide +kernel
theorem dL_law_170 : decode cL_law 170 = .ok (.aload_n 0, 1) := by decide +kernel
theorem dL_law_171 : decode cL_law 171 = .ok (.iload_n 3, 1) := by decide +kernel
theorem dL_law_172 : decode cL_law 172 = .ok (.iconst 1, 1) := by decide +kernel
theorem dL_law_173 : decode cL_law 173 = .ok (.iadd, 1) := by decide +kernel
theorem dL_law_174 : decode cL_law 174 = .ok (.iaload, 1) := by decide +kernel
theorem dL_law_175 : decode cL_law 175 = .ok (.invokevirtual 17, 3) := by decide +kernel
theorem dL_law_178 : decode cL_law 178 = .ok (.if_icmp .eq 637, 3) := by decide +kernel
theorem dL_law_181 : decode cL_law 181 = .ok (.iconst 0, 1) := by decide +kernel
theorem dL_law_182 : decode cL_law 182 = .ok (.ireturn, 1) := by decide +kernel
theorem dL_law_183 : decode cL_law 183 = .ok (.aload_n 1, 1) := by decide +kernel
theorem dL_law_184 : decode cL_law 184 = .ok (.invokevirtual 18, 3) := by decide +kernel
theorem dL_law_187 : decode cL_law 187 = .ok (.aload_n 2, 1) := by decide +kernel
theorem dL_law_188 : decode cL_law 188 = .ok (.invokevirtual 22, 3) := by decide +kernel
theorem dL_law_191 : decode cL_law 191 = .ok (.if_icmp .eq 624, 3) := by decide +kernel
theorem dL_law_194 : decode cL_law 194 = .ok (.iconst 0, 1) := by decide +kernel
theorem dL_law_195 : decode cL_law 195 = .ok (.ireturn, 1) := by decide +kernel
theorem dL_law_196 : decode cL_law 196 = .ok (.aload_n 1, 1) := by decide +kernel
theorem dL_law_197 : decode cL_law 197 = .ok (.invokevirtual 23, 3) := by decide +kernel
theorem dL_law_200 : decode cL_law 200 = .ok (.aload_n 2, 1) := by decide +kernel
theorem dL_law_201 : decode cL_law 201 = .ok (.invokevirtual 26, 3) := by decide +kernel
theorem dL_law_204 : decode cL_law 204 = .ok (.if_icmp .eq 611, 3) := by decide +kernel
theorem dL_law_207 : decode cL_law 207 = .ok (.iconst 0, 1) := by decide +kernel
theorem dL_law_208 : decode cL_law 208 = .ok (.ireturn, 1) := by decide +kernel
theorem dL_law_209 : decode cL_law 209 = .ok (.aload_n 1, 1) := by decide +kernel
theorem dL_law_210 : decode cL_law 210 = .ok (.invokevirtual 27, 3) := by decide +kernel
theorem dL_law_213 : decode cL_law 213 = .ok (.aload_n 2, 1) := by decide +kernel
theorem dL_law_214 : decode cL_law 214 = .ok (.invokevirtual 30, 3) := by decide +kernel
theorem dL_law_217 : decode cL_law 217 = .ok (.if_icmp .eq 598, 3) := by decide +kernel
theorem dL_law_220 : decode cL_law 220 = .ok (.iconst 0, 1) := by decide +kernel
theorem dL_law_221 : decode cL_law 221 = .ok (.ireturn, 1) := by decide +kernel
theorem dL_law_222 : decode cL_law 222 = .ok (.aload_n 1, 1) := by decide +kernel
theorem dL_law_223 : decode cL_law 223 = .ok (.aload_n 0, 1) := by decide +kernel
theorem dL_law_224 : decode cL_law 224 = .ok (.iload_n 3, 1) := by decide +kernel
theorem dL_law_225 : decode cL_law 225 = .ok (.iconst 1, 1) := by decide +kernel
theorem dL_law_226 : decode cL_law 226 = .ok (.iadd, 1) := by decide +kernel
theorem dL_law_227 : decode cL_law 227 = .ok (.iaload, 1) := by decide +kernel
theorem dL_law_228 : decode cL_law 228 = .ok (.aload_n 0, 1) := by decide +kernel
theorem dL_law_229 : decode cL_law 229 = .ok (.iload_n 3, 1) := by decide +kernel
theorem dL_law_230 : decode cL_law 230 = .ok (.iconst 2, 1) := by decide +kernel
theorem dL_law_231 : decode cL_law 231 = .ok (.iadd, 1) := by decide +kernel
theorem dL_law_232 : decode cL_law 232 = .ok (.iaload, 1) := by decide +kernel
theorem dL_law_233 : decode cL_law 233 = .ok (.invokevirtual 31, 3) := by decide +kernel
theorem dL_law_236 : decode cL_law 236 = .ok (.aload_n 2, 1) := by decide +kernel
theorem dL_law_237 : decode cL_law 237 = .ok (.aload_n 0, 1) := by decide +kernel
theorem dL_law_238 : decode cL_law 238 = .ok (.iload_n 3, 1) := by decide +kernel
theorem dL_law_239 : decode cL_law 239 = .ok (.iconst 1, 1) := by decide +kernel
theorem dL_law_240 : decode cL_law 240 = .ok (.iadd, 1) := by decide +kernel
theorem dL_law_241 : decode cL_law 241 = .ok (.iaload, 1) := by decide +kernel
theorem dL_law_242 : decode cL_law 242 = .ok (.aload_n 0, 1) := by decide +kernel
theorem dL_law_243 : decode cL_law 243 = .ok (.iload_n 3, 1) := by decide +kernel
theorem dL_law_244 : decode cL_law 244 = .ok (.iconst 2, 1) := by decide +kernel
theorem dL_law_245 : decode cL_law 245 = .ok (.iadd, 1) := by decide +kernel
theorem dL_law_246 : decode cL_law 246 = .ok (.iaload, 1) := by decide +kernel
theorem dL_law_247 : decode cL_law 247 = .ok (.invokevirtual 35, 3) := by decide +kernel
theorem dL_law_250 : decode cL_law 250 = .ok (.if_icmp .eq 565, 3) := by decide +kernel
theorem dL_law_253 : decode cL_law 253 = .ok (.iconst 0, 1) := by decide +kernel
theorem dL_law_254 : decode cL_law 254 = .ok (.ireturn, 1) := by decide +kernel
theorem dL_law_255 : decode cL_law 255 = .ok (.aload_n 1, 1) := by decide +kernel
theorem dL_law_256 : decode cL_law 256 = .ok (.aload_n 0, 1) := by decide +kernel
theorem dL_law_257 : decode cL_law 257 = .ok (.iload_n 3, 1) := by decide +kernel
theorem dL_law_258 : decode cL_law 258 = .ok (.iconst 1, 1) := by decide +kernel
theorem dL_law_259 : decode cL_law 259 = .ok (.iadd, 1) := by decide +kernel
theorem dL_law_260 : decode cL_law 260 = .ok (.iaload, 1) := by decide +kernel
theorem dL_law_261 : decode cL_law 261 = .ok (.aload_n 0, 1) := by decide +kernel
theorem dL_law_262 : decode cL_law 262 = .ok (.iload_n 3, 1) := by decide +kernel
theorem dL_law_263 : decode cL_law 263 = .ok (.iconst 2, 1) := by decide +kernel
theorem dL_law_264 : decode cL_law 264 = .ok (.iadd, 1) := by decide +kernel
theorem dL_law_265 : decode cL_law 265 = .ok (.iaload, 1) := by decide +kernel
theorem dL_law_266 : decode cL_law 266 = .ok (.invokevirtual 36, 3) := by decide +kernel
theorem dL_law_269 : decode cL_law 269 = .ok (.aload_n 2, 1) := by decide +kernel
theorem dL_law_270 : decode cL_law 270 = .ok (.aload_n 0, 1) := by decide +kernel
theorem dL_law_271 : decode cL_law 271 = .ok (.iload_n 3, 1) := by decide +kernel
theorem dL_law_272 : decode cL_law 272 = .ok (.iconst 1, 1) := by decide +kernel
theorem dL_law_273 : decode cL_law 273 = .ok (.iadd, 1) := by decide +kernel
theorem dL_law_274 : decode cL_law 274 = .ok (.iaload, 1) := by decide +kernel
theorem dL_law_275 : decode cL_law 275 = .ok (.aload_n 0, 1) := by decide +kernel
theorem dL_law_276 : decode cL_law 276 = .ok (.iload_n 3, 1) := by decide +kernel
theorem dL_law_277 : decode cL_law 277 = .ok (.iconst 2, 1) := by decide +kernel
theorem dL_law_278 : decode cL_law 278 = .ok (.iadd, 1) := by decide +kernel
theorem dL_law_279 : decode cL_law 279 = .ok (.iaload, 1) := by decide +kernel
theorem dL_law_280 : decode cL_law 280 = .ok (.invokevirtual 39, 3) := by decide +kernel
theorem dL_law_283 : decode cL_law 283 = .ok (.if_icmp .eq 532, 3) := by decide +kernel
theorem dL_law_286 : decode cL_law 286 = .ok (.iconst 0, 1) := by decide +kernel
theorem dL_law_287 : decode cL_law 287 = .ok (.ireturn, 1) := by decide +kernel
theorem dL_law_288 : decode cL_law 288 = .ok (.aload_n 1, 1) := by decide +kernel
theorem dL_law_289 : decode cL_law 289 = .ok (.aload_n 0, 1) := by decide +kernel
theorem dL_law_290 : decode cL_law 290 = .ok (.iload_n 3, 1) := by decide +kernel
theorem dL_law_291 : decode cL_law 291 = .ok (.iconst 1, 1) := by decide +kernel
theorem dL_law_292 : decode cL_law 292 = .ok (.iadd, 1) := by decide +kernel
theorem dL_law_293 : decode cL_law 293 = .ok (.iaload, 1) := by decide +kernel
theorem dL_law_294 : decode cL_law 294 = .ok (.aload_n 0, 1) := by decide +kernel
theorem dL_law_295 : decode cL_law 295 = .ok (.iload_n 3, 1) := by decide +kernel
theorem dL_law_296 : decode cL_law 296 = .ok (.iconst 2, 1) := by decide +kernel
theorem dL_law_297 : decode cL_law 297 = .ok (.iadd, 1) := by decide +kernel
theorem dL_law_298 : decode cL_law 298 = .ok (.iaload, 1) := by decide +kernel
theorem dL_law_299 : decode cL_law 299 = .ok (.invokevirtual 40, 3) := by decide +kernel
theorem dL_law_302 : decode cL_law 302 = .ok (.aload_n 2, 1) := by decide +kernel
theorem dL_law_303 : decode cL_law 303 = .ok (.aload_n 0, 1) := by decide +kernel
theorem dL_law_304 : decode cL_law 304 = .ok (.iload_n 3, 1) := by decide +kernel
theorem dL_law_305 : decode cL_law 305 = .ok (.iconst 1, 1) := by decide +kernel
theorem dL_law_306 : decode cL_law 306 = .ok (.iadd, 1) := by decide +kernel
theorem dL_law_307 : decode cL_law 307 = .ok (.iaload, 1) := by decide +kernel
theorem dL_law_308 : decode cL_law 308 = .ok (.aload_n 0, 1) := by decide +kernel
theorem dL_law_309 : decode cL_law 309 = .ok (.iload_n 3, 1) := by decide +kernel
theorem dL_law_310 : decode cL_law 310 = .ok (.iconst 2, 1) := by decide +kernel
theorem dL_law_311 : decode cL_law 311 = .ok (.iadd, 1) := by decide +kernel
theorem dL_law_312 : decode cL_law 312 = .ok (.iaload, 1) := by decide +kernel
theorem dL_law_313 : decode cL_law 313 = .ok (.invokevirtual 43, 3) := by decide +kernel
theorem dL_law_316 : decode cL_law 316 = .ok (.if_icmp .eq 499, 3) := by decide +kernel
theorem dL_law_319 : decode cL_law 319 = .ok (.iconst 0, 1) := by decide +kernel
theorem dL_law_320 : decode cL_law 320 = .ok (.ireturn, 1) := by decide +kernel
theorem dL_law_321 : decode cL_law 321 = .ok (.aload_n 1, 1) := by decide +kernel
theorem dL_law_322 : decode cL_law 322 = .ok (.aload_n 0, 1) := by decide +kernel
theorem dL_law_323 : decode cL_law 323 = .ok (.iload_n 3, 1) := by decide +kernel
theorem dL_law_324 : decode cL_law 324 = .ok (.iconst 1, 1) := by decide +kernel
theorem dL_law_325 : decode cL_law 325 = .ok (.iadd, 1) := by decide +kernel
theorem dL_law_326 : decode cL_law 326 = .ok (.iaload, 1) := by decide +kernel
theorem dL_law_327 : decode cL_law 327 = .ok (.aload_n 0, 1) := by decide +kernel
theorem dL_law_328 : decode cL_law 328 = .ok (.iload_n 3, 1) := by decide +kernel
theorem dL_law_329 : decode cL_law 329 = .ok (.iconst 2, 1) := by decide +kernel
theorem dL_law_330 : decode cL_law 330 = .ok (.iadd, 1) := by decide +kernel
theorem dL_law_331 : decode cL_law 331 = .ok (.iaload, 1) := by decide +kernel
theorem dL_law_332 : decode cL_law 332 = .ok (.invokevirtual 44, 3) := by decide +kernel
theorem dL_law_335 : decode cL_law 335 = .ok (.aload_n 2, 1) := by decide +kernel
theorem dL_law_336 : decode cL_law 336 = .ok (.aload_n 0, 1) := by decide +kernel
theorem dL_law_337 : decode cL_law 337 = .ok (.iload_n 3, 1) := by decide +kernel
theorem dL_law_338 : decode cL_law 338 = .ok (.iconst 1, 1) := by decide +kernel
theorem dL_law_339 : decode cL_law 339 = .ok (.iadd, 1) := by decide +kernel
theorem dL_law_340 : decode cL_law 340 = .ok (.iaload, 1) := by decide +kernel
theorem dL_law_341 : decode cL_law 341 = .ok (.aload_n 0, 1) := by decide +kernel
theorem dL_law_342 : decode cL_law 342 = .ok (.iload_n 3, 1) := by decide +kernel
theorem dL_law_343 : decode cL_law 343 = .ok (.iconst 2, 1) := by decide +kernel
theorem dL_law_344 : decode cL_law 344 = .ok (.iadd, 1) := by decide +kernel
theorem dL_law_345 : decode cL_law 345 = .ok (.iaload, 1) := by decide +kernel
theorem dL_law_346 : decode cL_law 346 = .ok (.invokevirtual 47, 3) := by decide +kernel
theorem dL_law_349 : decode cL_law 349 = .ok (.if_icmp .eq 466, 3) := by decide +kernel
theorem dL_law_352 : decode cL_law 352 = .ok (.iconst 0, 1) := by decide +kernel
theorem dL_law_353 : decode cL_law 353 = .ok (.ireturn, 1) := by decide +kernel
theorem dL_law_354 : decode cL_law 354 = .ok (.aload_n 1, 1) := by decide +kernel
theorem dL_law_355 : decode cL_law 355 = .ok (.aload_n 0, 1) := by decide +kernel
theorem dL_law_356 : decode cL_law 356 = .ok (.iload_n 3, 1) := by decide +kernel
theorem dL_law_357 : decode cL_law 357 = .ok (.iconst 1, 1) := by decide +kernel
theorem dL_law_358 : decode cL_law 358 = .ok (.iadd, 1) := by decide +kernel
theorem dL_law_359 : decode cL_law 359 = .ok (.iaload, 1) := by decide +kernel
theorem dL_law_360 : decode cL_law 360 = .ok (.aload_n 0, 1) := by decide +kernel
theorem dL_law_361 : decode cL_law 361 = .ok (.iload_n 3, 1) := by decide +kernel
theorem dL_law_362 : decode cL_law 362 = .ok (.iconst 2, 1) := by decide +kernel
theorem dL_law_363 : decode cL_law 363 = .ok (.iadd, 1) := by decide +kernel
theorem dL_law_364 : decode cL_law 364 = .ok (.iaload, 1) := by decide +kernel
theorem dL_law_365 : decode cL_law 365 = .ok (.invokevirtual 48, 3) := by decide +kernel
theorem dL_law_368 : decode cL_law 368 = .ok (.aload_n 2, 1) := by decide +kernel
theorem dL_law_369 : decode cL_law 369 = .ok (.aload_n 0, 1) := by decide +kernel
theorem dL_law_370 : decode cL_law 370 = .ok (.iload_n 3, 1) := by decide +kernel
theorem dL_law_371 : decode cL_law 371 = .ok (.iconst 1, 1) := by decide +kernel
theorem dL_law_372 : decode cL_law 372 = .ok (.iadd, 1) := by decide +kernel
theorem dL_law_373 : decode cL_law 373 = .ok (.iaload, 1) := by decide +kernel
theorem dL_law_374 : decode cL_law 374 = .ok (.aload_n 0, 1) := by decide +kernel
theorem dL_law_375 : decode cL_law 375 = .ok (.iload_n 3, 1) := by decide +kernel
theorem dL_law_376 : decode cL_law 376 = .ok (.iconst 2, 1) := by decide +kernel
theorem dL_law_377 : decode cL_law 377 = .ok (.iadd, 1) := by decide +kernel
theorem dL_law_378 : decode cL_law 378 = .ok (.iaload, 1) := by decide +kernel
theorem dL_law_379 : decode cL_law 379 = .ok (.invokevirtual 51, 3) := by decide +kernel
theorem dL_law_382 : decode cL_law 382 = .ok (.if_icmp .eq 433, 3) := by decide +kernel
theorem dL_law_385 : decode cL_law 385 = .ok (.iconst 0, 1) := by decide +kernel
theorem dL_law_386 : decode cL_law 386 = .ok (.ireturn, 1) := by decide +kernel
theorem dL_law_387 : decode cL_law 387 = .ok (.aload_n 1, 1) := by decide +kernel
theorem dL_law_388 : decode cL_law 388 = .ok (.invokevirtual 52, 3) := by decide +kernel
theorem dL_law_391 : decode cL_law 391 = .ok (.aload_n 2, 1) := by decide +kernel
theorem dL_law_392 : decode cL_law 392 = .ok (.invokevirtual 55, 3) := by decide +kernel
theorem dL_law_395 : decode cL_law 395 = .ok (.if_icmp .eq 420, 3) := by decide +kernel
theorem dL_law_398 : decode cL_law 398 = .ok (.iconst 0, 1) := by decide +kernel
theorem dL_law_399 : decode cL_law 399 = .ok (.ireturn, 1) := by decide +kernel
theorem dL_law_400 : decode cL_law 400 = .ok (.aload_n 1, 1) := by decide +kernel
theorem dL_law_401 : decode cL_law 401 = .ok (.aload_n 0, 1) := by decide +kernel
theorem dL_law_402 : decode cL_law 402 = .ok (.iload_n 3, 1) := by decide +kernel
theorem dL_law_403 : decode cL_law 403 = .ok (.iconst 1, 1) := by decide +kernel
theorem dL_law_404 : decode cL_law 404 = .ok (.iadd, 1) := by decide +kernel
theorem dL_law_405 : decode cL_law 405 = .ok (.iaload, 1) := by decide +kernel
theorem dL_law_406 : decode cL_law 406 = .ok (.invokevirtual 56, 3) := by decide +kernel
theorem dL_law_409 : decode cL_law 409 = .ok (.aload_n 2, 1) := by decide +kernel
theorem dL_law_410 : decode cL_law 410 = .ok (.aload_n 0, 1) := by decide +kernel
theorem dL_law_411 : decode cL_law 411 = .ok (.iload_n 3, 1) := by decide +kernel
theorem dL_law_412 : decode cL_law 412 = .ok (.iconst 1, 1) := by decide +kernel
theorem dL_law_413 : decode cL_law 413 = .ok (.iadd, 1) := by decide +kernel
theorem dL_law_414 : decode cL_law 414 = .ok (.iaload, 1) := by decide +kernel
theorem dL_law_415 : decode cL_law 415 = .ok (.invokevirtual 59, 3) := by decide +kernel
theorem dL_law_418 : decode cL_law 418 = .ok (.if_icmp .eq 397, 3) := by decide +kernel
theorem dL_law_421 : decode cL_law 421 = .ok (.iconst 0, 1) := by decide +kernel
theorem dL_law_422 : decode cL_law 422 = .ok (.ireturn, 1) := by decide +kernel
theorem dL_law_423 : decode cL_law 423 = .ok (.aload_n 1, 1) := by decide +kernel
theorem dL_law_424 : decode cL_law 424 = .ok (.invokevirtual 60, 3) := by decide +kernel
theorem dL_law_427 : decode cL_law 427 = .ok (.aload_n 2, 1) := by decide +kernel
theorem dL_law_428 : decode cL_law 428 = .ok (.invokevirtual 63, 3) := by decide +kernel
theorem dL_law_431 : decode cL_law 431 = .ok (.if_icmp .eq 384, 3) := by decide +kernel
theorem dL_law_434 : decode cL_law 434 = .ok (.iconst 0, 1) := by decide +kernel
theorem dL_law_435 : decode cL_law 435 = .ok (.ireturn, 1) := by decide +kernel
theorem dL_law_436 : decode cL_law 436 = .ok (.aload_n 1, 1) := by decide +kernel
theorem dL_law_437 : decode cL_law 437 = .ok (.aload_n 0, 1) := by decide +kernel
theorem dL_law_438 : decode cL_law 438 = .ok (.iload_n 3, 1) := by decide +kernel
theorem dL_law_439 : decode cL_law 439 = .ok (.iconst 1, 1) := by decide +kernel
theorem dL_law_440 : decode cL_law 440 = .ok (.iadd, 1) := by decide +kernel
theorem dL_law_441 : decode cL_law 441 = .ok (.iaload, 1) := by decide +kernel
theorem dL_law_442 : decode cL_law 442 = .ok (.invokevirtual 64, 3) := by decide +kernel
theorem dL_law_445 : decode cL_law 445 = .ok (.aload_n 2, 1) := by decide +kernel
theorem dL_law_446 : decode cL_law 446 = .ok (.aload_n 0, 1) := by decide +kernel
theorem dL_law_447 : decode cL_law 447 = .ok (.iload_n 3, 1) := by decide +kernel
theorem dL_law_448 : decode cL_law 448 = .ok (.iconst 1, 1) := by decide +kernel
theorem dL_law_449 : decode cL_law 449 = .ok (.iadd, 1) := by decide +kernel
theorem dL_law_450 : decode cL_law 450 = .ok (.iaload, 1) := by decide +kernel
theorem dL_law_451 : decode cL_law 451 = .ok (.invokevirtual 67, 3) := by decide +kernel
theorem dL_law_454 : decode cL_law 454 = .ok (.if_icmp .eq 361, 3) := by decide +kernel
theorem dL_law_457 : decode cL_law 457 = .ok (.iconst 0, 1) := by decide +kernel
theorem dL_law_458 : decode cL_law 458 = .ok (.ireturn, 1) := by decide +kernel
theorem dL_law_459 : decode cL_law 459 = .ok (.aload_n 1, 1) := by decide +kernel
theorem dL_law_460 : decode cL_law 460 = .ok (.invokevirtual 68, 3) := by decide +kernel
theorem dL_law_463 : decode cL_law 463 = .ok (.aload_n 2, 1) := by decide +kernel
theorem dL_law_464 : decode cL_law 464 = .ok (.invokevirtual 71, 3) := by decide +kernel
theorem dL_law_467 : decode cL_law 467 = .ok (.if_icmp .eq 348, 3) := by decide +kernel
theorem dL_law_470 : decode cL_law 470 = .ok (.iconst 0, 1) := by decide +kernel
theorem dL_law_471 : decode cL_law 471 = .ok (.ireturn, 1) := by decide +kernel
theorem dL_law_472 : decode cL_law 472 = .ok (.aload_n 1, 1) := by decide +kernel
theorem dL_law_473 : decode cL_law 473 = .ok (.aload_n 0, 1) := by decide +kernel
theorem dL_law_474 : decode cL_law 474 = .ok (.iload_n 3, 1) := by decide +kernel
theorem dL_law_475 : decode cL_law 475 = .ok (.iconst 1, 1) := by decide +kernel
theorem dL_law_476 : decode cL_law 476 = .ok (.iadd, 1) := by decide +kernel
theorem dL_law_477 : decode cL_law 477 = .ok (.iaload, 1) := by decide +kernel
theorem dL_law_478 : decode cL_law 478 = .ok (.invokevirtual 72, 3) := by decide +kernel
theorem dL_law_481 : decode cL_law 481 = .ok (.aload_n 2, 1) := by decide +kernel
theorem dL_law_482 : decode cL_law 482 = .ok (.aload_n 0, 1) := by decide +kernel
theorem dL_law_483 : decode cL_law 483 = .ok (.iload_n 3, 1) := by decide +kernel
theorem dL_law_484 : decode cL_law 484 = .ok (.iconst 1, 1) := by decide +kernel
theorem dL_law_485 : decode cL_law 485 = .ok (.iadd, 1) := by decide +kernel
theorem dL_law_486 : decode cL_law 486 = .ok (.iaload, 1) := by decide +kernel
theorem dL_law_487 : decode cL_law 487 = .ok (.invokevirtual 75, 3) := by decide +kernel
theorem dL_law_490 : decode cL_law 490 = .ok (.if_icmp .eq 325, 3) := by decide +kernel
theorem dL_law_493 : decode cL_law 493 = .ok (.iconst 0, 1) := by decide +kernel
theorem dL_law_494 : decode cL_law 494 = .ok (.ireturn, 1) := by decide +kernel
theorem dL_law_495 : decode cL_law 495 = .ok (.aload_n 1, 1) := by decide +kernel
theorem dL_law_496 : decode cL_law 496 = .ok (.aload_n 0, 1) := by decide +kernel
theorem dL_law_497 : decode cL_law 497 = .ok (.iload_n 3, 1) := by decide +kernel
theorem dL_law_498 : decode cL_law 498 = .ok (.iconst 1, 1) := by decide +kernel
theorem dL_law_499 : decode cL_law 499 = .ok (.iadd, 1) := by decide +kernel
theorem dL_law_500 : decode cL_law 500 = .ok (.iaload, 1) := by decide +kernel
theorem dL_law_501 : decode cL_law 501 = .ok (.invokevirtual 76, 3) := by decide +kernel
theorem dL_law_504 : decode cL_law 504 = .ok (.aload_n 2, 1) := by decide +kernel
theorem dL_law_505 : decode cL_law 505 = .ok (.aload_n 0, 1) := by decide +kernel
theorem dL_law_506 : decode cL_law 506 = .ok (.iload_n 3, 1) := by decide +kernel
theorem dL_law_507 : decode cL_law 507 = .ok (.iconst 1, 1) := by decide +kernel
theorem dL_law_508 : decode cL_law 508 = .ok (.iadd, 1) := by decide +kernel
theorem dL_law_509 : decode cL_law 509 = .ok (.iaload, 1) := by decide +kernel
theorem dL_law_510 : decode cL_law 510 = .ok (.invokevirtual 79, 3) := by decide +kernel
theorem dL_law_513 : decode cL_law 513 = .ok (.if_icmp .eq 302, 3) := by decide +kernel
theorem dL_law_516 : decode cL_law 516 = .ok (.iconst 0, 1) := by decide +kernel
theorem dL_law_517 : decode cL_law 517 = .ok (.ireturn, 1) := by decide +kernel
theorem dL_law_518 : decode cL_law 518 = .ok (.aload_n 1, 1) := by decide +kernel
theorem dL_law_519 : decode cL_law 519 = .ok (.aload_n 0, 1) := by decide +kernel
theorem dL_law_520 : decode cL_law 520 = .ok (.iload_n 3, 1) := by decide +kernel
theorem dL_law_521 : decode cL_law 521 = .ok (.iconst 1, 1) := by decide +kernel
theorem dL_law_522 : decode cL_law 522 = .ok (.iadd, 1) := by decide +kernel
theorem dL_law_523 : decode cL_law 523 = .ok (.iaload, 1) := by decide +kernel
theorem dL_law_524 : decode cL_law 524 = .ok (.aload_n 0, 1) := by decide +kernel
theorem dL_law_525 : decode cL_law 525 = .ok (.iload_n 3, 1) := by decide +kernel
theorem dL_law_526 : decode cL_law 526 = .ok (.iconst 2, 1) := by decide +kernel
theorem dL_law_527 : decode cL_law 527 = .ok (.iadd, 1) := by decide +kernel
theorem dL_law_528 : decode cL_law 528 = .ok (.iaload, 1) := by decide +kernel
theorem dL_law_529 : decode cL_law 529 = .ok (.invokevirtual 80, 3) := by decide +kernel
theorem dL_law_532 : decode cL_law 532 = .ok (.aload_n 2, 1) := by decide +kernel
theorem dL_law_533 : decode cL_law 533 = .ok (.aload_n 0, 1) := by decide +kernel
theorem dL_law_534 : decode cL_law 534 = .ok (.iload_n 3, 1) := by decide +kernel
theorem dL_law_535 : decode cL_law 535 = .ok (.iconst 1, 1) := by decide +kernel
theorem dL_law_536 : decode cL_law 536 = .ok (.iadd, 1) := by decide +kernel
theorem dL_law_537 : decode cL_law 537 = .ok (.iaload, 1) := by decide +kernel
theorem dL_law_538 : decode cL_law 538 = .ok (.aload_n 0, 1) := by decide +kernel
theorem dL_law_539 : decode cL_law 539 = .ok (.iload_n 3, 1) := by decide +kernel
theorem dL_law_540 : decode cL_law 540 = .ok (.iconst 2, 1) := by decide +kernel
theorem dL_law_541 : decode cL_law 541 = .ok (.iadd, 1) := by decide +kernel
theorem dL_law_542 : decode cL_law 542 = .ok (.iaload, 1) := by decide +kernel
theorem dL_law_543 : decode cL_law 543 = .ok (.invokevirtual 83, 3) := by decide +kernel
theorem dL_law_546 : decode cL_law 546 = .ok (.if_icmp .eq 269, 3) := by decide +kernel
theorem dL_law_549 : decode cL_law 549 = .ok (.iconst 0, 1) := by decide +kernel
theorem dL_law_550 : decode cL_law 550 = .ok (.ireturn, 1) := by decide +kernel
theorem dL_law_551 : decode cL_law 551 = .ok (.aload_n 1, 1) := by decide +kernel
theorem dL_law_552 : decode cL_law 552 = .ok (.aload_n 0, 1) := by decide +kernel
theorem dL_law_553 : decode cL_law 553 = .ok (.iload_n 3, 1) := by decide +kernel
theorem dL_law_554 : decode cL_law 554 = .ok (.iconst 1, 1) := by decide +kernel
theorem dL_law_555 : decode cL_law 555 = .ok (.iadd, 1) := by decide +kernel
theorem dL_law_556 : decode cL_law 556 = .ok (.iaload, 1) := by decide +kernel
theorem dL_law_557 : decode cL_law 557 = .ok (.aload_n 0, 1) := by decide +kernel
theorem dL_law_558 : decode cL_law 558 = .ok (.iload_n 3, 1) := by decide +kernel
theorem dL_law_559 : decode cL_law 559 = .ok (.iconst 2, 1) := by decide +kernel
theorem dL_law_560 : decode cL_law 560 = .ok (.iadd, 1) := by decide +kernel
theorem dL_law_561 : decode cL_law 561 = .ok (.iaload, 1) := by decide +kernel
theorem dL_law_562 : decode cL_law 562 = .ok (.invokevirtual 84, 3) := by decide +kernel
theorem dL_law_565 : decode cL_law 565 = .ok (.aload_n 2, 1) := by decide +kernel
theorem dL_law_566 : decode cL_law 566 = .ok (.aload_n 0, 1) := by decide +kernel
theorem dL_law_567 : decode cL_law 567 = .ok (.iload_n 3, 1) := by decide +kernel
theorem dL_law_568 : decode cL_law 568 = .ok (.iconst 1, 1) := by decide +kernel
theorem dL_law_569 : decode cL_law 569 = .ok (.iadd, 1) := by decide +kernel
theorem dL_law_570 : decode cL_law 570 = .ok (.iaload, 1) := by decide +kernel
theorem dL_law_571 : decode cL_law 571 = .ok (.aload_n 0, 1) := by decide +kernel
theorem dL_law_572 : decode cL_law 572 = .ok (.iload_n 3, 1) := by decide +kernel
theorem dL_law_573 : decode cL_law 573 = .ok (.iconst 2, 1) := by decide +kernel
theorem dL_law_574 : decode cL_law 574 = .ok (.iadd, 1) := by decide +kernel
theorem dL_law_575 : decode cL_law 575 = .ok (.iaload, 1) := by decide +kernel
theorem dL_law_576 : decode cL_law 576 = .ok (.invokevirtual 87, 3) := by decide +kernel
theorem dL_law_579 : decode cL_law 579 = .ok (.if_icmp .eq 236, 3) := by decide +kernel
theorem dL_law_582 : decode cL_law 582 = .ok (.iconst 0, 1) := by decide +kernel
theorem dL_law_583 : decode cL_law 583 = .ok (.ireturn, 1) := by decide +kernel
theorem dL_law_584 : decode cL_law 584 = .ok (.aload_n 1, 1) := by decide +kernel
theorem dL_law_585 : decode cL_law 585 = .ok (.invokevirtual 88, 3) := by decide +kernel
theorem dL_law_588 : decode cL_law 588 = .ok (.aload_n 2, 1) := by decide +kernel
theorem dL_law_589 : decode cL_law 589 = .ok (.invokevirtual 91, 3) := by decide +kernel
theorem dL_law_592 : decode cL_law 592 = .ok (.if_icmp .eq 223, 3) := by decide +kernel
theorem dL_law_595 : decode cL_law 595 = .ok (.iconst 0, 1) := by decide +kernel
theorem dL_law_596 : decode cL_law 596 = .ok (.ireturn, 1) := by decide +kernel
theorem dL_law_597 : decode cL_law 597 = .ok (.aload_n 1, 1) := by decide +kernel
theorem dL_law_598 : decode cL_law 598 = .ok (.aload_n 0, 1) := by decide +kernel
theorem dL_law_599 : decode cL_law 599 = .ok (.iload_n 3, 1) := by decide +kernel
theorem dL_law_600 : decode cL_law 600 = .ok (.iconst 1, 1) := by decide +kernel
theorem dL_law_601 : decode cL_law 601 = .ok (.iadd, 1) := by decide +kernel
theorem dL_law_602 : decode cL_law 602 = .ok (.iaload, 1) := by decide +kernel
theorem dL_law_603 : decode cL_law 603 = .ok (.invokevirtual 92, 3) := by decide +kernel
theorem dL_law_606 : decode cL_law 606 = .ok (.aload_n 2, 1) := by decide +kernel
theorem dL_law_607 : decode cL_law 607 = .ok (.aload_n 0, 1) := by decide +kernel
theorem dL_law_608 : decode cL_law 608 = .ok (.iload_n 3, 1) := by decide +kernel
theorem dL_law_609 : decode cL_law 609 = .ok (.iconst 1, 1) := by decide +kernel
theorem dL_law_610 : decode cL_law 610 = .ok (.iadd, 1) := by decide +kernel
theorem dL_law_611 : decode cL_law 611 = .ok (.iaload, 1) := by decide +kernel
theorem dL_law_612 : decode cL_law 612 = .ok (.invokevirtual 95, 3) := by decide +kernel
theorem dL_law_615 : decode cL_law 615 = .ok (.if_icmp .eq 200, 3) := by decide +kernel
theorem dL_law_618 : decode cL_law 618 = .ok (.iconst 0, 1) := by decide +kernel
theorem dL_law_619 : decode cL_law 619 = .ok (.ireturn, 1) := by decide +kernel
theorem dL_law_620 : decode cL_law 620 = .ok (.aload_n 1, 1) := by decide +kernel
theorem dL_law_621 : decode cL_law 621 = .ok (.invokevirtual 96, 3) := by decide +kernel
theorem dL_law_624 : decode cL_law 624 = .ok (.aload_n 2, 1) := by decide +kernel
theorem dL_law_625 : decode cL_law 625 = .ok (.invokevirtual 99, 3) := by decide +kernel
theorem dL_law_628 : decode cL_law 628 = .ok (.if_icmp .eq 187, 3) := by decide +kernel
theorem dL_law_631 : decode cL_law 631 = .ok (.iconst 0, 1) := by decide +kernel
theorem dL_law_632 : decode cL_law 632 = .ok (.ireturn, 1) := by decide +kernel
theorem dL_law_633 : decode cL_law 633 = .ok (.aload_n 1, 1) := by decide +kernel
theorem dL_law_634 : decode cL_law 634 = .ok (.aload_n 0, 1) := by decide +kernel
theorem dL_law_635 : decode cL_law 635 = .ok (.iload_n 3, 1) := by decide +kernel
theorem dL_law_636 : decode cL_law 636 = .ok (.iconst 1, 1) := by decide +kernel
theorem dL_law_637 : decode cL_law 637 = .ok (.iadd, 1) := by decide +kernel
theorem dL_law_638 : decode cL_law 638 = .ok (.iaload, 1) := by decide +kernel
theorem dL_law_639 : decode cL_law 639 = .ok (.aload_n 0, 1) := by decide +kernel
theorem dL_law_640 : decode cL_law 640 = .ok (.iload_n 3, 1) := by decide +kernel
theorem dL_law_641 : decode cL_law 641 = .ok (.iconst 2, 1) := by decide +kernel
theorem dL_law_642 : decode cL_law 642 = .ok (.iadd, 1) := by decide +kernel
theorem dL_law_643 : decode cL_law 643 = .ok (.iaload, 1) := by decide +kernel
theorem dL_law_644 : decode cL_law 644 = .ok (.invokevirtual 100, 3) := by decide +kernel
theorem dL_law_647 : decode cL_law 647 = .ok (.aload_n 2, 1) := by decide +kernel
theorem dL_law_648 : decode cL_law 648 = .ok (.aload_n 0, 1) := by decide +kernel
theorem dL_law_649 : decode cL_law 649 = .ok (.iload_n 3, 1) := by decide +kernel
theorem dL_law_650 : decode cL_law 650 = .ok (.iconst 1, 1) := by decide +kernel
theorem dL_law_651 : decode cL_law 651 = .ok (.iadd, 1) := by decide +kernel
theorem dL_law_652 : decode cL_law 652 = .ok (.iaload, 1) := by decide +kernel
theorem dL_law_653 : decode cL_law 653 = .ok (.aload_n 0, 1) := by decide +kernel
theorem dL_law_654 : decode cL_law 654 = .ok (.iload_n 3, 1) := by decide +kernel
theorem dL_law_655 : decode cL_law 655 = .ok (.iconst 2, 1) := by decide +kernel
theorem dL_law_656 : decode cL_law 656 = .ok (.iadd, 1) := by decide +kernel
theorem dL_law_657 : decode cL_law 657 = .ok (.iaload, 1) := by decide +kernel
theorem dL_law_658 : decode cL_law 658 = .ok (.invokevirtual 103, 3) := by decide +kernel
theorem dL_law_661 : decode cL_law 661 = .ok (.if_icmp .eq 154, 3) := by decide +kernel
theorem dL_law_664 : decode cL_law 664 = .ok (.iconst 0, 1) := by decide +kernel
theorem dL_law_665 : decode cL_law 665 = .ok (.ireturn, 1) := by decide +kernel
theorem dL_law_666 : decode cL_law 666 = .ok (.aload_n 1, 1) := by decide +kernel
theorem dL_law_667 : decode cL_law 667 = .ok (.invokevirtual 104, 3) := by decide +kernel
theorem dL_law_670 : decode cL_law 670 = .ok (.aload_n 2, 1) := by decide +kernel
theorem dL_law_671 : decode cL_law 671 = .ok (.invokevirtual 107, 3) := by decide +kernel
theorem dL_law_674 : decode cL_law 674 = .ok (.if_icmp .eq 141, 3) := by decide +kernel
theorem dL_law_677 : decode cL_law 677 = .ok (.iconst 0, 1) := by decide +kernel
theorem dL_law_678 : decode cL_law 678 = .ok (.ireturn, 1) := by decide +kernel
theorem dL_law_679 : decode cL_law 679 = .ok (.aload_n 1, 1) := by decide +kernel
theorem dL_law_680 : decode cL_law 680 = .ok (.aload_n 0, 1) := by decide +kernel
theorem dL_law_681 : decode cL_law 681 = .ok (.iload_n 3, 1) := by decide +kernel
theorem dL_law_682 : decode cL_law 682 = .ok (.iconst 1, 1) := by decide +kernel
theorem dL_law_683 : decode cL_law 683 = .ok (.iadd, 1) := by decide +kernel
theorem dL_law_684 : decode cL_law 684 = .ok (.iaload, 1) := by decide +kernel
theorem dL_law_685 : decode cL_law 685 = .ok (.aload_n 0, 1) := by decide +kernel
theorem dL_law_686 : decode cL_law 686 = .ok (.iload_n 3, 1) := by decide +kernel
theorem dL_law_687 : decode cL_law 687 = .ok (.iconst 2, 1) := by decide +kernel
theorem dL_law_688 : decode cL_law 688 = .ok (.iadd, 1) := by decide +kernel
theorem dL_law_689 : decode cL_law 689 = .ok (.iaload, 1) := by decide +kernel
theorem dL_law_690 : decode cL_law 690 = .ok (.aload_n 0, 1) := by decide +kernel
theorem dL_law_691 : decode cL_law 691 = .ok (.iload_n 3, 1) := by decide +kernel
theorem dL_law_692 : decode cL_law 692 = .ok (.iconst 3, 1) := by decide +kernel
theorem dL_law_693 : decode cL_law 693 = .ok (.iadd, 1) := by decide +kernel
theorem dL_law_694 : decode cL_law 694 = .ok (.iaload, 1) := by decide +kernel
theorem dL_law_695 : decode cL_law 695 = .ok (.invokevirtual 108, 3) := by decide +kernel
theorem dL_law_698 : decode cL_law 698 = .ok (.aload_n 2, 1) := by decide +kernel
theorem dL_law_699 : decode cL_law 699 = .ok (.aload_n 0, 1) := by decide +kernel
theorem dL_law_700 : decode cL_law 700 = .ok (.iload_n 3, 1) := by decide +kernel
theorem dL_law_701 : decode cL_law 701 = .ok (.iconst 1, 1) := by decide +kernel
theorem dL_law_702 : decode cL_law 702 = .ok (.iadd, 1) := by decide +kernel
theorem dL_law_703 : decode cL_law 703 = .ok (.iaload, 1) := by decide +kernel
theorem dL_law_704 : decode cL_law 704 = .ok (.aload_n 0, 1) := by decide +kernel
theorem dL_law_705 : decode cL_law 705 = .ok (.iload_n 3, 1) := by decide +kernel
theorem dL_law_706 : decode cL_law 706 = .ok (.iconst 2, 1) := by decide +kernel
theorem dL_law_707 : decode cL_law 707 = .ok (.iadd, 1) := by decide +kernel
theorem dL_law_708 : decode cL_law 708 = .ok (.iaload, 1) := by decide +kernel
theorem dL_law_709 : decode cL_law 709 = .ok (.aload_n 0, 1) := by decide +kernel
theorem dL_law_710 : decode cL_law 710 = .ok (.iload_n 3, 1) := by decide +kernel
theorem dL_law_711 : decode cL_law 711 = .ok (.iconst 3, 1) := by decide +kernel
theorem dL_law_712 : decode cL_law 712 = .ok (.iadd, 1) := by decide +kernel
theorem dL_law_713 : decode cL_law 713 = .ok (.iaload, 1) := by decide +kernel
theorem dL_law_714 : decode cL_law 714 = .ok (.invokevirtual 112, 3) := by decide +kernel
theorem dL_law_717 : decode cL_law 717 = .ok (.lcmp, 1) := by decide +kernel
theorem dL_law_718 : decode cL_law 718 = .ok (.ifCond .eq 97, 3) := by decide +kernel
theorem dL_law_721 : decode cL_law 721 = .ok (.iconst 0, 1) := by decide +kernel
theorem dL_law_722 : decode cL_law 722 = .ok (.ireturn, 1) := by decide +kernel
theorem dL_law_723 : decode cL_law 723 = .ok (.aload_n 1, 1) := by decide +kernel
theorem dL_law_724 : decode cL_law 724 = .ok (.aload_n 0, 1) := by decide +kernel
theorem dL_law_725 : decode cL_law 725 = .ok (.iload_n 3, 1) := by decide +kernel
theorem dL_law_726 : decode cL_law 726 = .ok (.iconst 1, 1) := by decide +kernel
theorem dL_law_727 : decode cL_law 727 = .ok (.iadd, 1) := by decide +kernel
theorem dL_law_728 : decode cL_law 728 = .ok (.iaload, 1) := by decide +kernel
theorem dL_law_729 : decode cL_law 729 = .ok (.aload_n 0, 1) := by decide +kernel
theorem dL_law_730 : decode cL_law 730 = .ok (.iload_n 3, 1) := by decide +kernel
theorem dL_law_731 : decode cL_law 731 = .ok (.iconst 2, 1) := by decide +kernel
theorem dL_law_732 : decode cL_law 732 = .ok (.iadd, 1) := by decide +kernel
theorem dL_law_733 : decode cL_law 733 = .ok (.iaload, 1) := by decide +kernel
theorem dL_law_734 : decode cL_law 734 = .ok (.aload_n 0, 1) := by decide +kernel
theorem dL_law_735 : decode cL_law 735 = .ok (.iload_n 3, 1) := by decide +kernel
theorem dL_law_736 : decode cL_law 736 = .ok (.iconst 3, 1) := by decide +kernel
theorem dL_law_737 : decode cL_law 737 = .ok (.iadd, 1) := by decide +kernel
theorem dL_law_738 : decode cL_law 738 = .ok (.iaload, 1) := by decide +kernel
theorem dL_law_739 : decode cL_law 739 = .ok (.invokevirtual 113, 3) := by decide +kernel
theorem dL_law_742 : decode cL_law 742 = .ok (.aload_n 2, 1) := by decide +kernel
theorem dL_law_743 : decode cL_law 743 = .ok (.aload_n 0, 1) := by decide +kernel
theorem dL_law_744 : decode cL_law 744 = .ok (.iload_n 3, 1) := by decide +kernel
theorem dL_law_745 : decode cL_law 745 = .ok (.iconst 1, 1) := by decide +kernel
theorem dL_law_746 : decode cL_law 746 = .ok (.iadd, 1) := by decide +kernel
theorem dL_law_747 : decode cL_law 747 = .ok (.iaload, 1) := by decide +kernel
theorem dL_law_748 : decode cL_law 748 = .ok (.aload_n 0, 1) := by decide +kernel
theorem dL_law_749 : decode cL_law 749 = .ok (.iload_n 3, 1) := by decide +kernel
theorem dL_law_750 : decode cL_law 750 = .ok (.iconst 2, 1) := by decide +kernel
theorem dL_law_751 : decode cL_law 751 = .ok (.iadd, 1) := by decide +kernel
theorem dL_law_752 : decode cL_law 752 = .ok (.iaload, 1) := by decide +kernel
theorem dL_law_753 : decode cL_law 753 = .ok (.aload_n 0, 1) := by decide +kernel
theorem dL_law_754 : decode cL_law 754 = .ok (.iload_n 3, 1) := by decide +kernel
theorem dL_law_755 : decode cL_law 755 = .ok (.iconst 3, 1) := by decide +kernel
theorem dL_law_756 : decode cL_law 756 = .ok (.iadd, 1) := by decide +kernel
theorem dL_law_757 : decode cL_law 757 = .ok (.iaload, 1) := by decide +kernel
theorem dL_law_758 : decode cL_law 758 = .ok (.invokevirtual 117, 3) := by decide +kernel
theorem dL_law_761 : decode cL_law 761 = .ok (.if_icmp .eq 54, 3) := by decide +kernel
theorem dL_law_764 : decode cL_law 764 = .ok (.iconst 0, 1) := by decide +kernel
theorem dL_law_765 : decode cL_law 765 = .ok (.ireturn, 1) := by decide +kernel
theorem dL_law_766 : decode cL_law 766 = .ok (.aload_n 1, 1) := by decide +kernel
theorem dL_law_767 : decode cL_law 767 = .ok (.invokevirtual 118, 3) := by decide +kernel
theorem dL_law_770 : decode cL_law 770 = .ok (.aload_n 2, 1) := by decide +kernel
theorem dL_law_771 : decode cL_law 771 = .ok (.invokevirtual 121, 3) := by decide +kernel
theorem dL_law_774 : decode cL_law 774 = .ok (.if_icmp .eq 41, 3) := by decide +kernel
theorem dL_law_777 : decode cL_law 777 = .ok (.iconst 0, 1) := by decide +kernel
theorem dL_law_778 : decode cL_law 778 = .ok (.ireturn, 1) := by decide +kernel
theorem dL_law_779 : decode cL_law 779 = .ok (.aload_n 1, 1) := by decide +kernel
theorem dL_law_780 : decode cL_law 780 = .ok (.invokevirtual 122, 3) := by decide +kernel
theorem dL_law_783 : decode cL_law 783 = .ok (.aload_n 2, 1) := by decide +kernel
theorem dL_law_784 : decode cL_law 784 = .ok (.invokevirtual 125, 3) := by decide +kernel
theorem dL_law_787 : decode cL_law 787 = .ok (.if_icmp .eq 28, 3) := by decide +kernel
theorem dL_law_790 : decode cL_law 790 = .ok (.iconst 0, 1) := by decide +kernel
theorem dL_law_791 : decode cL_law 791 = .ok (.ireturn, 1) := by decide +kernel
theorem dL_law_792 : decode cL_law 792 = .ok (.aload_n 1, 1) := by decide +kernel
theorem dL_law_793 : decode cL_law 793 = .ok (.aload_n 0, 1) := by decide +kernel
theorem dL_law_794 : decode cL_law 794 = .ok (.iload_n 3, 1) := by decide +kernel
theorem dL_law_795 : decode cL_law 795 = .ok (.iconst 1, 1) := by decide +kernel
theorem dL_law_796 : decode cL_law 796 = .ok (.iadd, 1) := by decide +kernel
theorem dL_law_797 : decode cL_law 797 = .ok (.iaload, 1) := by decide +kernel
theorem dL_law_798 : decode cL_law 798 = .ok (.invokevirtual 126, 3) := by decide +kernel
theorem dL_law_801 : decode cL_law 801 = .ok (.aload_n 2, 1) := by decide +kernel
theorem dL_law_802 : decode cL_law 802 = .ok (.aload_n 0, 1) := by decide +kernel
theorem dL_law_803 : decode cL_law 803 = .ok (.iload_n 3, 1) := by decide +kernel
theorem dL_law_804 : decode cL_law 804 = .ok (.iconst 1, 1) := by decide +kernel
theorem dL_law_805 : decode cL_law 805 = .ok (.iadd, 1) := by decide +kernel
theorem dL_law_806 : decode cL_law 806 = .ok (.iaload, 1) := by decide +kernel
theorem dL_law_807 : decode cL_law 807 = .ok (.invokevirtual 129, 3) := by decide +kernel
theorem dL_law_810 : decode cL_law 810 = .ok (.if_icmp .eq 5, 3) := by decide +kernel
theorem dL_law_813 : decode cL_law 813 = .ok (.iconst 0, 1) := by decide +kernel
theorem dL_law_814 : decode cL_law 814 = .ok (.ireturn, 1) := by decide +kernel
theorem dL_law_815 : decode cL_law 815 = .ok (.iinc 3 4, 3) := by decide +kernel
theorem dL_law_818 : decode cL_law 818 = .ok (.goto (-800), 3) := by decide +kernel
theorem dL_law_821 : decode cL_law 821 = .ok (.iconst 1, 1) := by decide +kernel
theorem dL_law_822 : decode cL_law 822 = .ok (.ireturn, 1) := by decide +kernel
abbrev vwCl : List vw_C := [(RX0, TX0, 3), (RX1, TX1, 8), (RX2, TX2, 9), (RX3, TX3, 3), (RX4, TX4, 3), (RX5, TX5, 4), (RX6, TX6, 5), (RX7, TX7, 3), (RX8, TX8, 2), (RX9, TX9, 10), (RX10, TX10, 25)]
