set_option maxRecDepth 20000 in
theorem ggX0_init_X6_init : GoodIn wsX0_init wsX6_init := goodIn_r _ [9, 10, 2, 3, 11, 12, 13, 14, 15, 16, 17] (by decide +kernel) (by decide +kernel)
set_option maxRecDepth 20000 in
theorem gX0_init_X6_init_n9 : GoodIn wsX0_init (wsX6_init) := ggX0_init_X6_init
theorem dX0_init_0 : decode cX0_init 0 = .ok (.aload_n 0, 1) := by decide +kernel
theorem dX0_init_1 : decode cX0_init 1 = .ok (.invokespecial 1, 3) := by decide +kernel
theorem dX0_init_4 : decode cX0_init 4 = .ok (.aload_n 0, 1) := by decide +kernel
theorem dX0_init_5 : decode cX0_init 5 = .ok (.new 7, 3) := by decide +kernel
theorem dX0_init_8 : decode cX0_init 8 = .ok (.dup, 1) := by decide +kernel
theorem dX0_init_9 : decode cX0_init 9 = .ok (.invokespecial 9, 3) := by decide +kernel
theorem dX0_init_12 : decode cX0_init 12 = .ok (.putfield 10, 3) := by decide +kernel
theorem dX0_init_15 : decode cX0_init 15 = .ok (.return_, 1) := by decide +kernel
theorem dX0_above_0 : decode cX0_above 0 = .ok (.aload_n 0, 1) := by decide +kernel
theorem dX0_above_1 : decode cX0_above 1 = .ok (.getfield 16, 3) := by decide +kernel
theorem dX0_above_4 : decode cX0_above 4 = .ok (.lreturn, 1) := by decide +kernel
theorem dX0_below_0 : decode cX0_below 0 = .ok (.aload_n 0, 1) := by decide +kernel
theorem dX0_below_1 : decode cX0_below 1 = .ok (.getfield 20, 3) := by decide +kernel
theorem dX0_below_4 : decode cX0_below 4 = .ok (.lreturn, 1) := by decide +kernel
set_option maxRecDepth 20000 in
theorem ggX0_reckon_X6_copy : GoodIn wsX0_reckon wsX6_copy := goodIn_r _ [9, 10, 11, 12, 13, 14, 15, 16, 17, 18, 44, 45, 46, 47, 48] (by decide +kernel) (by decide +kernel)
set_option maxRecDepth 20000 in
theorem gX0_reckon_X6_copy : GoodIn wsX0_reckon (wsV RX0 23 RX6 yX6_copy wsX6_copy) := goodIn_app (goodIn_of _ (by decide +kernel)) ggX0_reckon_X6_copy
set_option maxRecDepth 20000 in
theorem ggX0_reckon_X6_longestIf : GoodIn wsX0_reckon wsX6_longestIf := goodIn_r _ [22, 15, 23, 24, 25, 8, 26, 16, 10, 44, 45, 46, 47, 48] (by decide +kernel) (by decide +kernel)
set_option maxRecDepth 20000 in
theorem gX0_reckon_X6_longestIf : GoodIn wsX0_reckon (wsV RX0 27 RX6 yX6_longestIf wsX6_longestIf) := goodIn_app (goodIn_of _ (by decide +kernel)) ggX0_reckon_X6_longestIf
set_option maxRecDepth 20000 in
theorem ggX0_reckon_X6_passNoon : GoodIn wsX0_reckon wsX6_passNoon := goodIn_r _ [30, 17, 18, 16, 31, 20, 21, 8, 22, 15, 23, 24, 25, 26, 10, 44, 45, 46, 47, 48] (by decide +kernel) (by decide +kernel)
set_option maxRecDepth 20000 in
theorem gX0_reckon_X6_passNoon : GoodIn wsX0_reckon (wsV RX0 31 RX6 yX6_passNoon wsX6_passNoon) := goodIn_app (goodIn_of _ (by decide +kernel)) ggX0_reckon_X6_passNoon
set_option maxRecDepth 20000 in
theorem ggX0_reckon_X6_owner : GoodIn wsX0_reckon wsX6_owner := goodIn_r _ [35, 18, 44, 45, 46, 47, 48] (by decide +kernel) (by decide +kernel)
set_option maxRecDepth 20000 in
theorem gX0_reckon_X6_owner : GoodIn wsX0_reckon (wsV RX0 34 RX6 yX6_owner wsX6_owner) := goodIn_app (goodIn_of _ (by decide +kernel)) ggX0_reckon_X6_owner
set_option maxRecDepth 20000 in
theorem ggX0_reckon_X0_greatestDivisor : GoodIn wsX0_reckon wsX0_greatestDivisor := goodIn_r _ [40] (by decide +kernel) (by decide +kernel)
set_option maxRecDepth 20000 in
theorem gX0_reckon_X0_greatestDivisor : GoodIn wsX0_reckon (wsV RX0 40 RX0 yX0_greatestDivisor wsX0_greatestDivisor) := goodIn_app (goodIn_of _ (by decide +kernel)) ggX0_reckon_X0_greatestDivisor
theorem dX0_reckon_0 : decode cX0_reckon 0 = .ok (.aload_n 0, 1) := by decide +kernel
theorem dX0_reckon_1 : decode cX0_reckon 1 = .ok (.getfield 10, 3) := by decide +kernel
theorem dX0_reckon_4 : decode cX0_reckon 4 = .ok (.aload_n 1, 1) := by decide +kernel
theorem dX0_reckon_5 : decode cX0_reckon 5 = .ok (.invokevirtual 23, 3) := by decide +kernel
theorem dX0_reckon_8 : decode cX0_reckon 8 = .ok (.aload_n 0, 1) := by decide +kernel
theorem dX0_reckon_9 : decode cX0_reckon 9 = .ok (.lconst 1, 1) := by decide +kernel
theorem dX0_reckon_10 : decode cX0_reckon 10 = .ok (.putfield 16, 3) := by decide +kernel
theorem dX0_reckon_13 : decode cX0_reckon 13 = .ok (.aload_n 0, 1) := by decide +kernel
theorem dX0_reckon_14 : decode cX0_reckon 14 = .ok (.lconst 1, 1) := by decide +kernel
theorem dX0_reckon_15 : decode cX0_reckon 15 = .ok (.putfield 20, 3) := by decide +kernel
theorem dX0_reckon_18 : decode cX0_reckon 18 = .ok (.iconst 0, 1) := by decide +kernel
theorem dX0_reckon_19 : decode cX0_reckon 19 = .ok (.istore 5, 2) := by decide +kernel
theorem dX0_reckon_21 : decode cX0_reckon 21 = .ok (.iload 5, 2) := by decide +kernel
theorem dX0_reckon_23 : decode cX0_reckon 23 = .ok (.iload_n 3, 1) := by decide +kernel
theorem dX0_reckon_24 : decode cX0_reckon 24 = .ok (.if_icmp .ge 101, 3) := by decide +kernel
theorem dX0_reckon_27 : decode cX0_reckon 27 = .ok (.aload_n 0, 1) := by decide +kernel
theorem dX0_reckon_28 : decode cX0_reckon 28 = .ok (.getfield 10, 3) := by decide +kernel
theorem dX0_reckon_31 : decode cX0_reckon 31 = .ok (.iconst 1, 1) := by decide +kernel
theorem dX0_reckon_32 : decode cX0_reckon 32 = .ok (.iload_n 2, 1) := by decide +kernel
theorem dX0_reckon_33 : decode cX0_reckon 33 = .ok (.ishl, 1) := by decide +kernel
theorem dX0_reckon_34 : decode cX0_reckon 34 = .ok (.invokevirtual 27, 3) := by decide +kernel
theorem dX0_reckon_37 : decode cX0_reckon 37 = .ok (.istore 6, 2) := by decide +kernel
theorem dX0_reckon_39 : decode cX0_reckon 39 = .ok (.aload_n 0, 1) := by decide +kernel
theorem dX0_reckon_40 : decode cX0_reckon 40 = .ok (.getfield 10, 3) := by decide +kernel
theorem dX0_reckon_43 : decode cX0_reckon 43 = .ok (.invokevirtual 31, 3) := by decide +kernel
theorem dX0_reckon_46 : decode cX0_reckon 46 = .ok (.iload 5, 2) := by decide +kernel
theorem dX0_reckon_48 : decode cX0_reckon 48 = .ok (.ifCond .ne 22, 3) := by decide +kernel
theorem dX0_reckon_51 : decode cX0_reckon 51 = .ok (.aload_n 0, 1) := by decide +kernel
theorem dX0_reckon_52 : decode cX0_reckon 52 = .ok (.getfield 10, 3) := by decide +kernel
theorem dX0_reckon_55 : decode cX0_reckon 55 = .ok (.invokevirtual 34, 3) := by decide +kernel
theorem dX0_reckon_58 : decode cX0_reckon 58 = .ok (.aload_n 1, 1) := by decide +kernel
theorem dX0_reckon_59 : decode cX0_reckon 59 = .ok (.invokevirtual 34, 3) := by decide +kernel
theorem dX0_reckon_62 : decode cX0_reckon 62 = .ok (.if_icmp .eq 8, 3) := by decide +kernel
theorem dX0_reckon_65 : decode cX0_reckon 65 = .ok (.aload_n 0, 1) := by decide +kernel
theorem dX0_reckon_66 : decode cX0_reckon 66 = .ok (.lconst 0, 1) := by decide +kernel
theorem dX0_reckon_67 : decode cX0_reckon 67 = .ok (.putfield 16, 3) := by decide +kernel
theorem dX0_reckon_70 : decode cX0_reckon 70 = .ok (.aload_n 0, 1) := by decide +kernel
theorem dX0_reckon_71 : decode cX0_reckon 71 = .ok (.aload_n 0, 1) := by decide +kernel
theorem dX0_reckon_72 : decode cX0_reckon 72 = .ok (.getfield 16, 3) := by decide +kernel
theorem dX0_reckon_75 : decode cX0_reckon 75 = .ok (.bipush 10, 2) := by decide +kernel
theorem dX0_reckon_77 : decode cX0_reckon 77 = .ok (.iload 4, 2) := by decide +kernel
theorem dX0_reckon_79 : decode cX0_reckon 79 = .ok (.isub, 1) := by decide +kernel
theorem dX0_reckon_80 : decode cX0_reckon 80 = .ok (.i2l, 1) := by decide +kernel
theorem dX0_reckon_81 : decode cX0_reckon 81 = .ok (.lmul, 1) := by decide +kernel
theorem dX0_reckon_82 : decode cX0_reckon 82 = .ok (.iload 6, 2) := by decide +kernel
theorem dX0_reckon_84 : decode cX0_reckon 84 = .ok (.aload_n 1, 1) := by decide +kernel
theorem dX0_reckon_85 : decode cX0_reckon 85 = .ok (.invokevirtual 34, 3) := by decide +kernel
theorem dX0_reckon_88 : decode cX0_reckon 88 = .ok (.if_icmp .ne 14, 3) := by decide +kernel
theorem dX0_reckon_91 : decode cX0_reckon 91 = .ok (.aload_n 0, 1) := by decide +kernel
theorem dX0_reckon_92 : decode cX0_reckon 92 = .ok (.getfield 20, 3) := by decide +kernel
theorem dX0_reckon_95 : decode cX0_reckon 95 = .ok (.iload 4, 2) := by decide +kernel
theorem dX0_reckon_97 : decode cX0_reckon 97 = .ok (.i2l, 1) := by decide +kernel
theorem dX0_reckon_98 : decode cX0_reckon 98 = .ok (.lmul, 1) := by decide +kernel
theorem dX0_reckon_99 : decode cX0_reckon 99 = .ok (.goto 4, 3) := by decide +kernel
theorem dX0_reckon_102 : decode cX0_reckon 102 = .ok (.lconst 0, 1) := by decide +kernel
theorem dX0_reckon_103 : decode cX0_reckon 103 = .ok (.ladd, 1) := by decide +kernel
theorem dX0_reckon_104 : decode cX0_reckon 104 = .ok (.putfield 16, 3) := by decide +kernel
theorem dX0_reckon_107 : decode cX0_reckon 107 = .ok (.aload_n 0, 1) := by decide +kernel
theorem dX0_reckon_108 : decode cX0_reckon 108 = .ok (.aload_n 0, 1) := by decide +kernel
theorem dX0_reckon_109 : decode cX0_reckon 109 = .ok (.getfield 20, 3) := by decide +kernel
theorem dX0_reckon_112 : decode cX0_reckon 112 = .ok (.ldc2_w 38, 3) := by decide +kernel
theorem dX0_reckon_115 : decode cX0_reckon 115 = .ok (.lmul, 1) := by decide +kernel
theorem dX0_reckon_116 : decode cX0_reckon 116 = .ok (.putfield 20, 3) := by decide +kernel
theorem dX0_reckon_119 : decode cX0_reckon 119 = .ok (.iinc 5 1, 3) := by decide +kernel
theorem dX0_reckon_122 : decode cX0_reckon 122 = .ok (.goto (-101), 3) := by decide +kernel
theorem dX0_reckon_125 : decode cX0_reckon 125 = .ok (.aload_n 0, 1) := by decide +kernel
theorem dX0_reckon_126 : decode cX0_reckon 126 = .ok (.aload_n 0, 1) := by decide +kernel
theorem dX0_reckon_127 : decode cX0_reckon 127 = .ok (.getfield 16, 3) := by decide +kernel
theorem dX0_reckon_130 : decode cX0_reckon 130 = .ok (.aload_n 0, 1) := by decide +kernel
theorem dX0_reckon_131 : decode cX0_reckon 131 = .ok (.getfield 20, 3) := by decide +kernel
theorem dX0_reckon_134 : decode cX0_reckon 134 = .ok (.invokevirtual 40, 3) := by decide +kernel
theorem dX0_reckon_137 : decode cX0_reckon 137 = .ok (.lstore 5, 2) := by decide +kernel
theorem dX0_reckon_139 : decode cX0_reckon 139 = .ok (.lload 5, 2) := by decide +kernel
theorem dX0_reckon_141 : decode cX0_reckon 141 = .ok (.lconst 1, 1) := by decide +kernel
theorem dX0_reckon_142 : decode cX0_reckon 142 = .ok (.lcmp, 1) := by decide +kernel
theorem dX0_reckon_143 : decode cX0_reckon 143 = .ok (.ifCond .le 25, 3) := by decide +kernel
theorem dX0_reckon_146 : decode cX0_reckon 146 = .ok (.aload_n 0, 1) := by decide +kernel
theorem dX0_reckon_147 : decode cX0_reckon 147 = .ok (.aload_n 0, 1) := by decide +kernel
theorem dX0_reckon_148 : decode cX0_reckon 148 = .ok (.getfield 16, 3) := by decide +kernel
theorem dX0_reckon_151 : decode cX0_reckon 151 = .ok (.lload 5, 2) := by decide +kernel
theorem dX0_reckon_153 : decode cX0_reckon 153 = .ok (.ldiv, 1) := by decide +kernel
theorem dX0_reckon_154 : decode cX0_reckon 154 = .ok (.putfield 16, 3) := by decide +kernel
theorem dX0_reckon_157 : decode cX0_reckon 157 = .ok (.aload_n 0, 1) := by decide +kernel
theorem dX0_reckon_158 : decode cX0_reckon 158 = .ok (.aload_n 0, 1) := by decide +kernel
theorem dX0_reckon_159 : decode cX0_reckon 159 = .ok (.getfield 20, 3) := by decide +kernel
theorem dX0_reckon_162 : decode cX0_reckon 162 = .ok (.lload 5, 2) := by decide +kernel
theorem dX0_reckon_164 : decode cX0_reckon 164 = .ok (.ldiv, 1) := by decide +kernel
theorem dX0_reckon_165 : decode cX0_reckon 165 = .ok (.putfield 20, 3) := by decide +kernel
theorem dX0_reckon_168 : decode cX0_reckon 168 = .ok (.return_, 1) := by decide +kernel
theorem dX0_greatestDivisor_0 : decode cX0_greatestDivisor 0 = .ok (.lload_n 3, 1) := by decide +kernel
theorem dX0_greatestDivisor_1 : decode cX0_greatestDivisor 1 = .ok (.lstore 5, 2) := by decide +kernel
theorem dX0_greatestDivisor_3 : decode cX0_greatestDivisor 3 = .ok (.lload_n 1, 1) := by decide +kernel
theorem dX0_greatestDivisor_4 : decode cX0_greatestDivisor 4 = .ok (.lstore 7, 2) := by decide +kernel
theorem dX0_greatestDivisor_6 : decode cX0_greatestDivisor 6 = .ok (.iconst 0, 1) := by decide +kernel
theorem dX0_greatestDivisor_7 : decode cX0_greatestDivisor 7 = .ok (.istore 9, 2) := by decide +kernel
theorem dX0_greatestDivisor_9 : decode cX0_greatestDivisor 9 = .ok (.iload 9, 2) := by decide +kernel
theorem dX0_greatestDivisor_11 : decode cX0_greatestDivisor 11 = .ok (.bipush 100, 2) := by decide +kernel
theorem dX0_greatestDivisor_13 : decode cX0_greatestDivisor 13 = .ok (.if_icmp .ge 31, 3) := by decide +kernel
theorem dX0_greatestDivisor_16 : decode cX0_greatestDivisor 16 = .ok (.lload 7, 2) := by decide +kernel
theorem dX0_greatestDivisor_18 : decode cX0_greatestDivisor 18 = .ok (.lconst 0, 1) := by decide +kernel
theorem dX0_greatestDivisor_19 : decode cX0_greatestDivisor 19 = .ok (.lcmp, 1) := by decide +kernel
theorem dX0_greatestDivisor_20 : decode cX0_greatestDivisor 20 = .ok (.ifCond .le 24, 3) := by decide +kernel
theorem dX0_greatestDivisor_23 : decode cX0_greatestDivisor 23 = .ok (.lload 5, 2) := by decide +kernel
theorem dX0_greatestDivisor_25 : decode cX0_greatestDivisor 25 = .ok (.lload 7, 2) := by decide +kernel
theorem dX0_greatestDivisor_27 : decode cX0_greatestDivisor 27 = .ok (.lrem, 1) := by decide +kernel
theorem dX0_greatestDivisor_28 : decode cX0_greatestDivisor 28 = .ok (.lstore 10, 2) := by decide +kernel
theorem dX0_greatestDivisor_30 : decode cX0_greatestDivisor 30 = .ok (.lload 7, 2) := by decide +kernel
theorem dX0_greatestDivisor_32 : decode cX0_greatestDivisor 32 = .ok (.lstore 5, 2) := by decide +kernel
theorem dX0_greatestDivisor_34 : decode cX0_greatestDivisor 34 = .ok (.lload 10, 2) := by decide +kernel
theorem dX0_greatestDivisor_36 : decode cX0_greatestDivisor 36 = .ok (.lstore 7, 2) := by decide +kernel
theorem dX0_greatestDivisor_38 : decode cX0_greatestDivisor 38 = .ok (.iinc 9 1, 3) := by decide +kernel
theorem dX0_greatestDivisor_41 : decode cX0_greatestDivisor 41 = .ok (.goto (-32), 3) := by decide +kernel
theorem dX0_greatestDivisor_44 : decode cX0_greatestDivisor 44 = .ok (.lload 5, 2) := by decide +kernel
theorem dX0_greatestDivisor_46 : decode cX0_greatestDivisor 46 = .ok (.lreturn, 1) := by decide +kernel
set_option maxRecDepth 20000 in
theorem ggX1_init_X6_init : GoodIn wsX1_init wsX6_init := goodIn_r _ [15, 16, 2, 3, 8, 17, 18, 19, 20, 21, 22] (by decide +kernel) (by decide +kernel)
set_option maxRecDepth 20000 in
theorem gX1_init_X6_init_n11 : GoodIn wsX1_init (wsX6_init) := ggX1_init_X6_init
theorem dX1_init_0 : decode cX1_init 0 = .ok (.aload_n 0, 1) := by decide +kernel
theorem dX1_init_1 : decode cX1_init 1 = .ok (.invokespecial 3, 3) := by decide +kernel
theorem dX1_init_4 : decode cX1_init 4 = .ok (.aload_n 0, 1) := by decide +kernel
theorem dX1_init_5 : decode cX1_init 5 = .ok (.new 9, 3) := by decide +kernel
theorem dX1_init_8 : decode cX1_init 8 = .ok (.dup, 1) := by decide +kernel
theorem dX1_init_9 : decode cX1_init 9 = .ok (.invokespecial 11, 3) := by decide +kernel
theorem dX1_init_12 : decode cX1_init 12 = .ok (.putfield 12, 3) := by decide +kernel
theorem dX1_init_15 : decode cX1_init 15 = .ok (.aload_n 0, 1) := by decide +kernel
theorem dX1_init_16 : decode cX1_init 16 = .ok (.bipush 60, 2) := by decide +kernel
theorem dX1_init_18 : decode cX1_init 18 = .ok (.newarray .int, 2) := by decide +kernel
theorem dX1_init_20 : decode cX1_init 20 = .ok (.putfield 18, 3) := by decide +kernel
theorem dX1_init_23 : decode cX1_init 23 = .ok (.aload_n 0, 1) := by decide +kernel
theorem dX1_init_24 : decode cX1_init 24 = .ok (.bipush 6, 2) := by decide +kernel
theorem dX1_init_26 : decode cX1_init 26 = .ok (.newarray .int, 2) := by decide +kernel
theorem dX1_init_28 : decode cX1_init 28 = .ok (.putfield 22, 3) := by decide +kernel
theorem dX1_init_31 : decode cX1_init 31 = .ok (.aload_n 0, 1) := by decide +kernel
theorem dX1_init_32 : decode cX1_init 32 = .ok (.bipush 10, 2) := by decide +kernel
theorem dX1_init_34 : decode cX1_init 34 = .ok (.newarray .int, 2) := by decide +kernel
theorem dX1_init_36 : decode cX1_init 36 = .ok (.putfield 25, 3) := by decide +kernel
theorem dX1_init_39 : decode cX1_init 39 = .ok (.aload_n 0, 1) := by decide +kernel
theorem dX1_init_40 : decode cX1_init 40 = .ok (.bipush 40, 2) := by decide +kernel
theorem dX1_init_42 : decode cX1_init 42 = .ok (.newarray .int, 2) := by decide +kernel
theorem dX1_init_44 : decode cX1_init 44 = .ok (.putfield 28, 3) := by decide +kernel
theorem dX1_init_47 : decode cX1_init 47 = .ok (.aload_n 0, 1) := by decide +kernel
theorem dX1_init_48 : decode cX1_init 48 = .ok (.bipush 40, 2) := by decide +kernel
theorem dX1_init_50 : decode cX1_init 50 = .ok (.newarray .int, 2) := by decide +kernel
theorem dX1_init_52 : decode cX1_init 52 = .ok (.putfield 31, 3) := by decide +kernel
theorem dX1_init_55 : decode cX1_init 55 = .ok (.return_, 1) := by decide +kernel
set_option maxRecDepth 20000 in
theorem ggX1_begin_X6_begin : GoodIn wsX1_begin wsX6_begin := goodIn_r _ [11, 12, 13, 14, 15, 16, 17, 18, 19, 20, 21, 22, 23, 24, 25, 26, 27, 28, 29, 30, 31, 32, 33, 34, 35, 50, 51, 52, 53, 54, 55, 56, 57, 58, 59, 60, 61, 62, 63] (by decide +kernel) (by decide +kernel)
set_option maxRecDepth 20000 in
theorem gX1_begin_X6_begin : GoodIn wsX1_begin (wsV RX1 34 RX6 yX6_begin wsX6_begin) := goodIn_app (goodIn_of _ (by decide +kernel)) ggX1_begin_X6_begin
set_option maxRecDepth 20000 in
theorem ggX1_begin_X2_ago : GoodIn wsX1_begin wsX2_ago := goodIn_r _ [30, 31, 32, 33, 34, 24, 35, 26, 55, 56, 57, 58, 59, 60, 61, 62, 63] (by decide +kernel) (by decide +kernel)
set_option maxRecDepth 20000 in
theorem gX1_begin_X2_ago : GoodIn wsX1_begin (wsV RX1 38 RX2 yX2_ago wsX2_ago) := goodIn_app (goodIn_of _ (by decide +kernel)) ggX1_begin_X2_ago
set_option maxRecDepth 20000 in
theorem ggX1_begin_X2_deed : GoodIn wsX1_begin wsX2_deed := goodIn_r _ [40, 41, 55, 56, 57, 58, 59, 60, 61, 62, 63] (by decide +kernel) (by decide +kernel)
set_option maxRecDepth 20000 in
theorem gX1_begin_X2_deed : GoodIn wsX1_begin (wsV RX1 48 RX2 yX2_deed wsX2_deed) := goodIn_app (goodIn_of _ (by decide +kernel)) ggX1_begin_X2_deed
theorem dX1_begin_0 : decode cX1_begin 0 = .ok (.aload_n 0, 1) := by decide +kernel
theorem dX1_begin_1 : decode cX1_begin 1 = .ok (.getfield 12, 3) := by decide +kernel
theorem dX1_begin_4 : decode cX1_begin 4 = .ok (.aload_n 1, 1) := by decide +kernel
theorem dX1_begin_5 : decode cX1_begin 5 = .ok (.invokevirtual 34, 3) := by decide +kernel
theorem dX1_begin_8 : decode cX1_begin 8 = .ok (.iconst 0, 1) := by decide +kernel
theorem dX1_begin_9 : decode cX1_begin 9 = .ok (.istore_n 2, 1) := by decide +kernel
theorem dX1_begin_10 : decode cX1_begin 10 = .ok (.iload_n 2, 1) := by decide +kernel
theorem dX1_begin_11 : decode cX1_begin 11 = .ok (.bipush 6, 2) := by decide +kernel
theorem dX1_begin_13 : decode cX1_begin 13 = .ok (.if_icmp .ge 47, 3) := by decide +kernel
theorem dX1_begin_16 : decode cX1_begin 16 = .ok (.aload_n 0, 1) := by decide +kernel
theorem dX1_begin_17 : decode cX1_begin 17 = .ok (.getfield 22, 3) := by decide +kernel
theorem dX1_begin_20 : decode cX1_begin 20 = .ok (.iload_n 2, 1) := by decide +kernel
theorem dX1_begin_21 : decode cX1_begin 21 = .ok (.iconst 0, 1) := by decide +kernel
theorem dX1_begin_22 : decode cX1_begin 22 = .ok (.iastore, 1) := by decide +kernel
theorem dX1_begin_23 : decode cX1_begin 23 = .ok (.iconst 0, 1) := by decide +kernel
theorem dX1_begin_24 : decode cX1_begin 24 = .ok (.istore_n 3, 1) := by decide +kernel
theorem dX1_begin_25 : decode cX1_begin 25 = .ok (.iload_n 3, 1) := by decide +kernel
theorem dX1_begin_26 : decode cX1_begin 26 = .ok (.bipush 10, 2) := by decide +kernel
theorem dX1_begin_28 : decode cX1_begin 28 = .ok (.if_icmp .ge 26, 3) := by decide +kernel
theorem dX1_begin_31 : decode cX1_begin 31 = .ok (.aload_n 0, 1) := by decide +kernel
theorem dX1_begin_32 : decode cX1_begin 32 = .ok (.getfield 18, 3) := by decide +kernel
theorem dX1_begin_35 : decode cX1_begin 35 = .ok (.iload_n 2, 1) := by decide +kernel
theorem dX1_begin_36 : decode cX1_begin 36 = .ok (.bipush 10, 2) := by decide +kernel
theorem dX1_begin_38 : decode cX1_begin 38 = .ok (.imul, 1) := by decide +kernel
theorem dX1_begin_39 : decode cX1_begin 39 = .ok (.iload_n 3, 1) := by decide +kernel
theorem dX1_begin_40 : decode cX1_begin 40 = .ok (.iadd, 1) := by decide +kernel
theorem dX1_begin_41 : decode cX1_begin 41 = .ok (.aload_n 1, 1) := by decide +kernel
theorem dX1_begin_42 : decode cX1_begin 42 = .ok (.iload_n 2, 1) := by decide +kernel
theorem dX1_begin_43 : decode cX1_begin 43 = .ok (.invokevirtual 38, 3) := by decide +kernel
theorem dX1_begin_46 : decode cX1_begin 46 = .ok (.ineg, 1) := by decide +kernel
theorem dX1_begin_47 : decode cX1_begin 47 = .ok (.iastore, 1) := by decide +kernel
theorem dX1_begin_48 : decode cX1_begin 48 = .ok (.iinc 3 1, 3) := by decide +kernel
theorem dX1_begin_51 : decode cX1_begin 51 = .ok (.goto (-26), 3) := by decide +kernel
theorem dX1_begin_54 : decode cX1_begin 54 = .ok (.iinc 2 1, 3) := by decide +kernel
theorem dX1_begin_57 : decode cX1_begin 57 = .ok (.goto (-47), 3) := by decide +kernel
theorem dX1_begin_60 : decode cX1_begin 60 = .ok (.iconst 0, 1) := by decide +kernel
theorem dX1_begin_61 : decode cX1_begin 61 = .ok (.istore_n 2, 1) := by decide +kernel
theorem dX1_begin_62 : decode cX1_begin 62 = .ok (.iload_n 2, 1) := by decide +kernel
theorem dX1_begin_63 : decode cX1_begin 63 = .ok (.bipush 10, 2) := by decide +kernel
theorem dX1_begin_65 : decode cX1_begin 65 = .ok (.if_icmp .ge 16, 3) := by decide +kernel
theorem dX1_begin_68 : decode cX1_begin 68 = .ok (.aload_n 0, 1) := by decide +kernel
theorem dX1_begin_69 : decode cX1_begin 69 = .ok (.getfield 25, 3) := by decide +kernel
theorem dX1_begin_72 : decode cX1_begin 72 = .ok (.iload_n 2, 1) := by decide +kernel
theorem dX1_begin_73 : decode cX1_begin 73 = .ok (.iconst 0, 1) := by decide +kernel
theorem dX1_begin_74 : decode cX1_begin 74 = .ok (.iastore, 1) := by decide +kernel
theorem dX1_begin_75 : decode cX1_begin 75 = .ok (.iinc 2 1, 3) := by decide +kernel
theorem dX1_begin_78 : decode cX1_begin 78 = .ok (.goto (-16), 3) := by decide +kernel
theorem dX1_begin_81 : decode cX1_begin 81 = .ok (.aload_n 0, 1) := by decide +kernel
theorem dX1_begin_82 : decode cX1_begin 82 = .ok (.iconst 0, 1) := by decide +kernel
theorem dX1_begin_83 : decode cX1_begin 83 = .ok (.putfield 44, 3) := by decide +kernel
theorem dX1_begin_86 : decode cX1_begin 86 = .ok (.aload_n 0, 1) := by decide +kernel
theorem dX1_begin_87 : decode cX1_begin 87 = .ok (.aload_n 1, 1) := by decide +kernel
theorem dX1_begin_88 : decode cX1_begin 88 = .ok (.invokevirtual 48, 3) := by decide +kernel
theorem dX1_begin_91 : decode cX1_begin 91 = .ok (.putfield 52, 3) := by decide +kernel
theorem dX1_begin_94 : decode cX1_begin 94 = .ok (.return_, 1) := by decide +kernel
set_option maxRecDepth 20000 in
theorem ggX1_copy_X6_copy : GoodIn wsX1_copy wsX6_copy := goodIn_r _ [17, 18, 19, 4, 5, 6, 20, 21, 22, 23, 32, 33, 34, 35, 36] (by decide +kernel) (by decide +kernel)
set_option maxRecDepth 20000 in
theorem gX1_copy_X6_copy : GoodIn wsX1_copy (wsV RX1 54 RX6 yX6_copy wsX6_copy) := goodIn_app (goodIn_of _ (by decide +kernel)) ggX1_copy_X6_copy
theorem dX1_copy_0 : decode cX1_copy 0 = .ok (.aload_n 0, 1) := by decide +kernel
theorem dX1_copy_1 : decode cX1_copy 1 = .ok (.getfield 12, 3) := by decide +kernel
theorem dX1_copy_4 : decode cX1_copy 4 = .ok (.aload_n 1, 1) := by decide +kernel
theorem dX1_copy_5 : decode cX1_copy 5 = .ok (.getfield 12, 3) := by decide +kernel
theorem dX1_copy_8 : decode cX1_copy 8 = .ok (.invokevirtual 54, 3) := by decide +kernel
theorem dX1_copy_11 : decode cX1_copy 11 = .ok (.aload_n 1, 1) := by decide +kernel
theorem dX1_copy_12 : decode cX1_copy 12 = .ok (.getfield 18, 3) := by decide +kernel
theorem dX1_copy_15 : decode cX1_copy 15 = .ok (.iconst 0, 1) := by decide +kernel
theorem dX1_copy_16 : decode cX1_copy 16 = .ok (.aload_n 0, 1) := by decide +kernel
theorem dX1_copy_17 : decode cX1_copy 17 = .ok (.getfield 18, 3) := by decide +kernel
theorem dX1_copy_20 : decode cX1_copy 20 = .ok (.iconst 0, 1) := by decide +kernel
theorem dX1_copy_21 : decode cX1_copy 21 = .ok (.bipush 60, 2) := by decide +kernel
theorem dX1_copy_23 : decode cX1_copy 23 = .ok (.invokestatic 58, 3) := by decide +kernel
theorem dX1_copy_26 : decode cX1_copy 26 = .ok (.aload_n 1, 1) := by decide +kernel
theorem dX1_copy_27 : decode cX1_copy 27 = .ok (.getfield 22, 3) := by decide +kernel
theorem dX1_copy_30 : decode cX1_copy 30 = .ok (.iconst 0, 1) := by decide +kernel
theorem dX1_copy_31 : decode cX1_copy 31 = .ok (.aload_n 0, 1) := by decide +kernel
theorem dX1_copy_32 : decode cX1_copy 32 = .ok (.getfield 22, 3) := by decide +kernel
theorem dX1_copy_35 : decode cX1_copy 35 = .ok (.iconst 0, 1) := by decide +kernel
theorem dX1_copy_36 : decode cX1_copy 36 = .ok (.bipush 6, 2) := by decide +kernel
theorem dX1_copy_38 : decode cX1_copy 38 = .ok (.invokestatic 58, 3) := by decide +kernel
theorem dX1_copy_41 : decode cX1_copy 41 = .ok (.aload_n 1, 1) := by decide +kernel
theorem dX1_copy_42 : decode cX1_copy 42 = .ok (.getfield 25, 3) := by decide +kernel
theorem dX1_copy_45 : decode cX1_copy 45 = .ok (.iconst 0, 1) := by decide +kernel
theorem dX1_copy_46 : decode cX1_copy 46 = .ok (.aload_n 0, 1) := by decide +kernel
theorem dX1_copy_47 : decode cX1_copy 47 = .ok (.getfield 25, 3) := by decide +kernel
theorem dX1_copy_50 : decode cX1_copy 50 = .ok (.iconst 0, 1) := by decide +kernel
theorem dX1_copy_51 : decode cX1_copy 51 = .ok (.bipush 10, 2) := by decide +kernel
theorem dX1_copy_53 : decode cX1_copy 53 = .ok (.invokestatic 58, 3) := by decide +kernel
theorem dX1_copy_56 : decode cX1_copy 56 = .ok (.aload_n 1, 1) := by decide +kernel
theorem dX1_copy_57 : decode cX1_copy 57 = .ok (.getfield 28, 3) := by decide +kernel
theorem dX1_copy_60 : decode cX1_copy 60 = .ok (.iconst 0, 1) := by decide +kernel
theorem dX1_copy_61 : decode cX1_copy 61 = .ok (.aload_n 0, 1) := by decide +kernel
theorem dX1_copy_62 : decode cX1_copy 62 = .ok (.getfield 28, 3) := by decide +kernel
theorem dX1_copy_65 : decode cX1_copy 65 = .ok (.iconst 0, 1) := by decide +kernel
theorem dX1_copy_66 : decode cX1_copy 66 = .ok (.bipush 40, 2) := by decide +kernel
theorem dX1_copy_68 : decode cX1_copy 68 = .ok (.invokestatic 58, 3) := by decide +kernel
theorem dX1_copy_71 : decode cX1_copy 71 = .ok (.aload_n 1, 1) := by decide +kernel
theorem dX1_copy_72 : decode cX1_copy 72 = .ok (.getfield 31, 3) := by decide +kernel
theorem dX1_copy_75 : decode cX1_copy 75 = .ok (.iconst 0, 1) := by decide +kernel
theorem dX1_copy_76 : decode cX1_copy 76 = .ok (.aload_n 0, 1) := by decide +kernel
theorem dX1_copy_77 : decode cX1_copy 77 = .ok (.getfield 31, 3) := by decide +kernel
theorem dX1_copy_80 : decode cX1_copy 80 = .ok (.iconst 0, 1) := by decide +kernel
theorem dX1_copy_81 : decode cX1_copy 81 = .ok (.bipush 40, 2) := by decide +kernel
theorem dX1_copy_83 : decode cX1_copy 83 = .ok (.invokestatic 58, 3) := by decide +kernel
theorem dX1_copy_86 : decode cX1_copy 86 = .ok (.aload_n 0, 1) := by decide +kernel
theorem dX1_copy_87 : decode cX1_copy 87 = .ok (.aload_n 1, 1) := by decide +kernel
theorem dX1_copy_88 : decode cX1_copy 88 = .ok (.getfield 44, 3) := by decide +kernel
theorem dX1_copy_91 : decode cX1_copy 91 = .ok (.putfield 44, 3) := by decide +kernel
theorem dX1_copy_94 : decode cX1_copy 94 = .ok (.aload_n 0, 1) := by decide +kernel
theorem dX1_copy_95 : decode cX1_copy 95 = .ok (.aload_n 1, 1) := by decide +kernel
theorem dX1_copy_96 : decode cX1_copy 96 = .ok (.getfield 52, 3) := by decide +kernel
theorem dX1_copy_99 : decode cX1_copy 99 = .ok (.putfield 52, 3) := by decide +kernel
theorem dX1_copy_102 : decode cX1_copy 102 = .ok (.return_, 1) := by decide +kernel
theorem dX1_trust_0 : decode cX1_trust 0 = .ok (.aload_n 0, 1) := by decide +kernel
theorem dX1_trust_1 : decode cX1_trust 1 = .ok (.getfield 12, 3) := by decide +kernel
theorem dX1_trust_4 : decode cX1_trust 4 = .ok (.areturn, 1) := by decide +kernel
theorem dX1_deed_0 : decode cX1_deed 0 = .ok (.aload_n 0, 1) := by decide +kernel
theorem dX1_deed_1 : decode cX1_deed 1 = .ok (.getfield 52, 3) := by decide +kernel
theorem dX1_deed_4 : decode cX1_deed 4 = .ok (.ireturn, 1) := by decide +kernel
theorem dX1_setDeed_0 : decode cX1_setDeed 0 = .ok (.aload_n 0, 1) := by decide +kernel
theorem dX1_setDeed_1 : decode cX1_setDeed 1 = .ok (.iload_n 1, 1) := by decide +kernel
theorem dX1_setDeed_2 : decode cX1_setDeed 2 = .ok (.putfield 52, 3) := by decide +kernel
theorem dX1_setDeed_5 : decode cX1_setDeed 5 = .ok (.return_, 1) := by decide +kernel
theorem dX1_saidToday_0 : decode cX1_saidToday 0 = .ok (.aload_n 0, 1) := by decide +kernel
theorem dX1_saidToday_1 : decode cX1_saidToday 1 = .ok (.getfield 44, 3) := by decide +kernel
theorem dX1_saidToday_4 : decode cX1_saidToday 4 = .ok (.ireturn, 1) := by decide +kernel
theorem dX1_timesAsked_0 : decode cX1_timesAsked 0 = .ok (.iload_n 1, 1) := by decide +kernel
theorem dX1_timesAsked_1 : decode cX1_timesAsked 1 = .ok (.ifCond .lt 18, 3) := by decide +kernel
theorem dX1_timesAsked_4 : decode cX1_timesAsked 4 = .ok (.iload_n 1, 1) := by decide +kernel
theorem dX1_timesAsked_5 : decode cX1_timesAsked 5 = .ok (.bipush 6, 2) := by decide +kernel
theorem dX1_timesAsked_7 : decode cX1_timesAsked 7 = .ok (.if_icmp .ge 12, 3) := by decide +kernel
theorem dX1_timesAsked_10 : decode cX1_timesAsked 10 = .ok (.aload_n 0, 1) := by decide +kernel
theorem dX1_timesAsked_11 : decode cX1_timesAsked 11 = .ok (.getfield 22, 3) := by decide +kernel
theorem dX1_timesAsked_14 : decode cX1_timesAsked 14 = .ok (.iload_n 1, 1) := by decide +kernel
theorem dX1_timesAsked_15 : decode cX1_timesAsked 15 = .ok (.iaload, 1) := by decide +kernel
theorem dX1_timesAsked_16 : decode cX1_timesAsked 16 = .ok (.goto 4, 3) := by decide +kernel
theorem dX1_timesAsked_19 : decode cX1_timesAsked 19 = .ok (.iconst 0, 1) := by decide +kernel
theorem dX1_timesAsked_20 : decode cX1_timesAsked 20 = .ok (.ireturn, 1) := by decide +kernel
set_option maxRecDepth 20000 in
theorem ggX1_hear_X1_log : GoodIn wsX1_hear wsX1_log := goodIn_r _ [10, 3, 1, 11, 12, 13, 14, 15, 16, 17, 18, 19, 65, 66, 67, 68, 69, 70, 71, 72, 73, 74, 75, 76, 77] (by decide +kernel) (by decide +kernel)
set_option maxRecDepth 20000 in
theorem gX1_hear_X1_log : GoodIn wsX1_hear (wsV RX1 64 RX1 yX1_log wsX1_log) := goodIn_app (goodIn_of _ (by decide +kernel)) ggX1_hear_X1_log
set_option maxRecDepth 20000 in
theorem ggX1_hear_X2_isAsking : GoodIn wsX1_hear wsX2_isAsking := goodIn_r _ [24, 25, 26, 27, 28, 23, 29, 30, 31, 32, 33, 34, 35, 36, 37, 38, 39, 40, 41, 42, 43, 44, 45, 46, 47, 48, 49, 50, 51, 52, 53, 54, 55, 56, 57, 78, 79, 80, 81, 82, 83, 84, 85, 86] (by decide +kernel) (by decide +kernel)
set_option maxRecDepth 20000 in
theorem gX1_hear_X2_isAsking : GoodIn wsX1_hear (wsV RX1 68 RX2 yX2_isAsking wsX2_isAsking) := goodIn_app (goodIn_of _ (by decide +kernel)) ggX1_hear_X2_isAsking
set_option maxRecDepth 20000 in
theorem ggX1_hear_X6_ask : GoodIn wsX1_hear wsX6_ask := goodIn_r _ [61, 62, 63, 19, 64, 73, 74, 75, 76, 77] (by decide +kernel) (by decide +kernel)
set_option maxRecDepth 20000 in
theorem gX1_hear_X6_ask : GoodIn wsX1_hear (wsV RX1 72 RX6 yX6_ask wsX6_ask) := goodIn_app (goodIn_of _ (by decide +kernel)) ggX1_hear_X6_ask
set_option maxRecDepth 20000 in
theorem ggX1_hear_X6_day : GoodIn wsX1_hear wsX6_day := goodIn_r _ [18, 19, 73, 74, 75, 76, 77] (by decide +kernel) (by decide +kernel)
set_option maxRecDepth 20000 in
theorem gX1_hear_X6_day : GoodIn wsX1_hear (wsV RX1 76 RX6 yX6_day wsX6_day) := goodIn_app (goodIn_of _ (by decide +kernel)) ggX1_hear_X6_day
theorem dX1_hear_0 : decode cX1_hear 0 = .ok (.aload_n 0, 1) := by decide +kernel
theorem dX1_hear_1 : decode cX1_hear 1 = .ok (.iload_n 2, 1) := by decide +kernel
theorem dX1_hear_2 : decode cX1_hear 2 = .ok (.iload_n 3, 1) := by decide +kernel
theorem dX1_hear_3 : decode cX1_hear 3 = .ok (.invokevirtual 64, 3) := by decide +kernel
theorem dX1_hear_6 : decode cX1_hear 6 = .ok (.aload_n 0, 1) := by decide +kernel
theorem dX1_hear_7 : decode cX1_hear 7 = .ok (.dup, 1) := by decide +kernel
theorem dX1_hear_8 : decode cX1_hear 8 = .ok (.getfield 44, 3) := by decide +kernel
theorem dX1_hear_11 : decode cX1_hear 11 = .ok (.iconst 1, 1) := by decide +kernel
theorem dX1_hear_12 : decode cX1_hear 12 = .ok (.iadd, 1) := by decide +kernel
theorem dX1_hear_13 : decode cX1_hear 13 = .ok (.putfield 44, 3) := by decide +kernel
theorem dX1_hear_16 : decode cX1_hear 16 = .ok (.aload_n 1, 1) := by decide +kernel
theorem dX1_hear_17 : decode cX1_hear 17 = .ok (.iload_n 3, 1) := by decide +kernel
theorem dX1_hear_18 : decode cX1_hear 18 = .ok (.iload_n 2, 1) := by decide +kernel
theorem dX1_hear_19 : decode cX1_hear 19 = .ok (.aload_n 0, 1) := by decide +kernel
theorem dX1_hear_20 : decode cX1_hear 20 = .ok (.getfield 52, 3) := by decide +kernel
theorem dX1_hear_23 : decode cX1_hear 23 = .ok (.invokevirtual 68, 3) := by decide +kernel
theorem dX1_hear_26 : decode cX1_hear 26 = .ok (.istore 4, 2) := by decide +kernel
theorem dX1_hear_28 : decode cX1_hear 28 = .ok (.iload 4, 2) := by decide +kernel
theorem dX1_hear_30 : decode cX1_hear 30 = .ok (.ifCond .eq 47, 3) := by decide +kernel
theorem dX1_hear_33 : decode cX1_hear 33 = .ok (.iload_n 2, 1) := by decide +kernel
theorem dX1_hear_34 : decode cX1_hear 34 = .ok (.ifCond .lt 43, 3) := by decide +kernel
theorem dX1_hear_37 : decode cX1_hear 37 = .ok (.iload_n 2, 1) := by decide +kernel
theorem dX1_hear_38 : decode cX1_hear 38 = .ok (.bipush 6, 2) := by decide +kernel
theorem dX1_hear_40 : decode cX1_hear 40 = .ok (.if_icmp .ge 37, 3) := by decide +kernel
theorem dX1_hear_43 : decode cX1_hear 43 = .ok (.aload_n 0, 1) := by decide +kernel
theorem dX1_hear_44 : decode cX1_hear 44 = .ok (.getfield 12, 3) := by decide +kernel
theorem dX1_hear_47 : decode cX1_hear 47 = .ok (.iload_n 2, 1) := by decide +kernel
theorem dX1_hear_48 : decode cX1_hear 48 = .ok (.invokevirtual 72, 3) := by decide +kernel
theorem dX1_hear_51 : decode cX1_hear 51 = .ok (.aload_n 0, 1) := by decide +kernel
theorem dX1_hear_52 : decode cX1_hear 52 = .ok (.getfield 22, 3) := by decide +kernel
theorem dX1_hear_55 : decode cX1_hear 55 = .ok (.iload_n 2, 1) := by decide +kernel
theorem dX1_hear_56 : decode cX1_hear 56 = .ok (.dup2, 1) := by decide +kernel
theorem dX1_hear_57 : decode cX1_hear 57 = .ok (.iaload, 1) := by decide +kernel
theorem dX1_hear_58 : decode cX1_hear 58 = .ok (.iconst 1, 1) := by decide +kernel
theorem dX1_hear_59 : decode cX1_hear 59 = .ok (.iadd, 1) := by decide +kernel
theorem dX1_hear_60 : decode cX1_hear 60 = .ok (.iastore, 1) := by decide +kernel
theorem dX1_hear_61 : decode cX1_hear 61 = .ok (.aload_n 0, 1) := by decide +kernel
theorem dX1_hear_62 : decode cX1_hear 62 = .ok (.getfield 18, 3) := by decide +kernel
theorem dX1_hear_65 : decode cX1_hear 65 = .ok (.iload_n 2, 1) := by decide +kernel
theorem dX1_hear_66 : decode cX1_hear 66 = .ok (.bipush 10, 2) := by decide +kernel
theorem dX1_hear_68 : decode cX1_hear 68 = .ok (.imul, 1) := by decide +kernel
theorem dX1_hear_69 : decode cX1_hear 69 = .ok (.aload_n 0, 1) := by decide +kernel
theorem dX1_hear_70 : decode cX1_hear 70 = .ok (.getfield 12, 3) := by decide +kernel
theorem dX1_hear_73 : decode cX1_hear 73 = .ok (.invokevirtual 76, 3) := by decide +kernel
theorem dX1_hear_76 : decode cX1_hear 76 = .ok (.iastore, 1) := by decide +kernel
theorem dX1_hear_77 : decode cX1_hear 77 = .ok (.iload 4, 2) := by decide +kernel
theorem dX1_hear_79 : decode cX1_hear 79 = .ok (.ireturn, 1) := by decide +kernel
set_option maxRecDepth 20000 in
theorem ggX1_log_X6_day : GoodIn wsX1_log wsX6_day := goodIn_r _ [10, 11, 20, 21, 22, 23, 24] (by decide +kernel) (by decide +kernel)
set_option maxRecDepth 20000 in
theorem gX1_log_X6_day : GoodIn wsX1_log (wsV RX1 76 RX6 yX6_day wsX6_day) := goodIn_app (goodIn_of _ (by decide +kernel)) ggX1_log_X6_day
theorem dX1_log_0 : decode cX1_log 0 = .ok (.aload_n 0, 1) := by decide +kernel
theorem dX1_log_1 : decode cX1_log 1 = .ok (.getfield 12, 3) := by decide +kernel
theorem dX1_log_4 : decode cX1_log 4 = .ok (.invokevirtual 76, 3) := by decide +kernel
theorem dX1_log_7 : decode cX1_log 7 = .ok (.istore_n 3, 1) := by decide +kernel
theorem dX1_log_8 : decode cX1_log 8 = .ok (.iload_n 3, 1) := by decide +kernel
theorem dX1_log_9 : decode cX1_log 9 = .ok (.ifCond .lt 64, 3) := by decide +kernel
theorem dX1_log_12 : decode cX1_log 12 = .ok (.iload_n 3, 1) := by decide +kernel
theorem dX1_log_13 : decode cX1_log 13 = .ok (.bipush 10, 2) := by decide +kernel
theorem dX1_log_15 : decode cX1_log 15 = .ok (.if_icmp .ge 58, 3) := by decide +kernel
theorem dX1_log_18 : decode cX1_log 18 = .ok (.aload_n 0, 1) := by decide +kernel
theorem dX1_log_19 : decode cX1_log 19 = .ok (.getfield 44, 3) := by decide +kernel
theorem dX1_log_22 : decode cX1_log 22 = .ok (.ifCond .lt 51, 3) := by decide +kernel
theorem dX1_log_25 : decode cX1_log 25 = .ok (.aload_n 0, 1) := by decide +kernel
theorem dX1_log_26 : decode cX1_log 26 = .ok (.getfield 44, 3) := by decide +kernel
theorem dX1_log_29 : decode cX1_log 29 = .ok (.iconst 4, 1) := by decide +kernel
theorem dX1_log_30 : decode cX1_log 30 = .ok (.if_icmp .ge 43, 3) := by decide +kernel
theorem dX1_log_33 : decode cX1_log 33 = .ok (.aload_n 0, 1) := by decide +kernel
theorem dX1_log_34 : decode cX1_log 34 = .ok (.getfield 28, 3) := by decide +kernel
theorem dX1_log_37 : decode cX1_log 37 = .ok (.iload_n 3, 1) := by decide +kernel
theorem dX1_log_38 : decode cX1_log 38 = .ok (.iconst 4, 1) := by decide +kernel
theorem dX1_log_39 : decode cX1_log 39 = .ok (.imul, 1) := by decide +kernel
theorem dX1_log_40 : decode cX1_log 40 = .ok (.aload_n 0, 1) := by decide +kernel
theorem dX1_log_41 : decode cX1_log 41 = .ok (.getfield 44, 3) := by decide +kernel
theorem dX1_log_44 : decode cX1_log 44 = .ok (.iadd, 1) := by decide +kernel
theorem dX1_log_45 : decode cX1_log 45 = .ok (.iload_n 1, 1) := by decide +kernel
theorem dX1_log_46 : decode cX1_log 46 = .ok (.iastore, 1) := by decide +kernel
theorem dX1_log_47 : decode cX1_log 47 = .ok (.aload_n 0, 1) := by decide +kernel
theorem dX1_log_48 : decode cX1_log 48 = .ok (.getfield 31, 3) := by decide +kernel
theorem dX1_log_51 : decode cX1_log 51 = .ok (.iload_n 3, 1) := by decide +kernel
theorem dX1_log_52 : decode cX1_log 52 = .ok (.iconst 4, 1) := by decide +kernel
theorem dX1_log_53 : decode cX1_log 53 = .ok (.imul, 1) := by decide +kernel
theorem dX1_log_54 : decode cX1_log 54 = .ok (.aload_n 0, 1) := by decide +kernel
theorem dX1_log_55 : decode cX1_log 55 = .ok (.getfield 44, 3) := by decide +kernel
theorem dX1_log_58 : decode cX1_log 58 = .ok (.iadd, 1) := by decide +kernel
theorem dX1_log_59 : decode cX1_log 59 = .ok (.iload_n 2, 1) := by decide +kernel
theorem dX1_log_60 : decode cX1_log 60 = .ok (.iastore, 1) := by decide +kernel
theorem dX1_log_61 : decode cX1_log 61 = .ok (.aload_n 0, 1) := by decide +kernel
theorem dX1_log_62 : decode cX1_log 62 = .ok (.getfield 25, 3) := by decide +kernel
theorem dX1_log_65 : decode cX1_log 65 = .ok (.iload_n 3, 1) := by decide +kernel
theorem dX1_log_66 : decode cX1_log 66 = .ok (.aload_n 0, 1) := by decide +kernel
theorem dX1_log_67 : decode cX1_log 67 = .ok (.getfield 44, 3) := by decide +kernel
theorem dX1_log_70 : decode cX1_log 70 = .ok (.iconst 1, 1) := by decide +kernel
theorem dX1_log_71 : decode cX1_log 71 = .ok (.iadd, 1) := by decide +kernel
theorem dX1_log_72 : decode cX1_log 72 = .ok (.iastore, 1) := by decide +kernel
theorem dX1_log_73 : decode cX1_log 73 = .ok (.return_, 1) := by decide +kernel
set_option maxRecDepth 20000 in
theorem ggX1_passNoon_X6_passNoon : GoodIn wsX1_passNoon wsX6_passNoon := goodIn_r _ [8, 9, 10, 11, 12, 13, 14, 7, 15, 16, 17, 18, 19, 20, 21, 30, 31, 32, 33, 34] (by decide +kernel) (by decide +kernel)
set_option maxRecDepth 20000 in
theorem gX1_passNoon_X6_passNoon : GoodIn wsX1_passNoon (wsV RX1 79 RX6 yX6_passNoon wsX6_passNoon) := goodIn_app (goodIn_of _ (by decide +kernel)) ggX1_passNoon_X6_passNoon
theorem dX1_passNoon_0 : decode cX1_passNoon 0 = .ok (.aload_n 0, 1) := by decide +kernel
theorem dX1_passNoon_1 : decode cX1_passNoon 1 = .ok (.getfield 12, 3) := by decide +kernel
theorem dX1_passNoon_4 : decode cX1_passNoon 4 = .ok (.invokevirtual 79, 3) := by decide +kernel
theorem dX1_passNoon_7 : decode cX1_passNoon 7 = .ok (.aload_n 0, 1) := by decide +kernel
theorem dX1_passNoon_8 : decode cX1_passNoon 8 = .ok (.iconst 0, 1) := by decide +kernel
theorem dX1_passNoon_9 : decode cX1_passNoon 9 = .ok (.putfield 44, 3) := by decide +kernel
theorem dX1_passNoon_12 : decode cX1_passNoon 12 = .ok (.iconst 0, 1) := by decide +kernel
theorem dX1_passNoon_13 : decode cX1_passNoon 13 = .ok (.istore_n 1, 1) := by decide +kernel
theorem dX1_passNoon_14 : decode cX1_passNoon 14 = .ok (.iload_n 1, 1) := by decide +kernel
theorem dX1_passNoon_15 : decode cX1_passNoon 15 = .ok (.bipush 6, 2) := by decide +kernel
theorem dX1_passNoon_17 : decode cX1_passNoon 17 = .ok (.if_icmp .ge 46, 3) := by decide +kernel
theorem dX1_passNoon_20 : decode cX1_passNoon 20 = .ok (.bipush 9, 2) := by decide +kernel
theorem dX1_passNoon_22 : decode cX1_passNoon 22 = .ok (.istore_n 2, 1) := by decide +kernel
theorem dX1_passNoon_23 : decode cX1_passNoon 23 = .ok (.iload_n 2, 1) := by decide +kernel
theorem dX1_passNoon_24 : decode cX1_passNoon 24 = .ok (.ifCond .le 33, 3) := by decide +kernel
theorem dX1_passNoon_27 : decode cX1_passNoon 27 = .ok (.aload_n 0, 1) := by decide +kernel
theorem dX1_passNoon_28 : decode cX1_passNoon 28 = .ok (.getfield 18, 3) := by decide +kernel
theorem dX1_passNoon_31 : decode cX1_passNoon 31 = .ok (.iload_n 1, 1) := by decide +kernel
theorem dX1_passNoon_32 : decode cX1_passNoon 32 = .ok (.bipush 10, 2) := by decide +kernel
theorem dX1_passNoon_34 : decode cX1_passNoon 34 = .ok (.imul, 1) := by decide +kernel
theorem dX1_passNoon_35 : decode cX1_passNoon 35 = .ok (.iload_n 2, 1) := by decide +kernel
theorem dX1_passNoon_36 : decode cX1_passNoon 36 = .ok (.iadd, 1) := by decide +kernel
theorem dX1_passNoon_37 : decode cX1_passNoon 37 = .ok (.aload_n 0, 1) := by decide +kernel
theorem dX1_passNoon_38 : decode cX1_passNoon 38 = .ok (.getfield 18, 3) := by decide +kernel
theorem dX1_passNoon_41 : decode cX1_passNoon 41 = .ok (.iload_n 1, 1) := by decide +kernel
theorem dX1_passNoon_42 : decode cX1_passNoon 42 = .ok (.bipush 10, 2) := by decide +kernel
theorem dX1_passNoon_44 : decode cX1_passNoon 44 = .ok (.imul, 1) := by decide +kernel
theorem dX1_passNoon_45 : decode cX1_passNoon 45 = .ok (.iload_n 2, 1) := by decide +kernel
theorem dX1_passNoon_46 : decode cX1_passNoon 46 = .ok (.iadd, 1) := by decide +kernel
theorem dX1_passNoon_47 : decode cX1_passNoon 47 = .ok (.iconst 1, 1) := by decide +kernel
theorem dX1_passNoon_48 : decode cX1_passNoon 48 = .ok (.isub, 1) := by decide +kernel
theorem dX1_passNoon_49 : decode cX1_passNoon 49 = .ok (.iaload, 1) := by decide +kernel
theorem dX1_passNoon_50 : decode cX1_passNoon 50 = .ok (.iastore, 1) := by decide +kernel
theorem dX1_passNoon_51 : decode cX1_passNoon 51 = .ok (.iinc 2 (-1), 3) := by decide +kernel
theorem dX1_passNoon_54 : decode cX1_passNoon 54 = .ok (.goto (-31), 3) := by decide +kernel
theorem dX1_passNoon_57 : decode cX1_passNoon 57 = .ok (.iinc 1 1, 3) := by decide +kernel
theorem dX1_passNoon_60 : decode cX1_passNoon 60 = .ok (.goto (-46), 3) := by decide +kernel
theorem dX1_passNoon_63 : decode cX1_passNoon 63 = .ok (.return_, 1) := by decide +kernel
set_option maxRecDepth 20000 in
theorem ggX1_agoKnown_X6_ago : GoodIn wsX1_agoKnown wsX6_ago := goodIn_r _ [6, 7, 8, 9, 39, 40, 41, 42, 43] (by decide +kernel) (by decide +kernel)
set_option maxRecDepth 20000 in
theorem gX1_agoKnown_X6_ago : GoodIn wsX1_agoKnown (wsV RX1 82 RX6 yX6_ago wsX6_ago) := goodIn_app (goodIn_of _ (by decide +kernel)) ggX1_agoKnown_X6_ago
set_option maxRecDepth 20000 in
theorem ggX1_agoKnown_X6_day : GoodIn wsX1_agoKnown wsX6_day := goodIn_r _ [13, 8, 39, 40, 41, 42, 43] (by decide +kernel) (by decide +kernel)
set_option maxRecDepth 20000 in
theorem gX1_agoKnown_X6_day : GoodIn wsX1_agoKnown (wsV RX1 76 RX6 yX6_day wsX6_day) := goodIn_app (goodIn_of _ (by decide +kernel)) ggX1_agoKnown_X6_day
set_option maxRecDepth 20000 in
theorem ggX1_agoKnown_X2_mails : GoodIn wsX1_agoKnown wsX2_mails := goodIn_r _ [18, 19, 20, 21, 22, 17, 23, 24, 44, 45, 46, 47, 48, 49, 50, 51, 52] (by decide +kernel) (by decide +kernel)
set_option maxRecDepth 20000 in
theorem gX1_agoKnown_X2_mails : GoodIn wsX1_agoKnown (wsV RX1 83 RX2 yX2_mails wsX2_mails) := goodIn_app (goodIn_of _ (by decide +kernel)) ggX1_agoKnown_X2_mails
set_option maxRecDepth 20000 in
theorem ggX1_agoKnown_X1_lastHeard : GoodIn wsX1_agoKnown wsX1_lastHeard := goodIn_r _ [29, 30, 31, 32, 33, 34, 35, 36, 37, 38] (by decide +kernel) (by decide +kernel)
set_option maxRecDepth 20000 in
theorem gX1_agoKnown_X1_lastHeard : GoodIn wsX1_agoKnown (wsV RX1 86 RX1 yX1_lastHeard wsX1_lastHeard) := goodIn_app (goodIn_of _ (by decide +kernel)) ggX1_agoKnown_X1_lastHeard
theorem dX1_agoKnown_0 : decode cX1_agoKnown 0 = .ok (.iload_n 2, 1) := by decide +kernel
theorem dX1_agoKnown_1 : decode cX1_agoKnown 1 = .ok (.iload_n 3, 1) := by decide +kernel
theorem dX1_agoKnown_2 : decode cX1_agoKnown 2 = .ok (.if_icmp .ne 14, 3) := by decide +kernel
theorem dX1_agoKnown_5 : decode cX1_agoKnown 5 = .ok (.aload_n 0, 1) := by decide +kernel
theorem dX1_agoKnown_6 : decode cX1_agoKnown 6 = .ok (.getfield 12, 3) := by decide +kernel
theorem dX1_agoKnown_9 : decode cX1_agoKnown 9 = .ok (.iload_n 2, 1) := by decide +kernel
theorem dX1_agoKnown_10 : decode cX1_agoKnown 10 = .ok (.invokevirtual 82, 3) := by decide +kernel
theorem dX1_agoKnown_13 : decode cX1_agoKnown 13 = .ok (.goto 21, 3) := by decide +kernel
theorem dX1_agoKnown_16 : decode cX1_agoKnown 16 = .ok (.aload_n 0, 1) := by decide +kernel
theorem dX1_agoKnown_17 : decode cX1_agoKnown 17 = .ok (.getfield 12, 3) := by decide +kernel
theorem dX1_agoKnown_20 : decode cX1_agoKnown 20 = .ok (.invokevirtual 76, 3) := by decide +kernel
theorem dX1_agoKnown_23 : decode cX1_agoKnown 23 = .ok (.aload_n 0, 1) := by decide +kernel
theorem dX1_agoKnown_24 : decode cX1_agoKnown 24 = .ok (.iload_n 3, 1) := by decide +kernel
theorem dX1_agoKnown_25 : decode cX1_agoKnown 25 = .ok (.aload_n 1, 1) := by decide +kernel
theorem dX1_agoKnown_26 : decode cX1_agoKnown 26 = .ok (.iload_n 2, 1) := by decide +kernel
theorem dX1_agoKnown_27 : decode cX1_agoKnown 27 = .ok (.invokevirtual 83, 3) := by decide +kernel
theorem dX1_agoKnown_30 : decode cX1_agoKnown 30 = .ok (.invokevirtual 86, 3) := by decide +kernel
theorem dX1_agoKnown_33 : decode cX1_agoKnown 33 = .ok (.isub, 1) := by decide +kernel
theorem dX1_agoKnown_34 : decode cX1_agoKnown 34 = .ok (.ireturn, 1) := by decide +kernel
set_option maxRecDepth 20000 in
theorem ggX1_longestKnown_X2_relatives : GoodIn wsX1_longestKnown wsX2_relatives := goodIn_r _ [5, 6, 39, 40, 41, 42, 43, 44, 45, 46, 47] (by decide +kernel) (by decide +kernel)
set_option maxRecDepth 20000 in
theorem gX1_longestKnown_X2_relatives : GoodIn wsX1_longestKnown (wsV RX1 90 RX2 yX2_relatives wsX2_relatives) := goodIn_app (goodIn_of _ (by decide +kernel)) ggX1_longestKnown_X2_relatives
set_option maxRecDepth 20000 in
theorem ggX1_longestKnown_X1_agoKnown : GoodIn wsX1_longestKnown wsX1_agoKnown := goodIn_r _ [11, 12, 13, 14, 15, 16, 17, 18, 19, 20, 21, 22, 23, 24, 25, 26, 27, 4, 28, 29, 30, 31, 32, 33, 6, 34, 35, 36, 10, 37, 38, 48, 49, 50, 51, 52, 53, 54, 55, 56, 57, 58, 59, 60, 39, 40, 41, 42, 43, 44, 45, 46, 47] (by decide +kernel) (by decide +kernel)
set_option maxRecDepth 20000 in
theorem gX1_longestKnown_X1_agoKnown : GoodIn wsX1_longestKnown (wsV RX1 93 RX1 yX1_agoKnown wsX1_agoKnown) := goodIn_app (goodIn_of _ (by decide +kernel)) ggX1_longestKnown_X1_agoKnown
theorem dX1_longestKnown_0 : decode cX1_longestKnown 0 = .ok (.iconst 0, 1) := by decide +kernel
theorem dX1_longestKnown_1 : decode cX1_longestKnown 1 = .ok (.istore_n 3, 1) := by decide +kernel
theorem dX1_longestKnown_2 : decode cX1_longestKnown 2 = .ok (.iconst 1, 1) := by decide +kernel
theorem dX1_longestKnown_3 : decode cX1_longestKnown 3 = .ok (.istore 4, 2) := by decide +kernel
theorem dX1_longestKnown_5 : decode cX1_longestKnown 5 = .ok (.iload 4, 2) := by decide +kernel
theorem dX1_longestKnown_7 : decode cX1_longestKnown 7 = .ok (.aload_n 1, 1) := by decide +kernel
theorem dX1_longestKnown_8 : decode cX1_longestKnown 8 = .ok (.invokevirtual 90, 3) := by decide +kernel
theorem dX1_longestKnown_11 : decode cX1_longestKnown 11 = .ok (.if_icmp .ge 30, 3) := by decide +kernel
theorem dX1_longestKnown_14 : decode cX1_longestKnown 14 = .ok (.aload_n 0, 1) := by decide +kernel
theorem dX1_longestKnown_15 : decode cX1_longestKnown 15 = .ok (.aload_n 1, 1) := by decide +kernel
theorem dX1_longestKnown_16 : decode cX1_longestKnown 16 = .ok (.iload_n 2, 1) := by decide +kernel
theorem dX1_longestKnown_17 : decode cX1_longestKnown 17 = .ok (.iload 4, 2) := by decide +kernel
theorem dX1_longestKnown_19 : decode cX1_longestKnown 19 = .ok (.invokevirtual 93, 3) := by decide +kernel
theorem dX1_longestKnown_22 : decode cX1_longestKnown 22 = .ok (.aload_n 0, 1) := by decide +kernel
theorem dX1_longestKnown_23 : decode cX1_longestKnown 23 = .ok (.aload_n 1, 1) := by decide +kernel
theorem dX1_longestKnown_24 : decode cX1_longestKnown 24 = .ok (.iload_n 2, 1) := by decide +kernel
theorem dX1_longestKnown_25 : decode cX1_longestKnown 25 = .ok (.iload_n 3, 1) := by decide +kernel
theorem dX1_longestKnown_26 : decode cX1_longestKnown 26 = .ok (.invokevirtual 93, 3) := by decide +kernel
theorem dX1_longestKnown_29 : decode cX1_longestKnown 29 = .ok (.if_icmp .le 6, 3) := by decide +kernel
theorem dX1_longestKnown_32 : decode cX1_longestKnown 32 = .ok (.iload 4, 2) := by decide +kernel
theorem dX1_longestKnown_34 : decode cX1_longestKnown 34 = .ok (.istore_n 3, 1) := by decide +kernel
theorem dX1_longestKnown_35 : decode cX1_longestKnown 35 = .ok (.iinc 4 1, 3) := by decide +kernel
theorem dX1_longestKnown_38 : decode cX1_longestKnown 38 = .ok (.goto (-33), 3) := by decide +kernel
theorem dX1_longestKnown_41 : decode cX1_longestKnown 41 = .ok (.iload_n 3, 1) := by decide +kernel
theorem dX1_longestKnown_42 : decode cX1_longestKnown 42 = .ok (.ireturn, 1) := by decide +kernel
set_option maxRecDepth 20000 in
theorem ggX1_daysUntilAllKnow_X1_allKnowAfter : GoodIn wsX1_daysUntilAllKnow wsX1_allKnowAfter := goodIn_r _ [5, 6, 7, 8, 9, 10, 11, 12, 13, 14, 15, 16, 17, 18, 19, 20, 21, 22, 23, 24, 25, 26, 27, 4, 28, 29, 30, 31, 32, 33, 34, 35, 36, 37, 38, 39, 40, 41, 42, 43, 44, 45, 46] (by decide +kernel) (by decide +kernel)
set_option maxRecDepth 20000 in
theorem gX1_daysUntilAllKnow_X1_allKnowAfter : GoodIn wsX1_daysUntilAllKnow (wsV RX1 97 RX1 yX1_allKnowAfter wsX1_allKnowAfter) := goodIn_app (goodIn_of _ (by decide +kernel)) ggX1_daysUntilAllKnow_X1_allKnowAfter
theorem dX1_daysUntilAllKnow_0 : decode cX1_daysUntilAllKnow 0 = .ok (.iconst 0, 1) := by decide +kernel
theorem dX1_daysUntilAllKnow_1 : decode cX1_daysUntilAllKnow 1 = .ok (.istore_n 2, 1) := by decide +kernel
theorem dX1_daysUntilAllKnow_2 : decode cX1_daysUntilAllKnow 2 = .ok (.iload_n 2, 1) := by decide +kernel
theorem dX1_daysUntilAllKnow_3 : decode cX1_daysUntilAllKnow 3 = .ok (.bipush 9, 2) := by decide +kernel
theorem dX1_daysUntilAllKnow_5 : decode cX1_daysUntilAllKnow 5 = .ok (.if_icmp .ge 20, 3) := by decide +kernel
theorem dX1_daysUntilAllKnow_8 : decode cX1_daysUntilAllKnow 8 = .ok (.aload_n 0, 1) := by decide +kernel
theorem dX1_daysUntilAllKnow_9 : decode cX1_daysUntilAllKnow 9 = .ok (.iload_n 2, 1) := by decide +kernel
theorem dX1_daysUntilAllKnow_10 : decode cX1_daysUntilAllKnow 10 = .ok (.aload_n 1, 1) := by decide +kernel
theorem dX1_daysUntilAllKnow_11 : decode cX1_daysUntilAllKnow 11 = .ok (.invokevirtual 97, 3) := by decide +kernel
theorem dX1_daysUntilAllKnow_14 : decode cX1_daysUntilAllKnow 14 = .ok (.ifCond .eq 5, 3) := by decide +kernel
theorem dX1_daysUntilAllKnow_17 : decode cX1_daysUntilAllKnow 17 = .ok (.iload_n 2, 1) := by decide +kernel
theorem dX1_daysUntilAllKnow_18 : decode cX1_daysUntilAllKnow 18 = .ok (.ireturn, 1) := by decide +kernel
theorem dX1_daysUntilAllKnow_19 : decode cX1_daysUntilAllKnow 19 = .ok (.iinc 2 1, 3) := by decide +kernel
theorem dX1_daysUntilAllKnow_22 : decode cX1_daysUntilAllKnow 22 = .ok (.goto (-20), 3) := by decide +kernel
theorem dX1_daysUntilAllKnow_25 : decode cX1_daysUntilAllKnow 25 = .ok (.bipush 9, 2) := by decide +kernel
theorem dX1_daysUntilAllKnow_27 : decode cX1_daysUntilAllKnow 27 = .ok (.ireturn, 1) := by decide +kernel
set_option maxRecDepth 20000 in
theorem ggX1_allKnowAfter_X2_relatives : GoodIn wsX1_allKnowAfter wsX2_relatives := goodIn_r _ [9, 10, 26, 27, 28, 29, 30, 31, 32, 33, 34] (by decide +kernel) (by decide +kernel)
set_option maxRecDepth 20000 in
theorem gX1_allKnowAfter_X2_relatives : GoodIn wsX1_allKnowAfter (wsV RX1 90 RX2 yX2_relatives wsX2_relatives) := goodIn_app (goodIn_of _ (by decide +kernel)) ggX1_allKnowAfter_X2_relatives
set_option maxRecDepth 20000 in
theorem ggX1_allKnowAfter_X2_mails : GoodIn wsX1_allKnowAfter wsX2_mails := goodIn_r _ [14, 15, 16, 17, 18, 8, 19, 10, 26, 27, 28, 29, 30, 31, 32, 33, 34] (by decide +kernel) (by decide +kernel)
set_option maxRecDepth 20000 in
theorem gX1_allKnowAfter_X2_mails : GoodIn wsX1_allKnowAfter (wsV RX1 83 RX2 yX2_mails wsX2_mails) := goodIn_app (goodIn_of _ (by decide +kernel)) ggX1_allKnowAfter_X2_mails
set_option maxRecDepth 20000 in
theorem ggX1_allKnowAfter_X1_lastHeard : GoodIn wsX1_allKnowAfter wsX1_lastHeard := goodIn_r _ [24, 25, 35, 36, 37, 38, 39, 40, 41, 42] (by decide +kernel) (by decide +kernel)
set_option maxRecDepth 20000 in
theorem gX1_allKnowAfter_X1_lastHeard : GoodIn wsX1_allKnowAfter (wsV RX1 86 RX1 yX1_lastHeard wsX1_lastHeard) := goodIn_app (goodIn_of _ (by decide +kernel)) ggX1_allKnowAfter_X1_lastHeard
theorem dX1_allKnowAfter_0 : decode cX1_allKnowAfter 0 = .ok (.iconst 0, 1) := by decide +kernel
theorem dX1_allKnowAfter_1 : decode cX1_allKnowAfter 1 = .ok (.istore_n 3, 1) := by decide +kernel
theorem dX1_allKnowAfter_2 : decode cX1_allKnowAfter 2 = .ok (.iload_n 3, 1) := by decide +kernel
theorem dX1_allKnowAfter_3 : decode cX1_allKnowAfter 3 = .ok (.aload_n 2, 1) := by decide +kernel
theorem dX1_allKnowAfter_4 : decode cX1_allKnowAfter 4 = .ok (.invokevirtual 90, 3) := by decide +kernel
theorem dX1_allKnowAfter_7 : decode cX1_allKnowAfter 7 = .ok (.if_icmp .ge 66, 3) := by decide +kernel
theorem dX1_allKnowAfter_10 : decode cX1_allKnowAfter 10 = .ok (.iconst 0, 1) := by decide +kernel
theorem dX1_allKnowAfter_11 : decode cX1_allKnowAfter 11 = .ok (.aload_n 2, 1) := by decide +kernel
theorem dX1_allKnowAfter_12 : decode cX1_allKnowAfter 12 = .ok (.iload_n 3, 1) := by decide +kernel
theorem dX1_allKnowAfter_13 : decode cX1_allKnowAfter 13 = .ok (.invokevirtual 83, 3) := by decide +kernel
theorem dX1_allKnowAfter_16 : decode cX1_allKnowAfter 16 = .ok (.iload_n 1, 1) := by decide +kernel
theorem dX1_allKnowAfter_17 : decode cX1_allKnowAfter 17 = .ok (.isub, 1) := by decide +kernel
theorem dX1_allKnowAfter_18 : decode cX1_allKnowAfter 18 = .ok (.invokestatic 101, 3) := by decide +kernel
theorem dX1_allKnowAfter_21 : decode cX1_allKnowAfter 21 = .ok (.istore 4, 2) := by decide +kernel
theorem dX1_allKnowAfter_23 : decode cX1_allKnowAfter 23 = .ok (.iconst 0, 1) := by decide +kernel
theorem dX1_allKnowAfter_24 : decode cX1_allKnowAfter 24 = .ok (.istore 5, 2) := by decide +kernel
theorem dX1_allKnowAfter_26 : decode cX1_allKnowAfter 26 = .ok (.iload 5, 2) := by decide +kernel
theorem dX1_allKnowAfter_28 : decode cX1_allKnowAfter 28 = .ok (.aload_n 2, 1) := by decide +kernel
theorem dX1_allKnowAfter_29 : decode cX1_allKnowAfter 29 = .ok (.invokevirtual 90, 3) := by decide +kernel
theorem dX1_allKnowAfter_32 : decode cX1_allKnowAfter 32 = .ok (.if_icmp .ge 35, 3) := by decide +kernel
theorem dX1_allKnowAfter_35 : decode cX1_allKnowAfter 35 = .ok (.iload_n 3, 1) := by decide +kernel
theorem dX1_allKnowAfter_36 : decode cX1_allKnowAfter 36 = .ok (.iload 5, 2) := by decide +kernel
theorem dX1_allKnowAfter_38 : decode cX1_allKnowAfter 38 = .ok (.if_icmp .eq 23, 3) := by decide +kernel
theorem dX1_allKnowAfter_41 : decode cX1_allKnowAfter 41 = .ok (.aload_n 0, 1) := by decide +kernel
theorem dX1_allKnowAfter_42 : decode cX1_allKnowAfter 42 = .ok (.iload 5, 2) := by decide +kernel
theorem dX1_allKnowAfter_44 : decode cX1_allKnowAfter 44 = .ok (.iload 4, 2) := by decide +kernel
theorem dX1_allKnowAfter_46 : decode cX1_allKnowAfter 46 = .ok (.invokevirtual 86, 3) := by decide +kernel
theorem dX1_allKnowAfter_49 : decode cX1_allKnowAfter 49 = .ok (.aload_n 0, 1) := by decide +kernel
theorem dX1_allKnowAfter_50 : decode cX1_allKnowAfter 50 = .ok (.iload 5, 2) := by decide +kernel
theorem dX1_allKnowAfter_52 : decode cX1_allKnowAfter 52 = .ok (.iconst 0, 1) := by decide +kernel
theorem dX1_allKnowAfter_53 : decode cX1_allKnowAfter 53 = .ok (.invokevirtual 86, 3) := by decide +kernel
theorem dX1_allKnowAfter_56 : decode cX1_allKnowAfter 56 = .ok (.if_icmp .eq 5, 3) := by decide +kernel
theorem dX1_allKnowAfter_59 : decode cX1_allKnowAfter 59 = .ok (.iconst 0, 1) := by decide +kernel
theorem dX1_allKnowAfter_60 : decode cX1_allKnowAfter 60 = .ok (.ireturn, 1) := by decide +kernel
theorem dX1_allKnowAfter_61 : decode cX1_allKnowAfter 61 = .ok (.iinc 5 1, 3) := by decide +kernel
theorem dX1_allKnowAfter_64 : decode cX1_allKnowAfter 64 = .ok (.goto (-38), 3) := by decide +kernel
theorem dX1_allKnowAfter_67 : decode cX1_allKnowAfter 67 = .ok (.iinc 3 1, 3) := by decide +kernel
theorem dX1_allKnowAfter_70 : decode cX1_allKnowAfter 70 = .ok (.goto (-68), 3) := by decide +kernel
theorem dX1_allKnowAfter_73 : decode cX1_allKnowAfter 73 = .ok (.iconst 1, 1) := by decide +kernel
theorem dX1_allKnowAfter_74 : decode cX1_allKnowAfter 74 = .ok (.ireturn, 1) := by decide +kernel
theorem dX1_lastHeard_0 : decode cX1_lastHeard 0 = .ok (.iload_n 1, 1) := by decide +kernel
theorem dX1_lastHeard_1 : decode cX1_lastHeard 1 = .ok (.ifCond .lt 23, 3) := by decide +kernel
theorem dX1_lastHeard_4 : decode cX1_lastHeard 4 = .ok (.iload_n 1, 1) := by decide +kernel
theorem dX1_lastHeard_5 : decode cX1_lastHeard 5 = .ok (.bipush 6, 2) := by decide +kernel
theorem dX1_lastHeard_7 : decode cX1_lastHeard 7 = .ok (.if_icmp .ge 17, 3) := by decide +kernel
theorem dX1_lastHeard_10 : decode cX1_lastHeard 10 = .ok (.iload_n 2, 1) := by decide +kernel
theorem dX1_lastHeard_11 : decode cX1_lastHeard 11 = .ok (.ifCond .lt 13, 3) := by decide +kernel
theorem dX1_lastHeard_14 : decode cX1_lastHeard 14 = .ok (.iload_n 2, 1) := by decide +kernel
theorem dX1_lastHeard_15 : decode cX1_lastHeard 15 = .ok (.bipush 10, 2) := by decide +kernel
theorem dX1_lastHeard_17 : decode cX1_lastHeard 17 = .ok (.if_icmp .ge 7, 3) := by decide +kernel
theorem dX1_lastHeard_20 : decode cX1_lastHeard 20 = .ok (.iconst 1, 1) := by decide +kernel
theorem dX1_lastHeard_21 : decode cX1_lastHeard 21 = .ok (.goto 4, 3) := by decide +kernel
theorem dX1_lastHeard_24 : decode cX1_lastHeard 24 = .ok (.iconst 0, 1) := by decide +kernel
theorem dX1_lastHeard_25 : decode cX1_lastHeard 25 = .ok (.istore_n 3, 1) := by decide +kernel
theorem dX1_lastHeard_26 : decode cX1_lastHeard 26 = .ok (.iload_n 3, 1) := by decide +kernel
theorem dX1_lastHeard_27 : decode cX1_lastHeard 27 = .ok (.ifCond .eq 17, 3) := by decide +kernel
theorem dX1_lastHeard_30 : decode cX1_lastHeard 30 = .ok (.aload_n 0, 1) := by decide +kernel
theorem dX1_lastHeard_31 : decode cX1_lastHeard 31 = .ok (.getfield 18, 3) := by decide +kernel
theorem dX1_lastHeard_34 : decode cX1_lastHeard 34 = .ok (.iload_n 1, 1) := by decide +kernel
theorem dX1_lastHeard_35 : decode cX1_lastHeard 35 = .ok (.bipush 10, 2) := by decide +kernel
theorem dX1_lastHeard_37 : decode cX1_lastHeard 37 = .ok (.imul, 1) := by decide +kernel
theorem dX1_lastHeard_38 : decode cX1_lastHeard 38 = .ok (.iload_n 2, 1) := by decide +kernel
theorem dX1_lastHeard_39 : decode cX1_lastHeard 39 = .ok (.iadd, 1) := by decide +kernel
theorem dX1_lastHeard_40 : decode cX1_lastHeard 40 = .ok (.iaload, 1) := by decide +kernel
theorem dX1_lastHeard_41 : decode cX1_lastHeard 41 = .ok (.goto 4, 3) := by decide +kernel
theorem dX1_lastHeard_44 : decode cX1_lastHeard 44 = .ok (.iconst 0, 1) := by decide +kernel
theorem dX1_lastHeard_45 : decode cX1_lastHeard 45 = .ok (.ireturn, 1) := by decide +kernel
set_option maxRecDepth 20000 in
theorem ggX1_repeat_X2_isAsking : GoodIn wsX1_repeat wsX2_isAsking := goodIn_r _ [8, 9, 10, 11, 12, 7, 13, 14, 15, 16, 17, 18, 19, 20, 21, 22, 23, 24, 25, 26, 27, 28, 29, 30, 31, 32, 33, 34, 35, 36, 37, 38, 39, 40, 41, 59, 60, 61, 62, 63, 64, 65, 66, 67] (by decide +kernel) (by decide +kernel)
set_option maxRecDepth 20000 in
theorem gX1_repeat_X2_isAsking : GoodIn wsX1_repeat (wsV RX1 68 RX2 yX2_isAsking wsX2_isAsking) := goodIn_app (goodIn_of _ (by decide +kernel)) ggX1_repeat_X2_isAsking
set_option maxRecDepth 20000 in
theorem ggX1_repeat_X6_ask : GoodIn wsX1_repeat wsX6_ask := goodIn_r _ [46, 47, 48, 49, 50, 68, 69, 70, 71, 72] (by decide +kernel) (by decide +kernel)
set_option maxRecDepth 20000 in
theorem gX1_repeat_X6_ask : GoodIn wsX1_repeat (wsV RX1 72 RX6 yX6_ask wsX6_ask) := goodIn_app (goodIn_of _ (by decide +kernel)) ggX1_repeat_X6_ask
theorem dX1_repeat_0 : decode cX1_repeat 0 = .ok (.iload_n 1, 1) := by decide +kernel
theorem dX1_repeat_1 : decode cX1_repeat 1 = .ok (.ifCond .lt 9, 3) := by decide +kernel
theorem dX1_repeat_4 : decode cX1_repeat 4 = .ok (.iload_n 1, 1) := by decide +kernel
theorem dX1_repeat_5 : decode cX1_repeat 5 = .ok (.bipush 10, 2) := by decide +kernel
theorem dX1_repeat_7 : decode cX1_repeat 7 = .ok (.if_icmp .lt 4, 3) := by decide +kernel
theorem dX1_repeat_10 : decode cX1_repeat 10 = .ok (.return_, 1) := by decide +kernel
theorem dX1_repeat_11 : decode cX1_repeat 11 = .ok (.iconst 0, 1) := by decide +kernel
theorem dX1_repeat_12 : decode cX1_repeat 12 = .ok (.istore 5, 2) := by decide +kernel
theorem dX1_repeat_14 : decode cX1_repeat 14 = .ok (.iload 5, 2) := by decide +kernel
theorem dX1_repeat_16 : decode cX1_repeat 16 = .ok (.aload_n 0, 1) := by decide +kernel
theorem dX1_repeat_17 : decode cX1_repeat 17 = .ok (.getfield 25, 3) := by decide +kernel
theorem dX1_repeat_20 : decode cX1_repeat 20 = .ok (.iload_n 1, 1) := by decide +kernel
theorem dX1_repeat_21 : decode cX1_repeat 21 = .ok (.iaload, 1) := by decide +kernel
theorem dX1_repeat_22 : decode cX1_repeat 22 = .ok (.if_icmp .ge 56, 3) := by decide +kernel
theorem dX1_repeat_25 : decode cX1_repeat 25 = .ok (.iload 5, 2) := by decide +kernel
theorem dX1_repeat_27 : decode cX1_repeat 27 = .ok (.iconst 4, 1) := by decide +kernel
theorem dX1_repeat_28 : decode cX1_repeat 28 = .ok (.if_icmp .ge 50, 3) := by decide +kernel
theorem dX1_repeat_31 : decode cX1_repeat 31 = .ok (.aload_n 0, 1) := by decide +kernel
theorem dX1_repeat_32 : decode cX1_repeat 32 = .ok (.getfield 28, 3) := by decide +kernel
theorem dX1_repeat_35 : decode cX1_repeat 35 = .ok (.iload_n 1, 1) := by decide +kernel
theorem dX1_repeat_36 : decode cX1_repeat 36 = .ok (.iconst 4, 1) := by decide +kernel
theorem dX1_repeat_37 : decode cX1_repeat 37 = .ok (.imul, 1) := by decide +kernel
theorem dX1_repeat_38 : decode cX1_repeat 38 = .ok (.iload 5, 2) := by decide +kernel
theorem dX1_repeat_40 : decode cX1_repeat 40 = .ok (.iadd, 1) := by decide +kernel
theorem dX1_repeat_41 : decode cX1_repeat 41 = .ok (.iaload, 1) := by decide +kernel
theorem dX1_repeat_42 : decode cX1_repeat 42 = .ok (.istore 6, 2) := by decide +kernel
theorem dX1_repeat_44 : decode cX1_repeat 44 = .ok (.aload_n 2, 1) := by decide +kernel
theorem dX1_repeat_45 : decode cX1_repeat 45 = .ok (.aload_n 0, 1) := by decide +kernel
theorem dX1_repeat_46 : decode cX1_repeat 46 = .ok (.getfield 31, 3) := by decide +kernel
theorem dX1_repeat_49 : decode cX1_repeat 49 = .ok (.iload_n 1, 1) := by decide +kernel
theorem dX1_repeat_50 : decode cX1_repeat 50 = .ok (.iconst 4, 1) := by decide +kernel
theorem dX1_repeat_51 : decode cX1_repeat 51 = .ok (.imul, 1) := by decide +kernel
theorem dX1_repeat_52 : decode cX1_repeat 52 = .ok (.iload 5, 2) := by decide +kernel
theorem dX1_repeat_54 : decode cX1_repeat 54 = .ok (.iadd, 1) := by decide +kernel
theorem dX1_repeat_55 : decode cX1_repeat 55 = .ok (.iaload, 1) := by decide +kernel
theorem dX1_repeat_56 : decode cX1_repeat 56 = .ok (.iload 6, 2) := by decide +kernel
theorem dX1_repeat_58 : decode cX1_repeat 58 = .ok (.iload_n 3, 1) := by decide +kernel
theorem dX1_repeat_59 : decode cX1_repeat 59 = .ok (.invokevirtual 68, 3) := by decide +kernel
theorem dX1_repeat_62 : decode cX1_repeat 62 = .ok (.ifCond .eq 10, 3) := by decide +kernel
theorem dX1_repeat_65 : decode cX1_repeat 65 = .ok (.aload 4, 2) := by decide +kernel
theorem dX1_repeat_67 : decode cX1_repeat 67 = .ok (.iload 6, 2) := by decide +kernel
theorem dX1_repeat_69 : decode cX1_repeat 69 = .ok (.invokevirtual 72, 3) := by decide +kernel
theorem dX1_repeat_72 : decode cX1_repeat 72 = .ok (.iinc 5 1, 3) := by decide +kernel
theorem dX1_repeat_75 : decode cX1_repeat 75 = .ok (.goto (-61), 3) := by decide +kernel
theorem dX1_repeat_78 : decode cX1_repeat 78 = .ok (.return_, 1) := by decide +kernel
theorem dX2_init_0 : decode cX2_init 0 = .ok (.aload_n 0, 1) := by decide +kernel
theorem dX2_init_1 : decode cX2_init 1 = .ok (.invokespecial 3, 3) := by decide +kernel
theorem dX2_init_4 : decode cX2_init 4 = .ok (.aload_n 0, 1) := by decide +kernel
theorem dX2_init_5 : decode cX2_init 5 = .ok (.bipush 6, 2) := by decide +kernel
theorem dX2_init_7 : decode cX2_init 7 = .ok (.newarray .int, 2) := by decide +kernel
theorem dX2_init_9 : decode cX2_init 9 = .ok (.putfield 9, 3) := by decide +kernel
theorem dX2_init_12 : decode cX2_init 12 = .ok (.aload_n 0, 1) := by decide +kernel
theorem dX2_init_13 : decode cX2_init 13 = .ok (.bipush 6, 2) := by decide +kernel
theorem dX2_init_15 : decode cX2_init 15 = .ok (.newarray .int, 2) := by decide +kernel
theorem dX2_init_17 : decode cX2_init 17 = .ok (.putfield 15, 3) := by decide +kernel
theorem dX2_init_20 : decode cX2_init 20 = .ok (.aload_n 0, 1) := by decide +kernel
theorem dX2_init_21 : decode cX2_init 21 = .ok (.bipush 6, 2) := by decide +kernel
theorem dX2_init_23 : decode cX2_init 23 = .ok (.newarray .int, 2) := by decide +kernel
theorem dX2_init_25 : decode cX2_init 25 = .ok (.putfield 18, 3) := by decide +kernel
theorem dX2_init_28 : decode cX2_init 28 = .ok (.aload_n 0, 1) := by decide +kernel
theorem dX2_init_29 : decode cX2_init 29 = .ok (.bipush 8, 2) := by decide +kernel
theorem dX2_init_31 : decode cX2_init 31 = .ok (.newarray .int, 2) := by decide +kernel
theorem dX2_init_33 : decode cX2_init 33 = .ok (.putfield 21, 3) := by decide +kernel
theorem dX2_init_36 : decode cX2_init 36 = .ok (.aload_n 0, 1) := by decide +kernel
theorem dX2_init_37 : decode cX2_init 37 = .ok (.bipush 8, 2) := by decide +kernel
theorem dX2_init_39 : decode cX2_init 39 = .ok (.newarray .boolean, 2) := by decide +kernel
theorem dX2_init_41 : decode cX2_init 41 = .ok (.putfield 24, 3) := by decide +kernel
theorem dX2_init_44 : decode cX2_init 44 = .ok (.return_, 1) := by decide +kernel
theorem dX2_clear_0 : decode cX2_clear 0 = .ok (.aload_n 0, 1) := by decide +kernel
theorem dX2_clear_1 : decode cX2_clear 1 = .ok (.iconst 0, 1) := by decide +kernel
theorem dX2_clear_2 : decode cX2_clear 2 = .ok (.putfield 28, 3) := by decide +kernel
theorem dX2_clear_5 : decode cX2_clear 5 = .ok (.aload_n 0, 1) := by decide +kernel
theorem dX2_clear_6 : decode cX2_clear 6 = .ok (.iconst 0, 1) := by decide +kernel
theorem dX2_clear_7 : decode cX2_clear 7 = .ok (.putfield 32, 3) := by decide +kernel
theorem dX2_clear_10 : decode cX2_clear 10 = .ok (.aload_n 0, 1) := by decide +kernel
theorem dX2_clear_11 : decode cX2_clear 11 = .ok (.iconst 1, 1) := by decide +kernel
theorem dX2_clear_12 : decode cX2_clear 12 = .ok (.putfield 35, 3) := by decide +kernel
theorem dX2_clear_15 : decode cX2_clear 15 = .ok (.aload_n 0, 1) := by decide +kernel
theorem dX2_clear_16 : decode cX2_clear 16 = .ok (.iconst 3, 1) := by decide +kernel
theorem dX2_clear_17 : decode cX2_clear 17 = .ok (.putfield 38, 3) := by decide +kernel
theorem dX2_clear_20 : decode cX2_clear 20 = .ok (.return_, 1) := by decide +kernel
theorem dX2_addRelative_0 : decode cX2_addRelative 0 = .ok (.aload_n 0, 1) := by decide +kernel
theorem dX2_addRelative_1 : decode cX2_addRelative 1 = .ok (.getfield 28, 3) := by decide +kernel
theorem dX2_addRelative_4 : decode cX2_addRelative 4 = .ok (.bipush 6, 2) := by decide +kernel
theorem dX2_addRelative_6 : decode cX2_addRelative 6 = .ok (.if_icmp .ge 20, 3) := by decide +kernel
theorem dX2_addRelative_9 : decode cX2_addRelative 9 = .ok (.iload_n 1, 1) := by decide +kernel
theorem dX2_addRelative_10 : decode cX2_addRelative 10 = .ok (.iconst 4, 1) := by decide +kernel
theorem dX2_addRelative_11 : decode cX2_addRelative 11 = .ok (.if_icmp .gt 15, 3) := by decide +kernel
theorem dX2_addRelative_14 : decode cX2_addRelative 14 = .ok (.iload_n 2, 1) := by decide +kernel
theorem dX2_addRelative_15 : decode cX2_addRelative 15 = .ok (.bipush 99, 2) := by decide +kernel
theorem dX2_addRelative_17 : decode cX2_addRelative 17 = .ok (.if_icmp .gt 9, 3) := by decide +kernel
theorem dX2_addRelative_20 : decode cX2_addRelative 20 = .ok (.iload_n 3, 1) := by decide +kernel
theorem dX2_addRelative_21 : decode cX2_addRelative 21 = .ok (.bipush 9, 2) := by decide +kernel
theorem dX2_addRelative_23 : decode cX2_addRelative 23 = .ok (.if_icmp .le 5, 3) := by decide +kernel
theorem dX2_addRelative_26 : decode cX2_addRelative 26 = .ok (.iconst 0, 1) := by decide +kernel
theorem dX2_addRelative_27 : decode cX2_addRelative 27 = .ok (.ireturn, 1) := by decide +kernel
theorem dX2_addRelative_28 : decode cX2_addRelative 28 = .ok (.aload_n 0, 1) := by decide +kernel
theorem dX2_addRelative_29 : decode cX2_addRelative 29 = .ok (.getfield 9, 3) := by decide +kernel
theorem dX2_addRelative_32 : decode cX2_addRelative 32 = .ok (.aload_n 0, 1) := by decide +kernel
theorem dX2_addRelative_33 : decode cX2_addRelative 33 = .ok (.getfield 28, 3) := by decide +kernel
theorem dX2_addRelative_36 : decode cX2_addRelative 36 = .ok (.iload_n 1, 1) := by decide +kernel
theorem dX2_addRelative_37 : decode cX2_addRelative 37 = .ok (.iastore, 1) := by decide +kernel
theorem dX2_addRelative_38 : decode cX2_addRelative 38 = .ok (.aload_n 0, 1) := by decide +kernel
theorem dX2_addRelative_39 : decode cX2_addRelative 39 = .ok (.getfield 15, 3) := by decide +kernel
theorem dX2_addRelative_42 : decode cX2_addRelative 42 = .ok (.aload_n 0, 1) := by decide +kernel
theorem dX2_addRelative_43 : decode cX2_addRelative 43 = .ok (.getfield 28, 3) := by decide +kernel
theorem dX2_addRelative_46 : decode cX2_addRelative 46 = .ok (.iload_n 2, 1) := by decide +kernel
theorem dX2_addRelative_47 : decode cX2_addRelative 47 = .ok (.iastore, 1) := by decide +kernel
theorem dX2_addRelative_48 : decode cX2_addRelative 48 = .ok (.aload_n 0, 1) := by decide +kernel
theorem dX2_addRelative_49 : decode cX2_addRelative 49 = .ok (.getfield 18, 3) := by decide +kernel
theorem dX2_addRelative_52 : decode cX2_addRelative 52 = .ok (.aload_n 0, 1) := by decide +kernel
theorem dX2_addRelative_53 : decode cX2_addRelative 53 = .ok (.getfield 28, 3) := by decide +kernel
theorem dX2_addRelative_56 : decode cX2_addRelative 56 = .ok (.iload_n 3, 1) := by decide +kernel
theorem dX2_addRelative_57 : decode cX2_addRelative 57 = .ok (.iastore, 1) := by decide +kernel
theorem dX2_addRelative_58 : decode cX2_addRelative 58 = .ok (.aload_n 0, 1) := by decide +kernel
theorem dX2_addRelative_59 : decode cX2_addRelative 59 = .ok (.dup, 1) := by decide +kernel
theorem dX2_addRelative_60 : decode cX2_addRelative 60 = .ok (.getfield 28, 3) := by decide +kernel
theorem dX2_addRelative_63 : decode cX2_addRelative 63 = .ok (.iconst 1, 1) := by decide +kernel
theorem dX2_addRelative_64 : decode cX2_addRelative 64 = .ok (.iadd, 1) := by decide +kernel
theorem dX2_addRelative_65 : decode cX2_addRelative 65 = .ok (.putfield 28, 3) := by decide +kernel
theorem dX2_addRelative_68 : decode cX2_addRelative 68 = .ok (.iconst 1, 1) := by decide +kernel
theorem dX2_addRelative_69 : decode cX2_addRelative 69 = .ok (.ireturn, 1) := by decide +kernel
theorem dX2_addSaying_0 : decode cX2_addSaying 0 = .ok (.aload_n 0, 1) := by decide +kernel
theorem dX2_addSaying_1 : decode cX2_addSaying 1 = .ok (.getfield 32, 3) := by decide +kernel
theorem dX2_addSaying_4 : decode cX2_addSaying 4 = .ok (.bipush 8, 2) := by decide +kernel
theorem dX2_addSaying_6 : decode cX2_addSaying 6 = .ok (.if_icmp .ge 14, 3) := by decide +kernel
theorem dX2_addSaying_9 : decode cX2_addSaying 9 = .ok (.iload_n 1, 1) := by decide +kernel
theorem dX2_addSaying_10 : decode cX2_addSaying 10 = .ok (.bipush 64, 2) := by decide +kernel
theorem dX2_addSaying_12 : decode cX2_addSaying 12 = .ok (.if_icmp .ge 8, 3) := by decide +kernel
theorem dX2_addSaying_15 : decode cX2_addSaying 15 = .ok (.iload_n 2, 1) := by decide +kernel
theorem dX2_addSaying_16 : decode cX2_addSaying 16 = .ok (.iconst 1, 1) := by decide +kernel
theorem dX2_addSaying_17 : decode cX2_addSaying 17 = .ok (.if_icmp .le 5, 3) := by decide +kernel
theorem dX2_addSaying_20 : decode cX2_addSaying 20 = .ok (.iconst 0, 1) := by decide +kernel
theorem dX2_addSaying_21 : decode cX2_addSaying 21 = .ok (.ireturn, 1) := by decide +kernel
theorem dX2_addSaying_22 : decode cX2_addSaying 22 = .ok (.aload_n 0, 1) := by decide +kernel
theorem dX2_addSaying_23 : decode cX2_addSaying 23 = .ok (.getfield 21, 3) := by decide +kernel
theorem dX2_addSaying_26 : decode cX2_addSaying 26 = .ok (.aload_n 0, 1) := by decide +kernel
theorem dX2_addSaying_27 : decode cX2_addSaying 27 = .ok (.getfield 32, 3) := by decide +kernel
theorem dX2_addSaying_30 : decode cX2_addSaying 30 = .ok (.iload_n 1, 1) := by decide +kernel
theorem dX2_addSaying_31 : decode cX2_addSaying 31 = .ok (.iastore, 1) := by decide +kernel
theorem dX2_addSaying_32 : decode cX2_addSaying 32 = .ok (.aload_n 0, 1) := by decide +kernel
theorem dX2_addSaying_33 : decode cX2_addSaying 33 = .ok (.getfield 24, 3) := by decide +kernel
theorem dX2_addSaying_36 : decode cX2_addSaying 36 = .ok (.aload_n 0, 1) := by decide +kernel
theorem dX2_addSaying_37 : decode cX2_addSaying 37 = .ok (.getfield 32, 3) := by decide +kernel
theorem dX2_addSaying_40 : decode cX2_addSaying 40 = .ok (.iload_n 2, 1) := by decide +kernel
theorem dX2_addSaying_41 : decode cX2_addSaying 41 = .ok (.iconst 1, 1) := by decide +kernel
theorem dX2_addSaying_42 : decode cX2_addSaying 42 = .ok (.if_icmp .ne 7, 3) := by decide +kernel
theorem dX2_addSaying_45 : decode cX2_addSaying 45 = .ok (.iconst 1, 1) := by decide +kernel
theorem dX2_addSaying_46 : decode cX2_addSaying 46 = .ok (.goto 4, 3) := by decide +kernel
theorem dX2_addSaying_49 : decode cX2_addSaying 49 = .ok (.iconst 0, 1) := by decide +kernel
theorem dX2_addSaying_50 : decode cX2_addSaying 50 = .ok (.bastore, 1) := by decide +kernel
theorem dX2_addSaying_51 : decode cX2_addSaying 51 = .ok (.aload_n 0, 1) := by decide +kernel
theorem dX2_addSaying_52 : decode cX2_addSaying 52 = .ok (.dup, 1) := by decide +kernel
theorem dX2_addSaying_53 : decode cX2_addSaying 53 = .ok (.getfield 32, 3) := by decide +kernel
theorem dX2_addSaying_56 : decode cX2_addSaying 56 = .ok (.iconst 1, 1) := by decide +kernel
theorem dX2_addSaying_57 : decode cX2_addSaying 57 = .ok (.iadd, 1) := by decide +kernel
theorem dX2_addSaying_58 : decode cX2_addSaying 58 = .ok (.putfield 32, 3) := by decide +kernel
theorem dX2_addSaying_61 : decode cX2_addSaying 61 = .ok (.iconst 1, 1) := by decide +kernel
theorem dX2_addSaying_62 : decode cX2_addSaying 62 = .ok (.ireturn, 1) := by decide +kernel
theorem dX2_setDeed_0 : decode cX2_setDeed 0 = .ok (.iload_n 1, 1) := by decide +kernel
theorem dX2_setDeed_1 : decode cX2_setDeed 1 = .ok (.bipush 64, 2) := by decide +kernel
theorem dX2_setDeed_3 : decode cX2_setDeed 3 = .ok (.if_icmp .lt 5, 3) := by decide +kernel
theorem dX2_setDeed_6 : decode cX2_setDeed 6 = .ok (.iconst 0, 1) := by decide +kernel
theorem dX2_setDeed_7 : decode cX2_setDeed 7 = .ok (.ireturn, 1) := by decide +kernel
theorem dX2_setDeed_8 : decode cX2_setDeed 8 = .ok (.aload_n 0, 1) := by decide +kernel
theorem dX2_setDeed_9 : decode cX2_setDeed 9 = .ok (.iload_n 1, 1) := by decide +kernel
theorem dX2_setDeed_10 : decode cX2_setDeed 10 = .ok (.putfield 35, 3) := by decide +kernel
theorem dX2_setDeed_13 : decode cX2_setDeed 13 = .ok (.iconst 1, 1) := by decide +kernel
theorem dX2_setDeed_14 : decode cX2_setDeed 14 = .ok (.ireturn, 1) := by decide +kernel
theorem dX2_setHint_0 : decode cX2_setHint 0 = .ok (.iload_n 1, 1) := by decide +kernel
theorem dX2_setHint_1 : decode cX2_setHint 1 = .ok (.iconst 1, 1) := by decide +kernel
theorem dX2_setHint_2 : decode cX2_setHint 2 = .ok (.if_icmp .lt 9, 3) := by decide +kernel
theorem dX2_setHint_5 : decode cX2_setHint 5 = .ok (.iload_n 1, 1) := by decide +kernel
theorem dX2_setHint_6 : decode cX2_setHint 6 = .ok (.bipush 6, 2) := by decide +kernel
theorem dX2_setHint_8 : decode cX2_setHint 8 = .ok (.if_icmp .le 5, 3) := by decide +kernel
theorem dX2_setHint_11 : decode cX2_setHint 11 = .ok (.iconst 0, 1) := by decide +kernel
theorem dX2_setHint_12 : decode cX2_setHint 12 = .ok (.ireturn, 1) := by decide +kernel
theorem dX2_setHint_13 : decode cX2_setHint 13 = .ok (.aload_n 0, 1) := by decide +kernel
theorem dX2_setHint_14 : decode cX2_setHint 14 = .ok (.iload_n 1, 1) := by decide +kernel
theorem dX2_setHint_15 : decode cX2_setHint 15 = .ok (.putfield 38, 3) := by decide +kernel
theorem dX2_setHint_18 : decode cX2_setHint 18 = .ok (.iconst 1, 1) := by decide +kernel
theorem dX2_setHint_19 : decode cX2_setHint 19 = .ok (.ireturn, 1) := by decide +kernel
theorem dX2_isEnough_0 : decode cX2_isEnough 0 = .ok (.aload_n 0, 1) := by decide +kernel
theorem dX2_isEnough_1 : decode cX2_isEnough 1 = .ok (.getfield 28, 3) := by decide +kernel
theorem dX2_isEnough_4 : decode cX2_isEnough 4 = .ok (.iconst 2, 1) := by decide +kernel
theorem dX2_isEnough_5 : decode cX2_isEnough 5 = .ok (.if_icmp .lt 15, 3) := by decide +kernel
theorem dX2_isEnough_8 : decode cX2_isEnough 8 = .ok (.aload_n 0, 1) := by decide +kernel
theorem dX2_isEnough_9 : decode cX2_isEnough 9 = .ok (.getfield 32, 3) := by decide +kernel
theorem dX2_isEnough_12 : decode cX2_isEnough 12 = .ok (.iconst 1, 1) := by decide +kernel
theorem dX2_isEnough_13 : decode cX2_isEnough 13 = .ok (.if_icmp .lt 7, 3) := by decide +kernel
theorem dX2_isEnough_16 : decode cX2_isEnough 16 = .ok (.iconst 1, 1) := by decide +kernel
theorem dX2_isEnough_17 : decode cX2_isEnough 17 = .ok (.goto 4, 3) := by decide +kernel
theorem dX2_isEnough_20 : decode cX2_isEnough 20 = .ok (.iconst 0, 1) := by decide +kernel
theorem dX2_isEnough_21 : decode cX2_isEnough 21 = .ok (.ireturn, 1) := by decide +kernel
theorem dX2_relatives_0 : decode cX2_relatives 0 = .ok (.aload_n 0, 1) := by decide +kernel
theorem dX2_relatives_1 : decode cX2_relatives 1 = .ok (.getfield 28, 3) := by decide +kernel
theorem dX2_relatives_4 : decode cX2_relatives 4 = .ok (.ireturn, 1) := by decide +kernel
theorem dX2_sayings_0 : decode cX2_sayings 0 = .ok (.aload_n 0, 1) := by decide +kernel
theorem dX2_sayings_1 : decode cX2_sayings 1 = .ok (.getfield 32, 3) := by decide +kernel
theorem dX2_sayings_4 : decode cX2_sayings 4 = .ok (.ireturn, 1) := by decide +kernel
theorem dX2_deed_0 : decode cX2_deed 0 = .ok (.aload_n 0, 1) := by decide +kernel
theorem dX2_deed_1 : decode cX2_deed 1 = .ok (.getfield 35, 3) := by decide +kernel
theorem dX2_deed_4 : decode cX2_deed 4 = .ok (.ireturn, 1) := by decide +kernel
theorem dX2_hint_0 : decode cX2_hint 0 = .ok (.aload_n 0, 1) := by decide +kernel
theorem dX2_hint_1 : decode cX2_hint 1 = .ok (.getfield 38, 3) := by decide +kernel
theorem dX2_hint_4 : decode cX2_hint 4 = .ok (.ireturn, 1) := by decide +kernel
theorem dX2_hasRelative_0 : decode cX2_hasRelative 0 = .ok (.iload_n 1, 1) := by decide +kernel
theorem dX2_hasRelative_1 : decode cX2_hasRelative 1 = .ok (.ifCond .lt 21, 3) := by decide +kernel
theorem dX2_hasRelative_4 : decode cX2_hasRelative 4 = .ok (.iload_n 1, 1) := by decide +kernel
theorem dX2_hasRelative_5 : decode cX2_hasRelative 5 = .ok (.aload_n 0, 1) := by decide +kernel
theorem dX2_hasRelative_6 : decode cX2_hasRelative 6 = .ok (.getfield 28, 3) := by decide +kernel
theorem dX2_hasRelative_9 : decode cX2_hasRelative 9 = .ok (.if_icmp .ge 13, 3) := by decide +kernel
theorem dX2_hasRelative_12 : decode cX2_hasRelative 12 = .ok (.iload_n 1, 1) := by decide +kernel
theorem dX2_hasRelative_13 : decode cX2_hasRelative 13 = .ok (.bipush 6, 2) := by decide +kernel
theorem dX2_hasRelative_15 : decode cX2_hasRelative 15 = .ok (.if_icmp .ge 7, 3) := by decide +kernel
theorem dX2_hasRelative_18 : decode cX2_hasRelative 18 = .ok (.iconst 1, 1) := by decide +kernel
theorem dX2_hasRelative_19 : decode cX2_hasRelative 19 = .ok (.goto 4, 3) := by decide +kernel
theorem dX2_hasRelative_22 : decode cX2_hasRelative 22 = .ok (.iconst 0, 1) := by decide +kernel
theorem dX2_hasRelative_23 : decode cX2_hasRelative 23 = .ok (.ireturn, 1) := by decide +kernel
theorem dX2_hasSaying_0 : decode cX2_hasSaying 0 = .ok (.iload_n 1, 1) := by decide +kernel
theorem dX2_hasSaying_1 : decode cX2_hasSaying 1 = .ok (.ifCond .lt 21, 3) := by decide +kernel
theorem dX2_hasSaying_4 : decode cX2_hasSaying 4 = .ok (.iload_n 1, 1) := by decide +kernel
theorem dX2_hasSaying_5 : decode cX2_hasSaying 5 = .ok (.aload_n 0, 1) := by decide +kernel
theorem dX2_hasSaying_6 : decode cX2_hasSaying 6 = .ok (.getfield 32, 3) := by decide +kernel
theorem dX2_hasSaying_9 : decode cX2_hasSaying 9 = .ok (.if_icmp .ge 13, 3) := by decide +kernel
theorem dX2_hasSaying_12 : decode cX2_hasSaying 12 = .ok (.iload_n 1, 1) := by decide +kernel
theorem dX2_hasSaying_13 : decode cX2_hasSaying 13 = .ok (.bipush 8, 2) := by decide +kernel
theorem dX2_hasSaying_15 : decode cX2_hasSaying 15 = .ok (.if_icmp .ge 7, 3) := by decide +kernel
theorem dX2_hasSaying_18 : decode cX2_hasSaying 18 = .ok (.iconst 1, 1) := by decide +kernel
theorem dX2_hasSaying_19 : decode cX2_hasSaying 19 = .ok (.goto 4, 3) := by decide +kernel
theorem dX2_hasSaying_22 : decode cX2_hasSaying 22 = .ok (.iconst 0, 1) := by decide +kernel
theorem dX2_hasSaying_23 : decode cX2_hasSaying 23 = .ok (.ireturn, 1) := by decide +kernel
set_option maxRecDepth 20000 in
theorem ggX2_kind_X2_hasRelative : GoodIn wsX2_kind wsX2_hasRelative := goodIn_r _ [6, 7, 8, 9, 10, 11, 12, 13, 14, 15, 16] (by decide +kernel) (by decide +kernel)
set_option maxRecDepth 20000 in
theorem gX2_kind_X2_hasRelative : GoodIn wsX2_kind (wsV RX2 41 RX2 yX2_hasRelative wsX2_hasRelative) := goodIn_app (goodIn_of _ (by decide +kernel)) ggX2_kind_X2_hasRelative
theorem dX2_kind_0 : decode cX2_kind 0 = .ok (.aload_n 0, 1) := by decide +kernel
theorem dX2_kind_1 : decode cX2_kind 1 = .ok (.iload_n 1, 1) := by decide +kernel
theorem dX2_kind_2 : decode cX2_kind 2 = .ok (.invokevirtual 41, 3) := by decide +kernel
theorem dX2_kind_5 : decode cX2_kind 5 = .ok (.ifCond .eq 12, 3) := by decide +kernel
theorem dX2_kind_8 : decode cX2_kind 8 = .ok (.aload_n 0, 1) := by decide +kernel
theorem dX2_kind_9 : decode cX2_kind 9 = .ok (.getfield 9, 3) := by decide +kernel
theorem dX2_kind_12 : decode cX2_kind 12 = .ok (.iload_n 1, 1) := by decide +kernel
theorem dX2_kind_13 : decode cX2_kind 13 = .ok (.iaload, 1) := by decide +kernel
theorem dX2_kind_14 : decode cX2_kind 14 = .ok (.goto 4, 3) := by decide +kernel
theorem dX2_kind_17 : decode cX2_kind 17 = .ok (.iconst 0, 1) := by decide +kernel
theorem dX2_kind_18 : decode cX2_kind 18 = .ok (.ireturn, 1) := by decide +kernel
set_option maxRecDepth 20000 in
theorem ggX2_ago_X2_hasRelative : GoodIn wsX2_ago wsX2_hasRelative := goodIn_r _ [6, 7, 8, 9, 10, 11, 12, 13, 14, 15, 16] (by decide +kernel) (by decide +kernel)
set_option maxRecDepth 20000 in
theorem gX2_ago_X2_hasRelative : GoodIn wsX2_ago (wsV RX2 41 RX2 yX2_hasRelative wsX2_hasRelative) := goodIn_app (goodIn_of _ (by decide +kernel)) ggX2_ago_X2_hasRelative
theorem dX2_ago_0 : decode cX2_ago 0 = .ok (.aload_n 0, 1) := by decide +kernel
theorem dX2_ago_1 : decode cX2_ago 1 = .ok (.iload_n 1, 1) := by decide +kernel
theorem dX2_ago_2 : decode cX2_ago 2 = .ok (.invokevirtual 41, 3) := by decide +kernel
theorem dX2_ago_5 : decode cX2_ago 5 = .ok (.ifCond .eq 12, 3) := by decide +kernel
theorem dX2_ago_8 : decode cX2_ago 8 = .ok (.aload_n 0, 1) := by decide +kernel
theorem dX2_ago_9 : decode cX2_ago 9 = .ok (.getfield 15, 3) := by decide +kernel
theorem dX2_ago_12 : decode cX2_ago 12 = .ok (.iload_n 1, 1) := by decide +kernel
theorem dX2_ago_13 : decode cX2_ago 13 = .ok (.iaload, 1) := by decide +kernel
theorem dX2_ago_14 : decode cX2_ago 14 = .ok (.goto 4, 3) := by decide +kernel
theorem dX2_ago_17 : decode cX2_ago 17 = .ok (.iconst 0, 1) := by decide +kernel
theorem dX2_ago_18 : decode cX2_ago 18 = .ok (.ireturn, 1) := by decide +kernel
set_option maxRecDepth 20000 in
theorem ggX2_mails_X2_hasRelative : GoodIn wsX2_mails wsX2_hasRelative := goodIn_r _ [6, 7, 8, 9, 10, 11, 12, 13, 14, 15, 16] (by decide +kernel) (by decide +kernel)
set_option maxRecDepth 20000 in
theorem gX2_mails_X2_hasRelative : GoodIn wsX2_mails (wsV RX2 41 RX2 yX2_hasRelative wsX2_hasRelative) := goodIn_app (goodIn_of _ (by decide +kernel)) ggX2_mails_X2_hasRelative
theorem dX2_mails_0 : decode cX2_mails 0 = .ok (.aload_n 0, 1) := by decide +kernel
theorem dX2_mails_1 : decode cX2_mails 1 = .ok (.iload_n 1, 1) := by decide +kernel
theorem dX2_mails_2 : decode cX2_mails 2 = .ok (.invokevirtual 41, 3) := by decide +kernel
theorem dX2_mails_5 : decode cX2_mails 5 = .ok (.ifCond .eq 12, 3) := by decide +kernel
theorem dX2_mails_8 : decode cX2_mails 8 = .ok (.aload_n 0, 1) := by decide +kernel
theorem dX2_mails_9 : decode cX2_mails 9 = .ok (.getfield 18, 3) := by decide +kernel
theorem dX2_mails_12 : decode cX2_mails 12 = .ok (.iload_n 1, 1) := by decide +kernel
theorem dX2_mails_13 : decode cX2_mails 13 = .ok (.iaload, 1) := by decide +kernel
theorem dX2_mails_14 : decode cX2_mails 14 = .ok (.goto 4, 3) := by decide +kernel
theorem dX2_mails_17 : decode cX2_mails 17 = .ok (.iconst 0, 1) := by decide +kernel
theorem dX2_mails_18 : decode cX2_mails 18 = .ok (.ireturn, 1) := by decide +kernel
set_option maxRecDepth 20000 in
theorem ggX2_topics_X2_hasSaying : GoodIn wsX2_topics wsX2_hasSaying := goodIn_r _ [6, 7, 8, 9, 10, 11, 12, 13, 14, 15, 16] (by decide +kernel) (by decide +kernel)
set_option maxRecDepth 20000 in
theorem gX2_topics_X2_hasSaying : GoodIn wsX2_topics (wsV RX2 45 RX2 yX2_hasSaying wsX2_hasSaying) := goodIn_app (goodIn_of _ (by decide +kernel)) ggX2_topics_X2_hasSaying
theorem dX2_topics_0 : decode cX2_topics 0 = .ok (.aload_n 0, 1) := by decide +kernel
theorem dX2_topics_1 : decode cX2_topics 1 = .ok (.iload_n 1, 1) := by decide +kernel
theorem dX2_topics_2 : decode cX2_topics 2 = .ok (.invokevirtual 45, 3) := by decide +kernel
theorem dX2_topics_5 : decode cX2_topics 5 = .ok (.ifCond .eq 12, 3) := by decide +kernel
theorem dX2_topics_8 : decode cX2_topics 8 = .ok (.aload_n 0, 1) := by decide +kernel
theorem dX2_topics_9 : decode cX2_topics 9 = .ok (.getfield 21, 3) := by decide +kernel
theorem dX2_topics_12 : decode cX2_topics 12 = .ok (.iload_n 1, 1) := by decide +kernel
theorem dX2_topics_13 : decode cX2_topics 13 = .ok (.iaload, 1) := by decide +kernel
theorem dX2_topics_14 : decode cX2_topics 14 = .ok (.goto 4, 3) := by decide +kernel
theorem dX2_topics_17 : decode cX2_topics 17 = .ok (.iconst 0, 1) := by decide +kernel
theorem dX2_topics_18 : decode cX2_topics 18 = .ok (.ireturn, 1) := by decide +kernel
set_option maxRecDepth 20000 in
theorem ggX2_isQuestion_X2_hasSaying : GoodIn wsX2_isQuestion wsX2_hasSaying := goodIn_r _ [6, 7, 8, 9, 10, 11, 12, 13, 14, 15, 16] (by decide +kernel) (by decide +kernel)
set_option maxRecDepth 20000 in
theorem gX2_isQuestion_X2_hasSaying : GoodIn wsX2_isQuestion (wsV RX2 45 RX2 yX2_hasSaying wsX2_hasSaying) := goodIn_app (goodIn_of _ (by decide +kernel)) ggX2_isQuestion_X2_hasSaying
theorem dX2_isQuestion_0 : decode cX2_isQuestion 0 = .ok (.aload_n 0, 1) := by decide +kernel
theorem dX2_isQuestion_1 : decode cX2_isQuestion 1 = .ok (.iload_n 1, 1) := by decide +kernel
theorem dX2_isQuestion_2 : decode cX2_isQuestion 2 = .ok (.invokevirtual 45, 3) := by decide +kernel
theorem dX2_isQuestion_5 : decode cX2_isQuestion 5 = .ok (.ifCond .eq 16, 3) := by decide +kernel
theorem dX2_isQuestion_8 : decode cX2_isQuestion 8 = .ok (.aload_n 0, 1) := by decide +kernel
theorem dX2_isQuestion_9 : decode cX2_isQuestion 9 = .ok (.getfield 24, 3) := by decide +kernel
theorem dX2_isQuestion_12 : decode cX2_isQuestion 12 = .ok (.iload_n 1, 1) := by decide +kernel
theorem dX2_isQuestion_13 : decode cX2_isQuestion 13 = .ok (.baload, 1) := by decide +kernel
theorem dX2_isQuestion_14 : decode cX2_isQuestion 14 = .ok (.ifCond .eq 7, 3) := by decide +kernel
theorem dX2_isQuestion_17 : decode cX2_isQuestion 17 = .ok (.iconst 1, 1) := by decide +kernel
theorem dX2_isQuestion_18 : decode cX2_isQuestion 18 = .ok (.goto 4, 3) := by decide +kernel
theorem dX2_isQuestion_21 : decode cX2_isQuestion 21 = .ok (.iconst 0, 1) := by decide +kernel
theorem dX2_isQuestion_22 : decode cX2_isQuestion 22 = .ok (.ireturn, 1) := by decide +kernel
set_option maxRecDepth 20000 in
theorem ggX2_isAsking_X2_isQuestion : GoodIn wsX2_isAsking wsX2_isQuestion := goodIn_r _ [6, 7, 8, 9, 10, 5, 11, 12, 35, 36, 37, 38, 39, 40, 41, 42, 43] (by decide +kernel) (by decide +kernel)
set_option maxRecDepth 20000 in
theorem gX2_isAsking_X2_isQuestion : GoodIn wsX2_isAsking (wsV RX2 48 RX2 yX2_isQuestion wsX2_isQuestion) := goodIn_app (goodIn_of _ (by decide +kernel)) ggX2_isAsking_X2_isQuestion
set_option maxRecDepth 20000 in
theorem ggX2_isAsking_X2_topics : GoodIn wsX2_isAsking wsX2_topics := goodIn_r _ [16, 17, 8, 9, 10, 5, 11, 12, 35, 36, 37, 38, 39, 40, 41, 42, 43] (by decide +kernel) (by decide +kernel)
set_option maxRecDepth 20000 in
theorem gX2_isAsking_X2_topics : GoodIn wsX2_isAsking (wsV RX2 51 RX2 yX2_topics wsX2_topics) := goodIn_app (goodIn_of _ (by decide +kernel)) ggX2_isAsking_X2_topics
set_option maxRecDepth 20000 in
theorem ggX2_isAsking_X2_kind : GoodIn wsX2_isAsking wsX2_kind := goodIn_r _ [21, 22, 23, 24, 25, 5, 26, 27, 35, 36, 37, 38, 39, 40, 41, 42, 43] (by decide +kernel) (by decide +kernel)
set_option maxRecDepth 20000 in
theorem gX2_isAsking_X2_kind : GoodIn wsX2_isAsking (wsV RX2 54 RX2 yX2_kind wsX2_kind) := goodIn_app (goodIn_of _ (by decide +kernel)) ggX2_isAsking_X2_kind
set_option maxRecDepth 20000 in
theorem ggX2_isAsking_J6_bitCount_0f7a4 : GoodIn wsX2_isAsking wsJ6_bitCount_0f7a4 := goodIn_r _ [31, 32, 33, 34] (by decide +kernel) (by decide +kernel)
set_option maxRecDepth 20000 in
theorem gX2_isAsking_J6_bitCount_0f7a4 : GoodIn wsX2_isAsking (va_wsS RX2 57 yJ6_bitCount_0f7a4 wsJ6_bitCount_0f7a4) := goodIn_app (goodIn_of _ (by decide +kernel)) ggX2_isAsking_J6_bitCount_0f7a4
theorem dX2_isAsking_0 : decode cX2_isAsking 0 = .ok (.aload_n 0, 1) := by decide +kernel
theorem dX2_isAsking_1 : decode cX2_isAsking 1 = .ok (.iload_n 1, 1) := by decide +kernel
theorem dX2_isAsking_2 : decode cX2_isAsking 2 = .ok (.invokevirtual 48, 3) := by decide +kernel
theorem dX2_isAsking_5 : decode cX2_isAsking 5 = .ok (.istore 4, 2) := by decide +kernel
theorem dX2_isAsking_7 : decode cX2_isAsking 7 = .ok (.aload_n 0, 1) := by decide +kernel
theorem dX2_isAsking_8 : decode cX2_isAsking 8 = .ok (.iload_n 1, 1) := by decide +kernel
theorem dX2_isAsking_9 : decode cX2_isAsking 9 = .ok (.invokevirtual 51, 3) := by decide +kernel
theorem dX2_isAsking_12 : decode cX2_isAsking 12 = .ok (.iload_n 3, 1) := by decide +kernel
theorem dX2_isAsking_13 : decode cX2_isAsking 13 = .ok (.iand, 1) := by decide +kernel
theorem dX2_isAsking_14 : decode cX2_isAsking 14 = .ok (.ifCond .eq 7, 3) := by decide +kernel
theorem dX2_isAsking_17 : decode cX2_isAsking 17 = .ok (.iconst 1, 1) := by decide +kernel
theorem dX2_isAsking_18 : decode cX2_isAsking 18 = .ok (.goto 4, 3) := by decide +kernel
theorem dX2_isAsking_21 : decode cX2_isAsking 21 = .ok (.iconst 0, 1) := by decide +kernel
theorem dX2_isAsking_22 : decode cX2_isAsking 22 = .ok (.istore 5, 2) := by decide +kernel
theorem dX2_isAsking_24 : decode cX2_isAsking 24 = .ok (.aload_n 0, 1) := by decide +kernel
theorem dX2_isAsking_25 : decode cX2_isAsking 25 = .ok (.iload_n 2, 1) := by decide +kernel
theorem dX2_isAsking_26 : decode cX2_isAsking 26 = .ok (.invokevirtual 54, 3) := by decide +kernel
theorem dX2_isAsking_29 : decode cX2_isAsking 29 = .ok (.tableswitch 84 0 3 #[31, 47, 78, 81], 31) := by decide +kernel
theorem dX2_isAsking_60 : decode cX2_isAsking 60 = .ok (.iload 4, 2) := by decide +kernel
theorem dX2_isAsking_62 : decode cX2_isAsking 62 = .ok (.ifCond .eq 12, 3) := by decide +kernel
theorem dX2_isAsking_65 : decode cX2_isAsking 65 = .ok (.iload 5, 2) := by decide +kernel
theorem dX2_isAsking_67 : decode cX2_isAsking 67 = .ok (.ifCond .eq 7, 3) := by decide +kernel
theorem dX2_isAsking_70 : decode cX2_isAsking 70 = .ok (.iconst 1, 1) := by decide +kernel
theorem dX2_isAsking_71 : decode cX2_isAsking 71 = .ok (.goto 4, 3) := by decide +kernel
theorem dX2_isAsking_74 : decode cX2_isAsking 74 = .ok (.iconst 0, 1) := by decide +kernel
theorem dX2_isAsking_75 : decode cX2_isAsking 75 = .ok (.ireturn, 1) := by decide +kernel
theorem dX2_isAsking_76 : decode cX2_isAsking 76 = .ok (.iload 5, 2) := by decide +kernel
theorem dX2_isAsking_78 : decode cX2_isAsking 78 = .ok (.ifCond .eq 27, 3) := by decide +kernel
theorem dX2_isAsking_81 : decode cX2_isAsking 81 = .ok (.iload 4, 2) := by decide +kernel
theorem dX2_isAsking_83 : decode cX2_isAsking 83 = .ok (.ifCond .ne 18, 3) := by decide +kernel
theorem dX2_isAsking_86 : decode cX2_isAsking 86 = .ok (.aload_n 0, 1) := by decide +kernel
theorem dX2_isAsking_87 : decode cX2_isAsking 87 = .ok (.iload_n 1, 1) := by decide +kernel
theorem dX2_isAsking_88 : decode cX2_isAsking 88 = .ok (.invokevirtual 51, 3) := by decide +kernel
theorem dX2_isAsking_91 : decode cX2_isAsking 91 = .ok (.invokestatic 57, 3) := by decide +kernel
theorem dX2_isAsking_94 : decode cX2_isAsking 94 = .ok (.aload_n 0, 1) := by decide +kernel
theorem dX2_isAsking_95 : decode cX2_isAsking 95 = .ok (.getfield 38, 3) := by decide +kernel
theorem dX2_isAsking_98 : decode cX2_isAsking 98 = .ok (.if_icmp .lt 7, 3) := by decide +kernel
theorem dX2_isAsking_101 : decode cX2_isAsking 101 = .ok (.iconst 1, 1) := by decide +kernel
theorem dX2_isAsking_102 : decode cX2_isAsking 102 = .ok (.goto 4, 3) := by decide +kernel
theorem dX2_isAsking_105 : decode cX2_isAsking 105 = .ok (.iconst 0, 1) := by decide +kernel
theorem dX2_isAsking_106 : decode cX2_isAsking 106 = .ok (.ireturn, 1) := by decide +kernel
theorem dX2_isAsking_107 : decode cX2_isAsking 107 = .ok (.iload 5, 2) := by decide +kernel
theorem dX2_isAsking_109 : decode cX2_isAsking 109 = .ok (.ireturn, 1) := by decide +kernel
theorem dX2_isAsking_110 : decode cX2_isAsking 110 = .ok (.iload 4, 2) := by decide +kernel
theorem dX2_isAsking_112 : decode cX2_isAsking 112 = .ok (.ireturn, 1) := by decide +kernel
theorem dX2_isAsking_113 : decode cX2_isAsking 113 = .ok (.iconst 0, 1) := by decide +kernel
theorem dX2_isAsking_114 : decode cX2_isAsking 114 = .ok (.ireturn, 1) := by decide +kernel
set_option maxRecDepth 20000 in
theorem ggX2_quietSayings_X2_isAsking : GoodIn wsX2_quietSayings wsX2_isAsking := goodIn_r _ [7, 8, 9, 10, 11, 6, 12, 13, 14, 15, 16, 17, 1, 18, 19, 20, 21, 22, 23, 24, 25, 26, 27, 28, 29, 30, 31, 2, 32, 33, 34, 35, 36, 37, 38, 39, 40, 41, 42, 43, 44, 45, 46, 47] (by decide +kernel) (by decide +kernel)
set_option maxRecDepth 20000 in
theorem gX2_quietSayings_X2_isAsking : GoodIn wsX2_quietSayings (wsV RX2 62 RX2 yX2_isAsking wsX2_isAsking) := goodIn_app (goodIn_of _ (by decide +kernel)) ggX2_quietSayings_X2_isAsking
theorem dX2_quietSayings_0 : decode cX2_quietSayings 0 = .ok (.iconst 0, 1) := by decide +kernel
theorem dX2_quietSayings_1 : decode cX2_quietSayings 1 = .ok (.istore_n 2, 1) := by decide +kernel
theorem dX2_quietSayings_2 : decode cX2_quietSayings 2 = .ok (.iconst 0, 1) := by decide +kernel
theorem dX2_quietSayings_3 : decode cX2_quietSayings 3 = .ok (.istore_n 3, 1) := by decide +kernel
theorem dX2_quietSayings_4 : decode cX2_quietSayings 4 = .ok (.iload_n 3, 1) := by decide +kernel
theorem dX2_quietSayings_5 : decode cX2_quietSayings 5 = .ok (.aload_n 0, 1) := by decide +kernel
theorem dX2_quietSayings_6 : decode cX2_quietSayings 6 = .ok (.getfield 32, 3) := by decide +kernel
theorem dX2_quietSayings_9 : decode cX2_quietSayings 9 = .ok (.if_icmp .ge 56, 3) := by decide +kernel
theorem dX2_quietSayings_12 : decode cX2_quietSayings 12 = .ok (.iconst 0, 1) := by decide +kernel
theorem dX2_quietSayings_13 : decode cX2_quietSayings 13 = .ok (.istore 4, 2) := by decide +kernel
theorem dX2_quietSayings_15 : decode cX2_quietSayings 15 = .ok (.iconst 0, 1) := by decide +kernel
theorem dX2_quietSayings_16 : decode cX2_quietSayings 16 = .ok (.istore 5, 2) := by decide +kernel
theorem dX2_quietSayings_18 : decode cX2_quietSayings 18 = .ok (.iload 5, 2) := by decide +kernel
theorem dX2_quietSayings_20 : decode cX2_quietSayings 20 = .ok (.aload_n 0, 1) := by decide +kernel
theorem dX2_quietSayings_21 : decode cX2_quietSayings 21 = .ok (.getfield 28, 3) := by decide +kernel
theorem dX2_quietSayings_24 : decode cX2_quietSayings 24 = .ok (.if_icmp .ge 24, 3) := by decide +kernel
theorem dX2_quietSayings_27 : decode cX2_quietSayings 27 = .ok (.iload 4, 2) := by decide +kernel
theorem dX2_quietSayings_29 : decode cX2_quietSayings 29 = .ok (.ifCond .ne 19, 3) := by decide +kernel
theorem dX2_quietSayings_32 : decode cX2_quietSayings 32 = .ok (.aload_n 0, 1) := by decide +kernel
theorem dX2_quietSayings_33 : decode cX2_quietSayings 33 = .ok (.iload_n 3, 1) := by decide +kernel
theorem dX2_quietSayings_34 : decode cX2_quietSayings 34 = .ok (.iload 5, 2) := by decide +kernel
theorem dX2_quietSayings_36 : decode cX2_quietSayings 36 = .ok (.iload_n 1, 1) := by decide +kernel
theorem dX2_quietSayings_37 : decode cX2_quietSayings 37 = .ok (.invokevirtual 62, 3) := by decide +kernel
theorem dX2_quietSayings_40 : decode cX2_quietSayings 40 = .ok (.istore 4, 2) := by decide +kernel
theorem dX2_quietSayings_42 : decode cX2_quietSayings 42 = .ok (.iinc 5 1, 3) := by decide +kernel
theorem dX2_quietSayings_45 : decode cX2_quietSayings 45 = .ok (.goto (-27), 3) := by decide +kernel
theorem dX2_quietSayings_48 : decode cX2_quietSayings 48 = .ok (.iload 4, 2) := by decide +kernel
theorem dX2_quietSayings_50 : decode cX2_quietSayings 50 = .ok (.ifCond .ne 9, 3) := by decide +kernel
theorem dX2_quietSayings_53 : decode cX2_quietSayings 53 = .ok (.iload_n 2, 1) := by decide +kernel
theorem dX2_quietSayings_54 : decode cX2_quietSayings 54 = .ok (.iconst 1, 1) := by decide +kernel
theorem dX2_quietSayings_55 : decode cX2_quietSayings 55 = .ok (.iload_n 3, 1) := by decide +kernel
theorem dX2_quietSayings_56 : decode cX2_quietSayings 56 = .ok (.ishl, 1) := by decide +kernel
theorem dX2_quietSayings_57 : decode cX2_quietSayings 57 = .ok (.ior, 1) := by decide +kernel
theorem dX2_quietSayings_58 : decode cX2_quietSayings 58 = .ok (.istore_n 2, 1) := by decide +kernel
theorem dX2_quietSayings_59 : decode cX2_quietSayings 59 = .ok (.iinc 3 1, 3) := by decide +kernel
theorem dX2_quietSayings_62 : decode cX2_quietSayings 62 = .ok (.goto (-58), 3) := by decide +kernel
theorem dX2_quietSayings_65 : decode cX2_quietSayings 65 = .ok (.iload_n 2, 1) := by decide +kernel
theorem dX2_quietSayings_66 : decode cX2_quietSayings 66 = .ok (.ireturn, 1) := by decide +kernel
set_option maxRecDepth 20000 in
theorem ggX2_cloakOf_X2_isAsking : GoodIn wsX2_cloakOf wsX2_isAsking := goodIn_r _ [6, 7, 8, 9, 10, 5, 11, 12, 13, 14, 15, 16, 1, 17, 18, 19, 20, 21, 22, 23, 24, 25, 26, 27, 28, 29, 30, 31, 32, 33, 34, 35, 36, 37, 38, 43, 44, 45, 46, 47, 48, 49, 50, 51] (by decide +kernel) (by decide +kernel)
set_option maxRecDepth 20000 in
theorem gX2_cloakOf_X2_isAsking : GoodIn wsX2_cloakOf (wsV RX2 62 RX2 yX2_isAsking wsX2_isAsking) := goodIn_app (goodIn_of _ (by decide +kernel)) ggX2_cloakOf_X2_isAsking
set_option maxRecDepth 20000 in
theorem ggX2_cloakOf_X2_topicsOnDeed : GoodIn wsX2_cloakOf wsX2_topicsOnDeed := goodIn_r _ [42, 17, 18, 19, 5, 20, 21, 13, 14, 15, 16, 1, 32, 33, 34, 35, 36, 37, 38, 43, 44, 45, 46, 47, 48, 49, 50, 51] (by decide +kernel) (by decide +kernel)
set_option maxRecDepth 20000 in
theorem gX2_cloakOf_X2_topicsOnDeed : GoodIn wsX2_cloakOf (wsV RX2 66 RX2 yX2_topicsOnDeed wsX2_topicsOnDeed) := goodIn_app (goodIn_of _ (by decide +kernel)) ggX2_cloakOf_X2_topicsOnDeed
theorem dX2_cloakOf_0 : decode cX2_cloakOf 0 = .ok (.bipush (-4), 2) := by decide +kernel
theorem dX2_cloakOf_2 : decode cX2_cloakOf 2 = .ok (.istore_n 3, 1) := by decide +kernel
theorem dX2_cloakOf_3 : decode cX2_cloakOf 3 = .ok (.iconst 0, 1) := by decide +kernel
theorem dX2_cloakOf_4 : decode cX2_cloakOf 4 = .ok (.istore 4, 2) := by decide +kernel
theorem dX2_cloakOf_6 : decode cX2_cloakOf 6 = .ok (.iload 4, 2) := by decide +kernel
theorem dX2_cloakOf_8 : decode cX2_cloakOf 8 = .ok (.aload_n 0, 1) := by decide +kernel
theorem dX2_cloakOf_9 : decode cX2_cloakOf 9 = .ok (.getfield 32, 3) := by decide +kernel
theorem dX2_cloakOf_12 : decode cX2_cloakOf 12 = .ok (.if_icmp .ge 45, 3) := by decide +kernel
theorem dX2_cloakOf_15 : decode cX2_cloakOf 15 = .ok (.aload_n 0, 1) := by decide +kernel
theorem dX2_cloakOf_16 : decode cX2_cloakOf 16 = .ok (.iload 4, 2) := by decide +kernel
theorem dX2_cloakOf_18 : decode cX2_cloakOf 18 = .ok (.iload_n 1, 1) := by decide +kernel
theorem dX2_cloakOf_19 : decode cX2_cloakOf 19 = .ok (.iload_n 2, 1) := by decide +kernel
theorem dX2_cloakOf_20 : decode cX2_cloakOf 20 = .ok (.invokevirtual 62, 3) := by decide +kernel
theorem dX2_cloakOf_23 : decode cX2_cloakOf 23 = .ok (.ifCond .ne 28, 3) := by decide +kernel
theorem dX2_cloakOf_26 : decode cX2_cloakOf 26 = .ok (.iload_n 3, 1) := by decide +kernel
theorem dX2_cloakOf_27 : decode cX2_cloakOf 27 = .ok (.bipush (-4), 2) := by decide +kernel
theorem dX2_cloakOf_29 : decode cX2_cloakOf 29 = .ok (.if_icmp .eq 19, 3) := by decide +kernel
theorem dX2_cloakOf_32 : decode cX2_cloakOf 32 = .ok (.aload_n 0, 1) := by decide +kernel
theorem dX2_cloakOf_33 : decode cX2_cloakOf 33 = .ok (.iload 4, 2) := by decide +kernel
theorem dX2_cloakOf_35 : decode cX2_cloakOf 35 = .ok (.iload_n 2, 1) := by decide +kernel
theorem dX2_cloakOf_36 : decode cX2_cloakOf 36 = .ok (.invokevirtual 66, 3) := by decide +kernel
theorem dX2_cloakOf_39 : decode cX2_cloakOf 39 = .ok (.aload_n 0, 1) := by decide +kernel
theorem dX2_cloakOf_40 : decode cX2_cloakOf 40 = .ok (.iload_n 3, 1) := by decide +kernel
theorem dX2_cloakOf_41 : decode cX2_cloakOf 41 = .ok (.iload_n 2, 1) := by decide +kernel
theorem dX2_cloakOf_42 : decode cX2_cloakOf 42 = .ok (.invokevirtual 66, 3) := by decide +kernel
theorem dX2_cloakOf_45 : decode cX2_cloakOf 45 = .ok (.if_icmp .le 6, 3) := by decide +kernel
theorem dX2_cloakOf_48 : decode cX2_cloakOf 48 = .ok (.iload 4, 2) := by decide +kernel
theorem dX2_cloakOf_50 : decode cX2_cloakOf 50 = .ok (.istore_n 3, 1) := by decide +kernel
theorem dX2_cloakOf_51 : decode cX2_cloakOf 51 = .ok (.iinc 4 1, 3) := by decide +kernel
theorem dX2_cloakOf_54 : decode cX2_cloakOf 54 = .ok (.goto (-48), 3) := by decide +kernel
theorem dX2_cloakOf_57 : decode cX2_cloakOf 57 = .ok (.iload_n 3, 1) := by decide +kernel
theorem dX2_cloakOf_58 : decode cX2_cloakOf 58 = .ok (.ireturn, 1) := by decide +kernel
set_option maxRecDepth 20000 in
theorem ggX2_topicsOnDeed_X2_topics : GoodIn wsX2_topicsOnDeed wsX2_topics := goodIn_r _ [5, 6, 7, 8, 9, 4, 10, 11, 19, 20, 21, 22, 23, 24, 25, 26, 27] (by decide +kernel) (by decide +kernel)
set_option maxRecDepth 20000 in
theorem gX2_topicsOnDeed_X2_topics : GoodIn wsX2_topicsOnDeed (wsV RX2 51 RX2 yX2_topics wsX2_topics) := goodIn_app (goodIn_of _ (by decide +kernel)) ggX2_topicsOnDeed_X2_topics
set_option maxRecDepth 20000 in
theorem ggX2_topicsOnDeed_J6_bitCount_0f7a4 : GoodIn wsX2_topicsOnDeed wsJ6_bitCount_0f7a4 := goodIn_r _ [15, 16, 17, 18] (by decide +kernel) (by decide +kernel)
set_option maxRecDepth 20000 in
theorem gX2_topicsOnDeed_J6_bitCount_0f7a4 : GoodIn wsX2_topicsOnDeed (va_wsS RX2 57 yJ6_bitCount_0f7a4 wsJ6_bitCount_0f7a4) := goodIn_app (goodIn_of _ (by decide +kernel)) ggX2_topicsOnDeed_J6_bitCount_0f7a4
theorem dX2_topicsOnDeed_0 : decode cX2_topicsOnDeed 0 = .ok (.aload_n 0, 1) := by decide +kernel
theorem dX2_topicsOnDeed_1 : decode cX2_topicsOnDeed 1 = .ok (.iload_n 1, 1) := by decide +kernel
theorem dX2_topicsOnDeed_2 : decode cX2_topicsOnDeed 2 = .ok (.invokevirtual 51, 3) := by decide +kernel
theorem dX2_topicsOnDeed_5 : decode cX2_topicsOnDeed 5 = .ok (.iload_n 2, 1) := by decide +kernel
theorem dX2_topicsOnDeed_6 : decode cX2_topicsOnDeed 6 = .ok (.iand, 1) := by decide +kernel
theorem dX2_topicsOnDeed_7 : decode cX2_topicsOnDeed 7 = .ok (.invokestatic 57, 3) := by decide +kernel
theorem dX2_topicsOnDeed_10 : decode cX2_topicsOnDeed 10 = .ok (.ireturn, 1) := by decide +kernel
set_option maxRecDepth 20000 in
theorem ggX2_lowestChild_X2_kind : GoodIn wsX2_lowestChild wsX2_kind := goodIn_r _ [6, 7, 8, 9, 10, 5, 11, 1, 12, 13, 14, 15, 16, 17, 18, 19, 20] (by decide +kernel) (by decide +kernel)
set_option maxRecDepth 20000 in
theorem gX2_lowestChild_X2_kind : GoodIn wsX2_lowestChild (wsV RX2 54 RX2 yX2_kind wsX2_kind) := goodIn_app (goodIn_of _ (by decide +kernel)) ggX2_lowestChild_X2_kind
theorem dX2_lowestChild_0 : decode cX2_lowestChild 0 = .ok (.iconst 0, 1) := by decide +kernel
theorem dX2_lowestChild_1 : decode cX2_lowestChild 1 = .ok (.istore_n 1, 1) := by decide +kernel
theorem dX2_lowestChild_2 : decode cX2_lowestChild 2 = .ok (.iload_n 1, 1) := by decide +kernel
theorem dX2_lowestChild_3 : decode cX2_lowestChild 3 = .ok (.aload_n 0, 1) := by decide +kernel
theorem dX2_lowestChild_4 : decode cX2_lowestChild 4 = .ok (.getfield 28, 3) := by decide +kernel
theorem dX2_lowestChild_7 : decode cX2_lowestChild 7 = .ok (.if_icmp .ge 20, 3) := by decide +kernel
theorem dX2_lowestChild_10 : decode cX2_lowestChild 10 = .ok (.aload_n 0, 1) := by decide +kernel
theorem dX2_lowestChild_11 : decode cX2_lowestChild 11 = .ok (.iload_n 1, 1) := by decide +kernel
theorem dX2_lowestChild_12 : decode cX2_lowestChild 12 = .ok (.invokevirtual 54, 3) := by decide +kernel
theorem dX2_lowestChild_15 : decode cX2_lowestChild 15 = .ok (.iconst 3, 1) := by decide +kernel
theorem dX2_lowestChild_16 : decode cX2_lowestChild 16 = .ok (.if_icmp .ne 5, 3) := by decide +kernel
theorem dX2_lowestChild_19 : decode cX2_lowestChild 19 = .ok (.iload_n 1, 1) := by decide +kernel
theorem dX2_lowestChild_20 : decode cX2_lowestChild 20 = .ok (.ireturn, 1) := by decide +kernel
theorem dX2_lowestChild_21 : decode cX2_lowestChild 21 = .ok (.iinc 1 1, 3) := by decide +kernel
theorem dX2_lowestChild_24 : decode cX2_lowestChild 24 = .ok (.goto (-22), 3) := by decide +kernel
theorem dX2_lowestChild_27 : decode cX2_lowestChild 27 = .ok (.iconst 0, 1) := by decide +kernel
theorem dX2_lowestChild_28 : decode cX2_lowestChild 28 = .ok (.ireturn, 1) := by decide +kernel
set_option maxRecDepth 20000 in
theorem ggX3_init_X1_init : GoodIn wsX3_init wsX1_init := goodIn_r _ [13, 14, 2, 3, 15, 16, 17, 18, 19, 20, 21, 22, 23, 24, 25, 26, 27, 28, 40, 41, 42, 43, 44, 32, 33, 34, 35, 36, 37, 38, 39] (by decide +kernel) (by decide +kernel)
set_option maxRecDepth 20000 in
theorem gX3_init_X1_init_n21 : GoodIn wsX3_init (wsX1_init) := ggX3_init_X1_init
theorem dX3_init_0 : decode cX3_init 0 = .ok (.aload_n 0, 1) := by decide +kernel
theorem dX3_init_1 : decode cX3_init 1 = .ok (.invokespecial 1, 3) := by decide +kernel
theorem dX3_init_4 : decode cX3_init 4 = .ok (.aload_n 0, 1) := by decide +kernel
theorem dX3_init_5 : decode cX3_init 5 = .ok (.iconst 1, 1) := by decide +kernel
theorem dX3_init_6 : decode cX3_init 6 = .ok (.iload_n 1, 1) := by decide +kernel
theorem dX3_init_7 : decode cX3_init 7 = .ok (.invokestatic 7, 3) := by decide +kernel
theorem dX3_init_10 : decode cX3_init 10 = .ok (.anewarray 13, 3) := by decide +kernel
theorem dX3_init_13 : decode cX3_init 13 = .ok (.putfield 15, 3) := by decide +kernel
theorem dX3_init_16 : decode cX3_init 16 = .ok (.iconst 0, 1) := by decide +kernel
theorem dX3_init_17 : decode cX3_init 17 = .ok (.istore_n 2, 1) := by decide +kernel
theorem dX3_init_18 : decode cX3_init 18 = .ok (.iload_n 2, 1) := by decide +kernel
theorem dX3_init_19 : decode cX3_init 19 = .ok (.aload_n 0, 1) := by decide +kernel
theorem dX3_init_20 : decode cX3_init 20 = .ok (.getfield 15, 3) := by decide +kernel
theorem dX3_init_23 : decode cX3_init 23 = .ok (.arraylength, 1) := by decide +kernel
theorem dX3_init_24 : decode cX3_init 24 = .ok (.if_icmp .ge 22, 3) := by decide +kernel
theorem dX3_init_27 : decode cX3_init 27 = .ok (.aload_n 0, 1) := by decide +kernel
theorem dX3_init_28 : decode cX3_init 28 = .ok (.getfield 15, 3) := by decide +kernel
theorem dX3_init_31 : decode cX3_init 31 = .ok (.iload_n 2, 1) := by decide +kernel
theorem dX3_init_32 : decode cX3_init 32 = .ok (.new 13, 3) := by decide +kernel
theorem dX3_init_35 : decode cX3_init 35 = .ok (.dup, 1) := by decide +kernel
theorem dX3_init_36 : decode cX3_init 36 = .ok (.invokespecial 21, 3) := by decide +kernel
theorem dX3_init_39 : decode cX3_init 39 = .ok (.aastore, 1) := by decide +kernel
theorem dX3_init_40 : decode cX3_init 40 = .ok (.iinc 2 1, 3) := by decide +kernel
theorem dX3_init_43 : decode cX3_init 43 = .ok (.goto (-25), 3) := by decide +kernel
theorem dX3_init_46 : decode cX3_init 46 = .ok (.return_, 1) := by decide +kernel
theorem dX3_held_0 : decode cX3_held 0 = .ok (.aload_n 0, 1) := by decide +kernel
theorem dX3_held_1 : decode cX3_held 1 = .ok (.getfield 22, 3) := by decide +kernel
theorem dX3_held_4 : decode cX3_held 4 = .ok (.ireturn, 1) := by decide +kernel
theorem dX3_clear_0 : decode cX3_clear 0 = .ok (.aload_n 0, 1) := by decide +kernel
theorem dX3_clear_1 : decode cX3_clear 1 = .ok (.iconst 0, 1) := by decide +kernel
theorem dX3_clear_2 : decode cX3_clear 2 = .ok (.putfield 22, 3) := by decide +kernel
theorem dX3_clear_5 : decode cX3_clear 5 = .ok (.return_, 1) := by decide +kernel
set_option maxRecDepth 20000 in
theorem ggX3_push_X3_topRow : GoodIn wsX3_push wsX3_topRow := goodIn_r _ [12, 1, 2, 41, 42, 43] (by decide +kernel) (by decide +kernel)
set_option maxRecDepth 20000 in
theorem gX3_push_X3_topRow : GoodIn wsX3_push (wsV RX3 32 RX3 yX3_topRow wsX3_topRow) := goodIn_app (goodIn_of _ (by decide +kernel)) ggX3_push_X3_topRow
set_option maxRecDepth 20000 in
theorem ggX3_push_X1_copy : GoodIn wsX3_push wsX1_copy := goodIn_r _ [17, 18, 19, 20, 21, 22, 23, 24, 25, 26, 27, 28, 29, 30, 31, 32, 33, 34, 35, 36, 37, 38, 39, 40, 44, 45, 46, 47, 48, 49, 50, 51, 52, 53, 54, 55, 56] (by decide +kernel) (by decide +kernel)
set_option maxRecDepth 20000 in
theorem gX3_push_X1_copy : GoodIn wsX3_push (wsV RX3 36 RX1 yX1_copy wsX1_copy) := goodIn_app (goodIn_of _ (by decide +kernel)) ggX3_push_X1_copy
theorem dX3_push_0 : decode cX3_push 0 = .ok (.aload_n 0, 1) := by decide +kernel
theorem dX3_push_1 : decode cX3_push 1 = .ok (.aload_n 0, 1) := by decide +kernel
theorem dX3_push_2 : decode cX3_push 2 = .ok (.getfield 26, 3) := by decide +kernel
theorem dX3_push_5 : decode cX3_push 5 = .ok (.iconst 1, 1) := by decide +kernel
theorem dX3_push_6 : decode cX3_push 6 = .ok (.iadd, 1) := by decide +kernel
theorem dX3_push_7 : decode cX3_push 7 = .ok (.aload_n 0, 1) := by decide +kernel
theorem dX3_push_8 : decode cX3_push 8 = .ok (.getfield 15, 3) := by decide +kernel
theorem dX3_push_11 : decode cX3_push 11 = .ok (.arraylength, 1) := by decide +kernel
theorem dX3_push_12 : decode cX3_push 12 = .ok (.if_icmp .ge 12, 3) := by decide +kernel
theorem dX3_push_15 : decode cX3_push 15 = .ok (.aload_n 0, 1) := by decide +kernel
theorem dX3_push_16 : decode cX3_push 16 = .ok (.getfield 26, 3) := by decide +kernel
theorem dX3_push_19 : decode cX3_push 19 = .ok (.iconst 1, 1) := by decide +kernel
theorem dX3_push_20 : decode cX3_push 20 = .ok (.iadd, 1) := by decide +kernel
theorem dX3_push_21 : decode cX3_push 21 = .ok (.goto 4, 3) := by decide +kernel
theorem dX3_push_24 : decode cX3_push 24 = .ok (.iconst 0, 1) := by decide +kernel
theorem dX3_push_25 : decode cX3_push 25 = .ok (.putfield 26, 3) := by decide +kernel
theorem dX3_push_28 : decode cX3_push 28 = .ok (.aload_n 0, 1) := by decide +kernel
theorem dX3_push_29 : decode cX3_push 29 = .ok (.aload_n 0, 1) := by decide +kernel
theorem dX3_push_30 : decode cX3_push 30 = .ok (.getfield 22, 3) := by decide +kernel
theorem dX3_push_33 : decode cX3_push 33 = .ok (.iconst 1, 1) := by decide +kernel
theorem dX3_push_34 : decode cX3_push 34 = .ok (.iadd, 1) := by decide +kernel
theorem dX3_push_35 : decode cX3_push 35 = .ok (.aload_n 0, 1) := by decide +kernel
theorem dX3_push_36 : decode cX3_push 36 = .ok (.getfield 15, 3) := by decide +kernel
theorem dX3_push_39 : decode cX3_push 39 = .ok (.arraylength, 1) := by decide +kernel
theorem dX3_push_40 : decode cX3_push 40 = .ok (.invokestatic 29, 3) := by decide +kernel
theorem dX3_push_43 : decode cX3_push 43 = .ok (.putfield 22, 3) := by decide +kernel
theorem dX3_push_46 : decode cX3_push 46 = .ok (.aload_n 0, 1) := by decide +kernel
theorem dX3_push_47 : decode cX3_push 47 = .ok (.invokevirtual 32, 3) := by decide +kernel
theorem dX3_push_50 : decode cX3_push 50 = .ok (.astore_n 2, 1) := by decide +kernel
theorem dX3_push_51 : decode cX3_push 51 = .ok (.aload_n 2, 1) := by decide +kernel
theorem dX3_push_52 : decode cX3_push 52 = .ok (.ifnull 8, 3) := by decide +kernel
theorem dX3_push_55 : decode cX3_push 55 = .ok (.aload_n 2, 1) := by decide +kernel
theorem dX3_push_56 : decode cX3_push 56 = .ok (.aload_n 1, 1) := by decide +kernel
theorem dX3_push_57 : decode cX3_push 57 = .ok (.invokevirtual 36, 3) := by decide +kernel
theorem dX3_push_60 : decode cX3_push 60 = .ok (.return_, 1) := by decide +kernel
set_option maxRecDepth 20000 in
theorem ggX3_pop_X3_topRow : GoodIn wsX3_pop wsX3_topRow := goodIn_r _ [8, 2, 3, 37, 38, 39] (by decide +kernel) (by decide +kernel)
set_option maxRecDepth 20000 in
theorem gX3_pop_X3_topRow : GoodIn wsX3_pop (wsV RX3 32 RX3 yX3_topRow wsX3_topRow) := goodIn_app (goodIn_of _ (by decide +kernel)) ggX3_pop_X3_topRow
set_option maxRecDepth 20000 in
theorem ggX3_pop_X1_copy : GoodIn wsX3_pop wsX1_copy := goodIn_r _ [13, 14, 15, 16, 17, 18, 19, 20, 21, 22, 23, 24, 25, 26, 27, 28, 29, 30, 31, 32, 33, 34, 35, 36, 40, 41, 42, 43, 44, 45, 46, 47, 48, 49, 50, 51, 52] (by decide +kernel) (by decide +kernel)
set_option maxRecDepth 20000 in
theorem gX3_pop_X1_copy : GoodIn wsX3_pop (wsV RX3 36 RX1 yX1_copy wsX1_copy) := goodIn_app (goodIn_of _ (by decide +kernel)) ggX3_pop_X1_copy
theorem dX3_pop_0 : decode cX3_pop 0 = .ok (.aload_n 0, 1) := by decide +kernel
theorem dX3_pop_1 : decode cX3_pop 1 = .ok (.invokevirtual 32, 3) := by decide +kernel
theorem dX3_pop_4 : decode cX3_pop 4 = .ok (.astore_n 2, 1) := by decide +kernel
theorem dX3_pop_5 : decode cX3_pop 5 = .ok (.aload_n 0, 1) := by decide +kernel
theorem dX3_pop_6 : decode cX3_pop 6 = .ok (.getfield 22, 3) := by decide +kernel
theorem dX3_pop_9 : decode cX3_pop 9 = .ok (.ifCond .le 49, 3) := by decide +kernel
theorem dX3_pop_12 : decode cX3_pop 12 = .ok (.aload_n 2, 1) := by decide +kernel
theorem dX3_pop_13 : decode cX3_pop 13 = .ok (.ifnull 45, 3) := by decide +kernel
theorem dX3_pop_16 : decode cX3_pop 16 = .ok (.aload_n 1, 1) := by decide +kernel
theorem dX3_pop_17 : decode cX3_pop 17 = .ok (.aload_n 2, 1) := by decide +kernel
theorem dX3_pop_18 : decode cX3_pop 18 = .ok (.invokevirtual 36, 3) := by decide +kernel
theorem dX3_pop_21 : decode cX3_pop 21 = .ok (.aload_n 0, 1) := by decide +kernel
theorem dX3_pop_22 : decode cX3_pop 22 = .ok (.dup, 1) := by decide +kernel
theorem dX3_pop_23 : decode cX3_pop 23 = .ok (.getfield 22, 3) := by decide +kernel
theorem dX3_pop_26 : decode cX3_pop 26 = .ok (.iconst 1, 1) := by decide +kernel
theorem dX3_pop_27 : decode cX3_pop 27 = .ok (.isub, 1) := by decide +kernel
theorem dX3_pop_28 : decode cX3_pop 28 = .ok (.putfield 22, 3) := by decide +kernel
theorem dX3_pop_31 : decode cX3_pop 31 = .ok (.aload_n 0, 1) := by decide +kernel
theorem dX3_pop_32 : decode cX3_pop 32 = .ok (.aload_n 0, 1) := by decide +kernel
theorem dX3_pop_33 : decode cX3_pop 33 = .ok (.getfield 26, 3) := by decide +kernel
theorem dX3_pop_36 : decode cX3_pop 36 = .ok (.ifCond .le 12, 3) := by decide +kernel
theorem dX3_pop_39 : decode cX3_pop 39 = .ok (.aload_n 0, 1) := by decide +kernel
theorem dX3_pop_40 : decode cX3_pop 40 = .ok (.getfield 26, 3) := by decide +kernel
theorem dX3_pop_43 : decode cX3_pop 43 = .ok (.iconst 1, 1) := by decide +kernel
theorem dX3_pop_44 : decode cX3_pop 44 = .ok (.isub, 1) := by decide +kernel
theorem dX3_pop_45 : decode cX3_pop 45 = .ok (.goto 10, 3) := by decide +kernel
theorem dX3_pop_48 : decode cX3_pop 48 = .ok (.aload_n 0, 1) := by decide +kernel
theorem dX3_pop_49 : decode cX3_pop 49 = .ok (.getfield 15, 3) := by decide +kernel
theorem dX3_pop_52 : decode cX3_pop 52 = .ok (.arraylength, 1) := by decide +kernel
theorem dX3_pop_53 : decode cX3_pop 53 = .ok (.iconst 1, 1) := by decide +kernel
theorem dX3_pop_54 : decode cX3_pop 54 = .ok (.isub, 1) := by decide +kernel
theorem dX3_pop_55 : decode cX3_pop 55 = .ok (.putfield 26, 3) := by decide +kernel
theorem dX3_pop_58 : decode cX3_pop 58 = .ok (.return_, 1) := by decide +kernel
theorem dX3_topRow_0 : decode cX3_topRow 0 = .ok (.aload_n 0, 1) := by decide +kernel
theorem dX3_topRow_1 : decode cX3_topRow 1 = .ok (.getfield 26, 3) := by decide +kernel
theorem dX3_topRow_4 : decode cX3_topRow 4 = .ok (.ifCond .lt 27, 3) := by decide +kernel
theorem dX3_topRow_7 : decode cX3_topRow 7 = .ok (.aload_n 0, 1) := by decide +kernel
theorem dX3_topRow_8 : decode cX3_topRow 8 = .ok (.getfield 26, 3) := by decide +kernel
theorem dX3_topRow_11 : decode cX3_topRow 11 = .ok (.aload_n 0, 1) := by decide +kernel
theorem dX3_topRow_12 : decode cX3_topRow 12 = .ok (.getfield 15, 3) := by decide +kernel
theorem dX3_topRow_15 : decode cX3_topRow 15 = .ok (.arraylength, 1) := by decide +kernel
theorem dX3_topRow_16 : decode cX3_topRow 16 = .ok (.if_icmp .ge 15, 3) := by decide +kernel
theorem dX3_topRow_19 : decode cX3_topRow 19 = .ok (.aload_n 0, 1) := by decide +kernel
theorem dX3_topRow_20 : decode cX3_topRow 20 = .ok (.getfield 15, 3) := by decide +kernel
theorem dX3_topRow_23 : decode cX3_topRow 23 = .ok (.aload_n 0, 1) := by decide +kernel
theorem dX3_topRow_24 : decode cX3_topRow 24 = .ok (.getfield 26, 3) := by decide +kernel
theorem dX3_topRow_27 : decode cX3_topRow 27 = .ok (.aaload, 1) := by decide +kernel
theorem dX3_topRow_28 : decode cX3_topRow 28 = .ok (.goto 4, 3) := by decide +kernel
theorem dX3_topRow_31 : decode cX3_topRow 31 = .ok (.aconst_null, 1) := by decide +kernel
theorem dX3_topRow_32 : decode cX3_topRow 32 = .ok (.areturn, 1) := by decide +kernel
theorem dX4_init_0 : decode cX4_init 0 = .ok (.aload_n 0, 1) := by decide +kernel
theorem dX4_init_1 : decode cX4_init 1 = .ok (.invokespecial 3, 3) := by decide +kernel
theorem dX4_init_4 : decode cX4_init 4 = .ok (.aload_n 0, 1) := by decide +kernel
theorem dX4_init_5 : decode cX4_init 5 = .ok (.sipush 200, 3) := by decide +kernel
theorem dX4_init_8 : decode cX4_init 8 = .ok (.newarray .char, 2) := by decide +kernel
theorem dX4_init_10 : decode cX4_init 10 = .ok (.putfield 9, 3) := by decide +kernel
theorem dX4_init_13 : decode cX4_init 13 = .ok (.aload_n 0, 1) := by decide +kernel
theorem dX4_init_14 : decode cX4_init 14 = .ok (.iconst 3, 1) := by decide +kernel
theorem dX4_init_15 : decode cX4_init 15 = .ok (.newarray .int, 2) := by decide +kernel
theorem dX4_init_17 : decode cX4_init 17 = .ok (.putfield 15, 3) := by decide +kernel
theorem dX4_init_20 : decode cX4_init 20 = .ok (.return_, 1) := by decide +kernel
theorem dX4_length_0 : decode cX4_length 0 = .ok (.aload_n 0, 1) := by decide +kernel
theorem dX4_length_1 : decode cX4_length 1 = .ok (.getfield 19, 3) := by decide +kernel
theorem dX4_length_4 : decode cX4_length 4 = .ok (.ireturn, 1) := by decide +kernel
theorem dX4_clear_0 : decode cX4_clear 0 = .ok (.aload_n 0, 1) := by decide +kernel
theorem dX4_clear_1 : decode cX4_clear 1 = .ok (.iconst 0, 1) := by decide +kernel
theorem dX4_clear_2 : decode cX4_clear 2 = .ok (.putfield 19, 3) := by decide +kernel
theorem dX4_clear_5 : decode cX4_clear 5 = .ok (.return_, 1) := by decide +kernel
theorem dX4_append_0 : decode cX4_append 0 = .ok (.aload_n 0, 1) := by decide +kernel
theorem dX4_append_1 : decode cX4_append 1 = .ok (.getfield 19, 3) := by decide +kernel
theorem dX4_append_4 : decode cX4_append 4 = .ok (.sipush 200, 3) := by decide +kernel
theorem dX4_append_7 : decode cX4_append 7 = .ok (.if_icmp .lt 5, 3) := by decide +kernel
theorem dX4_append_10 : decode cX4_append 10 = .ok (.iconst 0, 1) := by decide +kernel
theorem dX4_append_11 : decode cX4_append 11 = .ok (.ireturn, 1) := by decide +kernel
theorem dX4_append_12 : decode cX4_append 12 = .ok (.aload_n 0, 1) := by decide +kernel
theorem dX4_append_13 : decode cX4_append 13 = .ok (.getfield 9, 3) := by decide +kernel
theorem dX4_append_16 : decode cX4_append 16 = .ok (.aload_n 0, 1) := by decide +kernel
theorem dX4_append_17 : decode cX4_append 17 = .ok (.getfield 19, 3) := by decide +kernel
theorem dX4_append_20 : decode cX4_append 20 = .ok (.iload_n 1, 1) := by decide +kernel
theorem dX4_append_21 : decode cX4_append 21 = .ok (.castore, 1) := by decide +kernel
theorem dX4_append_22 : decode cX4_append 22 = .ok (.aload_n 0, 1) := by decide +kernel
theorem dX4_append_23 : decode cX4_append 23 = .ok (.dup, 1) := by decide +kernel
theorem dX4_append_24 : decode cX4_append 24 = .ok (.getfield 19, 3) := by decide +kernel
theorem dX4_append_27 : decode cX4_append 27 = .ok (.iconst 1, 1) := by decide +kernel
theorem dX4_append_28 : decode cX4_append 28 = .ok (.iadd, 1) := by decide +kernel
theorem dX4_append_29 : decode cX4_append 29 = .ok (.putfield 19, 3) := by decide +kernel
theorem dX4_append_32 : decode cX4_append 32 = .ok (.iconst 1, 1) := by decide +kernel
theorem dX4_append_33 : decode cX4_append 33 = .ok (.ireturn, 1) := by decide +kernel
set_option maxRecDepth 20000 in
theorem ggX4_readInto_X2_clear : GoodIn wsX4_readInto wsX2_clear := goodIn_r _ [6, 7, 8, 9, 10, 62, 63, 64, 65, 66, 67, 68, 69, 70] (by decide +kernel) (by decide +kernel)
set_option maxRecDepth 20000 in
theorem gX4_readInto_X2_clear : GoodIn wsX4_readInto (wsV RX4 23 RX2 yX2_clear wsX2_clear) := goodIn_app (goodIn_of _ (by decide +kernel)) ggX4_readInto_X2_clear
set_option maxRecDepth 20000 in
theorem ggX4_readInto_X4_readItem : GoodIn wsX4_readInto wsX4_readItem := goodIn_r _ [15, 16, 17, 18, 14, 19, 1, 20, 21, 22, 23, 24, 25, 26, 27, 28, 29, 30, 31, 32, 33, 34, 35, 36, 37, 38, 39, 40, 5, 41, 7, 42, 43, 44, 45, 46, 47, 48, 8, 49, 50, 51, 52, 53, 54, 9, 55, 56, 57, 58, 10, 59, 60, 61, 62, 63, 64, 65, 66, 67, 68, 69, 70] (by decide +kernel) (by decide +kernel)
set_option maxRecDepth 20000 in
theorem gX4_readInto_X4_readItem : GoodIn wsX4_readInto (wsV RX4 28 RX4 yX4_readItem wsX4_readItem) := goodIn_app (goodIn_of _ (by decide +kernel)) ggX4_readInto_X4_readItem
theorem dX4_readInto_0 : decode cX4_readInto 0 = .ok (.aload_n 1, 1) := by decide +kernel
theorem dX4_readInto_1 : decode cX4_readInto 1 = .ok (.invokevirtual 23, 3) := by decide +kernel
theorem dX4_readInto_4 : decode cX4_readInto 4 = .ok (.iconst 0, 1) := by decide +kernel
theorem dX4_readInto_5 : decode cX4_readInto 5 = .ok (.istore_n 2, 1) := by decide +kernel
theorem dX4_readInto_6 : decode cX4_readInto 6 = .ok (.iconst 0, 1) := by decide +kernel
theorem dX4_readInto_7 : decode cX4_readInto 7 = .ok (.istore_n 3, 1) := by decide +kernel
theorem dX4_readInto_8 : decode cX4_readInto 8 = .ok (.iload_n 3, 1) := by decide +kernel
theorem dX4_readInto_9 : decode cX4_readInto 9 = .ok (.sipush 200, 3) := by decide +kernel
theorem dX4_readInto_12 : decode cX4_readInto 12 = .ok (.if_icmp .ge 36, 3) := by decide +kernel
theorem dX4_readInto_15 : decode cX4_readInto 15 = .ok (.iload_n 2, 1) := by decide +kernel
theorem dX4_readInto_16 : decode cX4_readInto 16 = .ok (.aload_n 0, 1) := by decide +kernel
theorem dX4_readInto_17 : decode cX4_readInto 17 = .ok (.getfield 19, 3) := by decide +kernel
theorem dX4_readInto_20 : decode cX4_readInto 20 = .ok (.if_icmp .ge 28, 3) := by decide +kernel
theorem dX4_readInto_23 : decode cX4_readInto 23 = .ok (.aload_n 0, 1) := by decide +kernel
theorem dX4_readInto_24 : decode cX4_readInto 24 = .ok (.iload_n 2, 1) := by decide +kernel
theorem dX4_readInto_25 : decode cX4_readInto 25 = .ok (.aload_n 1, 1) := by decide +kernel
theorem dX4_readInto_26 : decode cX4_readInto 26 = .ok (.invokevirtual 28, 3) := by decide +kernel
theorem dX4_readInto_29 : decode cX4_readInto 29 = .ok (.istore 4, 2) := by decide +kernel
theorem dX4_readInto_31 : decode cX4_readInto 31 = .ok (.iload 4, 2) := by decide +kernel
theorem dX4_readInto_33 : decode cX4_readInto 33 = .ok (.iconst (-1), 1) := by decide +kernel
theorem dX4_readInto_34 : decode cX4_readInto 34 = .ok (.if_icmp .ne 5, 3) := by decide +kernel
theorem dX4_readInto_37 : decode cX4_readInto 37 = .ok (.iload_n 2, 1) := by decide +kernel
theorem dX4_readInto_38 : decode cX4_readInto 38 = .ok (.ireturn, 1) := by decide +kernel
theorem dX4_readInto_39 : decode cX4_readInto 39 = .ok (.iload 4, 2) := by decide +kernel
theorem dX4_readInto_41 : decode cX4_readInto 41 = .ok (.istore_n 2, 1) := by decide +kernel
theorem dX4_readInto_42 : decode cX4_readInto 42 = .ok (.iinc 3 1, 3) := by decide +kernel
theorem dX4_readInto_45 : decode cX4_readInto 45 = .ok (.goto (-37), 3) := by decide +kernel
theorem dX4_readInto_48 : decode cX4_readInto 48 = .ok (.bipush (-4), 2) := by decide +kernel
theorem dX4_readInto_50 : decode cX4_readInto 50 = .ok (.ireturn, 1) := by decide +kernel
set_option maxRecDepth 20000 in
theorem ggX4_readItem_X4_letterAt : GoodIn wsX4_readItem wsX4_letterAt := goodIn_r _ [5, 6, 7, 51, 52, 53] (by decide +kernel) (by decide +kernel)
set_option maxRecDepth 20000 in
theorem gX4_readItem_X4_letterAt : GoodIn wsX4_readItem (wsV RX4 32 RX4 yX4_letterAt wsX4_letterAt) := goodIn_app (goodIn_of _ (by decide +kernel)) ggX4_readItem_X4_letterAt
set_option maxRecDepth 20000 in
theorem ggX4_readItem_X4_numbersBehind : GoodIn wsX4_readItem wsX4_numbersBehind := goodIn_r _ [11] (by decide +kernel) (by decide +kernel)
set_option maxRecDepth 20000 in
theorem gX4_readItem_X4_numbersBehind : GoodIn wsX4_readItem (wsV RX4 36 RX4 yX4_numbersBehind wsX4_numbersBehind) := goodIn_app (goodIn_of _ (by decide +kernel)) ggX4_readItem_X4_numbersBehind
set_option maxRecDepth 20000 in
theorem ggX4_readItem_X4_readNumbers : GoodIn wsX4_readItem wsX4_readNumbers := goodIn_r _ [15, 16, 17, 18, 19, 4, 20, 1, 2, 3, 5, 6, 7, 51, 52, 53] (by decide +kernel) (by decide +kernel)
set_option maxRecDepth 20000 in
theorem gX4_readItem_X4_readNumbers : GoodIn wsX4_readItem (wsV RX4 40 RX4 yX4_readNumbers wsX4_readNumbers) := goodIn_app (goodIn_of _ (by decide +kernel)) ggX4_readItem_X4_readNumbers
set_option maxRecDepth 20000 in
theorem ggX4_readItem_X4_addTo : GoodIn wsX4_readItem wsX4_addTo := goodIn_r _ [24, 16, 25, 26, 27, 28, 29, 30, 31, 32, 33, 34, 35, 36, 37, 38, 39, 40, 41, 42, 43, 44, 45, 46, 47, 48, 49, 50, 51, 52, 53, 54, 55, 56, 57, 58, 59, 60, 61, 62] (by decide +kernel) (by decide +kernel)
set_option maxRecDepth 20000 in
theorem gX4_readItem_X4_addTo : GoodIn wsX4_readItem (wsV RX4 44 RX4 yX4_addTo wsX4_addTo) := goodIn_app (goodIn_of _ (by decide +kernel)) ggX4_readItem_X4_addTo
theorem dX4_readItem_0 : decode cX4_readItem 0 = .ok (.aload_n 0, 1) := by decide +kernel
theorem dX4_readItem_1 : decode cX4_readItem 1 = .ok (.iload_n 1, 1) := by decide +kernel
theorem dX4_readItem_2 : decode cX4_readItem 2 = .ok (.invokevirtual 32, 3) := by decide +kernel
theorem dX4_readItem_5 : decode cX4_readItem 5 = .ok (.istore_n 3, 1) := by decide +kernel
theorem dX4_readItem_6 : decode cX4_readItem 6 = .ok (.aload_n 0, 1) := by decide +kernel
theorem dX4_readItem_7 : decode cX4_readItem 7 = .ok (.iload_n 3, 1) := by decide +kernel
theorem dX4_readItem_8 : decode cX4_readItem 8 = .ok (.invokevirtual 36, 3) := by decide +kernel
theorem dX4_readItem_11 : decode cX4_readItem 11 = .ok (.istore 4, 2) := by decide +kernel
theorem dX4_readItem_13 : decode cX4_readItem 13 = .ok (.aload_n 0, 1) := by decide +kernel
theorem dX4_readItem_14 : decode cX4_readItem 14 = .ok (.iload_n 1, 1) := by decide +kernel
theorem dX4_readItem_15 : decode cX4_readItem 15 = .ok (.iconst 1, 1) := by decide +kernel
theorem dX4_readItem_16 : decode cX4_readItem 16 = .ok (.iadd, 1) := by decide +kernel
theorem dX4_readItem_17 : decode cX4_readItem 17 = .ok (.iload 4, 2) := by decide +kernel
theorem dX4_readItem_19 : decode cX4_readItem 19 = .ok (.invokevirtual 40, 3) := by decide +kernel
theorem dX4_readItem_22 : decode cX4_readItem 22 = .ok (.istore 5, 2) := by decide +kernel
theorem dX4_readItem_24 : decode cX4_readItem 24 = .ok (.iload 5, 2) := by decide +kernel
theorem dX4_readItem_26 : decode cX4_readItem 26 = .ok (.iconst (-1), 1) := by decide +kernel
theorem dX4_readItem_27 : decode cX4_readItem 27 = .ok (.if_icmp .eq 12, 3) := by decide +kernel
theorem dX4_readItem_30 : decode cX4_readItem 30 = .ok (.aload_n 0, 1) := by decide +kernel
theorem dX4_readItem_31 : decode cX4_readItem 31 = .ok (.aload_n 2, 1) := by decide +kernel
theorem dX4_readItem_32 : decode cX4_readItem 32 = .ok (.iload_n 3, 1) := by decide +kernel
theorem dX4_readItem_33 : decode cX4_readItem 33 = .ok (.invokevirtual 44, 3) := by decide +kernel
theorem dX4_readItem_36 : decode cX4_readItem 36 = .ok (.ifCond .ne 5, 3) := by decide +kernel
theorem dX4_readItem_39 : decode cX4_readItem 39 = .ok (.iconst (-1), 1) := by decide +kernel
theorem dX4_readItem_40 : decode cX4_readItem 40 = .ok (.ireturn, 1) := by decide +kernel
theorem dX4_readItem_41 : decode cX4_readItem 41 = .ok (.iload 5, 2) := by decide +kernel
theorem dX4_readItem_43 : decode cX4_readItem 43 = .ok (.ireturn, 1) := by decide +kernel
theorem dX4_numbersBehind_0 : decode cX4_numbersBehind 0 = .ok (.iload_n 1, 1) := by decide +kernel
theorem dX4_numbersBehind_1 : decode cX4_numbersBehind 1 = .ok (.bipush 114, 2) := by decide +kernel
theorem dX4_numbersBehind_3 : decode cX4_numbersBehind 3 = .ok (.if_icmp .ne 5, 3) := by decide +kernel
theorem dX4_numbersBehind_6 : decode cX4_numbersBehind 6 = .ok (.iconst 3, 1) := by decide +kernel
theorem dX4_numbersBehind_7 : decode cX4_numbersBehind 7 = .ok (.ireturn, 1) := by decide +kernel
theorem dX4_numbersBehind_8 : decode cX4_numbersBehind 8 = .ok (.iload_n 1, 1) := by decide +kernel
theorem dX4_numbersBehind_9 : decode cX4_numbersBehind 9 = .ok (.bipush 115, 2) := by decide +kernel
theorem dX4_numbersBehind_11 : decode cX4_numbersBehind 11 = .ok (.if_icmp .ne 5, 3) := by decide +kernel
theorem dX4_numbersBehind_14 : decode cX4_numbersBehind 14 = .ok (.iconst 2, 1) := by decide +kernel
theorem dX4_numbersBehind_15 : decode cX4_numbersBehind 15 = .ok (.ireturn, 1) := by decide +kernel
theorem dX4_numbersBehind_16 : decode cX4_numbersBehind 16 = .ok (.iload_n 1, 1) := by decide +kernel
theorem dX4_numbersBehind_17 : decode cX4_numbersBehind 17 = .ok (.bipush 100, 2) := by decide +kernel
theorem dX4_numbersBehind_19 : decode cX4_numbersBehind 19 = .ok (.if_icmp .eq 9, 3) := by decide +kernel
theorem dX4_numbersBehind_22 : decode cX4_numbersBehind 22 = .ok (.iload_n 1, 1) := by decide +kernel
theorem dX4_numbersBehind_23 : decode cX4_numbersBehind 23 = .ok (.bipush 104, 2) := by decide +kernel
theorem dX4_numbersBehind_25 : decode cX4_numbersBehind 25 = .ok (.if_icmp .ne 7, 3) := by decide +kernel
theorem dX4_numbersBehind_28 : decode cX4_numbersBehind 28 = .ok (.iconst 1, 1) := by decide +kernel
theorem dX4_numbersBehind_29 : decode cX4_numbersBehind 29 = .ok (.goto 4, 3) := by decide +kernel
theorem dX4_numbersBehind_32 : decode cX4_numbersBehind 32 = .ok (.iconst 0, 1) := by decide +kernel
theorem dX4_numbersBehind_33 : decode cX4_numbersBehind 33 = .ok (.ireturn, 1) := by decide +kernel
set_option maxRecDepth 20000 in
theorem ggX4_readNumbers_X4_figureAt : GoodIn wsX4_readNumbers wsX4_figureAt := goodIn_r _ [6, 7, 8, 9, 5, 10, 11, 12, 13, 14, 15] (by decide +kernel) (by decide +kernel)
set_option maxRecDepth 20000 in
theorem gX4_readNumbers_X4_figureAt : GoodIn wsX4_readNumbers (wsV RX4 48 RX4 yX4_figureAt wsX4_figureAt) := goodIn_app (goodIn_of _ (by decide +kernel)) ggX4_readNumbers_X4_figureAt
set_option maxRecDepth 20000 in
theorem ggX4_readNumbers_X4_letterAt : GoodIn wsX4_readNumbers wsX4_letterAt := goodIn_r _ [10, 11, 12, 13, 14, 15] (by decide +kernel) (by decide +kernel)
set_option maxRecDepth 20000 in
theorem gX4_readNumbers_X4_letterAt : GoodIn wsX4_readNumbers (wsV RX4 32 RX4 yX4_letterAt wsX4_letterAt) := goodIn_app (goodIn_of _ (by decide +kernel)) ggX4_readNumbers_X4_letterAt
theorem dX4_readNumbers_0 : decode cX4_readNumbers 0 = .ok (.iload_n 1, 1) := by decide +kernel
theorem dX4_readNumbers_1 : decode cX4_readNumbers 1 = .ok (.istore_n 3, 1) := by decide +kernel
theorem dX4_readNumbers_2 : decode cX4_readNumbers 2 = .ok (.iconst 0, 1) := by decide +kernel
theorem dX4_readNumbers_3 : decode cX4_readNumbers 3 = .ok (.istore 4, 2) := by decide +kernel
theorem dX4_readNumbers_5 : decode cX4_readNumbers 5 = .ok (.iload 4, 2) := by decide +kernel
theorem dX4_readNumbers_7 : decode cX4_readNumbers 7 = .ok (.iload_n 2, 1) := by decide +kernel
theorem dX4_readNumbers_8 : decode cX4_readNumbers 8 = .ok (.if_icmp .ge 98, 3) := by decide +kernel
theorem dX4_readNumbers_11 : decode cX4_readNumbers 11 = .ok (.iload 4, 2) := by decide +kernel
theorem dX4_readNumbers_13 : decode cX4_readNumbers 13 = .ok (.iconst 3, 1) := by decide +kernel
theorem dX4_readNumbers_14 : decode cX4_readNumbers 14 = .ok (.if_icmp .ge 92, 3) := by decide +kernel
theorem dX4_readNumbers_17 : decode cX4_readNumbers 17 = .ok (.aload_n 0, 1) := by decide +kernel
theorem dX4_readNumbers_18 : decode cX4_readNumbers 18 = .ok (.iload_n 3, 1) := by decide +kernel
theorem dX4_readNumbers_19 : decode cX4_readNumbers 19 = .ok (.invokevirtual 48, 3) := by decide +kernel
theorem dX4_readNumbers_22 : decode cX4_readNumbers 22 = .ok (.istore 5, 2) := by decide +kernel
theorem dX4_readNumbers_24 : decode cX4_readNumbers 24 = .ok (.iload 5, 2) := by decide +kernel
theorem dX4_readNumbers_26 : decode cX4_readNumbers 26 = .ok (.ifCond .ge 5, 3) := by decide +kernel
theorem dX4_readNumbers_29 : decode cX4_readNumbers 29 = .ok (.iconst (-1), 1) := by decide +kernel
theorem dX4_readNumbers_30 : decode cX4_readNumbers 30 = .ok (.ireturn, 1) := by decide +kernel
theorem dX4_readNumbers_31 : decode cX4_readNumbers 31 = .ok (.iinc 3 1, 3) := by decide +kernel
theorem dX4_readNumbers_34 : decode cX4_readNumbers 34 = .ok (.aload_n 0, 1) := by decide +kernel
theorem dX4_readNumbers_35 : decode cX4_readNumbers 35 = .ok (.iload_n 3, 1) := by decide +kernel
theorem dX4_readNumbers_36 : decode cX4_readNumbers 36 = .ok (.invokevirtual 48, 3) := by decide +kernel
theorem dX4_readNumbers_39 : decode cX4_readNumbers 39 = .ok (.istore 6, 2) := by decide +kernel
theorem dX4_readNumbers_41 : decode cX4_readNumbers 41 = .ok (.iload 6, 2) := by decide +kernel
theorem dX4_readNumbers_43 : decode cX4_readNumbers 43 = .ok (.ifCond .lt 16, 3) := by decide +kernel
theorem dX4_readNumbers_46 : decode cX4_readNumbers 46 = .ok (.bipush 10, 2) := by decide +kernel
theorem dX4_readNumbers_48 : decode cX4_readNumbers 48 = .ok (.iload 5, 2) := by decide +kernel
theorem dX4_readNumbers_50 : decode cX4_readNumbers 50 = .ok (.imul, 1) := by decide +kernel
theorem dX4_readNumbers_51 : decode cX4_readNumbers 51 = .ok (.iload 6, 2) := by decide +kernel
theorem dX4_readNumbers_53 : decode cX4_readNumbers 53 = .ok (.iadd, 1) := by decide +kernel
theorem dX4_readNumbers_54 : decode cX4_readNumbers 54 = .ok (.istore 5, 2) := by decide +kernel
theorem dX4_readNumbers_56 : decode cX4_readNumbers 56 = .ok (.iinc 3 1, 3) := by decide +kernel
theorem dX4_readNumbers_59 : decode cX4_readNumbers 59 = .ok (.iload 4, 2) := by decide +kernel
theorem dX4_readNumbers_61 : decode cX4_readNumbers 61 = .ok (.iconst 1, 1) := by decide +kernel
theorem dX4_readNumbers_62 : decode cX4_readNumbers 62 = .ok (.iadd, 1) := by decide +kernel
theorem dX4_readNumbers_63 : decode cX4_readNumbers 63 = .ok (.iload_n 2, 1) := by decide +kernel
theorem dX4_readNumbers_64 : decode cX4_readNumbers 64 = .ok (.if_icmp .ge 8, 3) := by decide +kernel
theorem dX4_readNumbers_67 : decode cX4_readNumbers 67 = .ok (.bipush 44, 2) := by decide +kernel
theorem dX4_readNumbers_69 : decode cX4_readNumbers 69 = .ok (.goto 5, 3) := by decide +kernel
theorem dX4_readNumbers_72 : decode cX4_readNumbers 72 = .ok (.bipush 59, 2) := by decide +kernel
theorem dX4_readNumbers_74 : decode cX4_readNumbers 74 = .ok (.istore 7, 2) := by decide +kernel
theorem dX4_readNumbers_76 : decode cX4_readNumbers 76 = .ok (.aload_n 0, 1) := by decide +kernel
theorem dX4_readNumbers_77 : decode cX4_readNumbers 77 = .ok (.iload_n 3, 1) := by decide +kernel
theorem dX4_readNumbers_78 : decode cX4_readNumbers 78 = .ok (.invokevirtual 32, 3) := by decide +kernel
theorem dX4_readNumbers_81 : decode cX4_readNumbers 81 = .ok (.iload 7, 2) := by decide +kernel
theorem dX4_readNumbers_83 : decode cX4_readNumbers 83 = .ok (.if_icmp .eq 5, 3) := by decide +kernel
theorem dX4_readNumbers_86 : decode cX4_readNumbers 86 = .ok (.iconst (-1), 1) := by decide +kernel
theorem dX4_readNumbers_87 : decode cX4_readNumbers 87 = .ok (.ireturn, 1) := by decide +kernel
theorem dX4_readNumbers_88 : decode cX4_readNumbers 88 = .ok (.iinc 3 1, 3) := by decide +kernel
theorem dX4_readNumbers_91 : decode cX4_readNumbers 91 = .ok (.aload_n 0, 1) := by decide +kernel
theorem dX4_readNumbers_92 : decode cX4_readNumbers 92 = .ok (.getfield 15, 3) := by decide +kernel
theorem dX4_readNumbers_95 : decode cX4_readNumbers 95 = .ok (.iload 4, 2) := by decide +kernel
theorem dX4_readNumbers_97 : decode cX4_readNumbers 97 = .ok (.iload 5, 2) := by decide +kernel
theorem dX4_readNumbers_99 : decode cX4_readNumbers 99 = .ok (.iastore, 1) := by decide +kernel
theorem dX4_readNumbers_100 : decode cX4_readNumbers 100 = .ok (.iinc 4 1, 3) := by decide +kernel
theorem dX4_readNumbers_103 : decode cX4_readNumbers 103 = .ok (.goto (-98), 3) := by decide +kernel
theorem dX4_readNumbers_106 : decode cX4_readNumbers 106 = .ok (.iload_n 3, 1) := by decide +kernel
theorem dX4_readNumbers_107 : decode cX4_readNumbers 107 = .ok (.ireturn, 1) := by decide +kernel
set_option maxRecDepth 20000 in
theorem ggX4_addTo_X2_addRelative : GoodIn wsX4_addTo wsX2_addRelative := goodIn_r _ [6, 7, 8, 9, 10, 31, 32, 33, 34, 35, 36, 37, 38, 39] (by decide +kernel) (by decide +kernel)
set_option maxRecDepth 20000 in
theorem gX4_addTo_X2_addRelative : GoodIn wsX4_addTo (wsV RX4 52 RX2 yX2_addRelative wsX2_addRelative) := goodIn_app (goodIn_of _ (by decide +kernel)) ggX4_addTo_X2_addRelative
set_option maxRecDepth 20000 in
theorem ggX4_addTo_X2_addSaying : GoodIn wsX4_addTo wsX2_addSaying := goodIn_r _ [14, 15, 16, 17, 31, 32, 33, 34, 35, 36, 37, 38, 39] (by decide +kernel) (by decide +kernel)
set_option maxRecDepth 20000 in
theorem gX4_addTo_X2_addSaying : GoodIn wsX4_addTo (wsV RX4 56 RX2 yX2_addSaying wsX2_addSaying) := goodIn_app (goodIn_of _ (by decide +kernel)) ggX4_addTo_X2_addSaying
set_option maxRecDepth 20000 in
theorem ggX4_addTo_X2_setDeed : GoodIn wsX4_addTo wsX2_setDeed := goodIn_r _ [21, 22, 31, 32, 33, 34, 35, 36, 37, 38, 39] (by decide +kernel) (by decide +kernel)
set_option maxRecDepth 20000 in
theorem gX4_addTo_X2_setDeed : GoodIn wsX4_addTo (wsV RX4 60 RX2 yX2_setDeed wsX2_setDeed) := goodIn_app (goodIn_of _ (by decide +kernel)) ggX4_addTo_X2_setDeed
set_option maxRecDepth 20000 in
theorem ggX4_addTo_X2_setHint : GoodIn wsX4_addTo wsX2_setHint := goodIn_r _ [26, 27, 31, 32, 33, 34, 35, 36, 37, 38, 39] (by decide +kernel) (by decide +kernel)
set_option maxRecDepth 20000 in
theorem gX4_addTo_X2_setHint : GoodIn wsX4_addTo (wsV RX4 64 RX2 yX2_setHint wsX2_setHint) := goodIn_app (goodIn_of _ (by decide +kernel)) ggX4_addTo_X2_setHint
theorem dX4_addTo_0 : decode cX4_addTo 0 = .ok (.iload_n 2, 1) := by decide +kernel
theorem dX4_addTo_1 : decode cX4_addTo 1 = .ok (.bipush 114, 2) := by decide +kernel
theorem dX4_addTo_3 : decode cX4_addTo 3 = .ok (.if_icmp .ne 26, 3) := by decide +kernel
theorem dX4_addTo_6 : decode cX4_addTo 6 = .ok (.aload_n 1, 1) := by decide +kernel
theorem dX4_addTo_7 : decode cX4_addTo 7 = .ok (.aload_n 0, 1) := by decide +kernel
theorem dX4_addTo_8 : decode cX4_addTo 8 = .ok (.getfield 15, 3) := by decide +kernel
theorem dX4_addTo_11 : decode cX4_addTo 11 = .ok (.iconst 0, 1) := by decide +kernel
theorem dX4_addTo_12 : decode cX4_addTo 12 = .ok (.iaload, 1) := by decide +kernel
theorem dX4_addTo_13 : decode cX4_addTo 13 = .ok (.aload_n 0, 1) := by decide +kernel
theorem dX4_addTo_14 : decode cX4_addTo 14 = .ok (.getfield 15, 3) := by decide +kernel
theorem dX4_addTo_17 : decode cX4_addTo 17 = .ok (.iconst 1, 1) := by decide +kernel
theorem dX4_addTo_18 : decode cX4_addTo 18 = .ok (.iaload, 1) := by decide +kernel
theorem dX4_addTo_19 : decode cX4_addTo 19 = .ok (.aload_n 0, 1) := by decide +kernel
theorem dX4_addTo_20 : decode cX4_addTo 20 = .ok (.getfield 15, 3) := by decide +kernel
theorem dX4_addTo_23 : decode cX4_addTo 23 = .ok (.iconst 2, 1) := by decide +kernel
theorem dX4_addTo_24 : decode cX4_addTo 24 = .ok (.iaload, 1) := by decide +kernel
theorem dX4_addTo_25 : decode cX4_addTo 25 = .ok (.invokevirtual 52, 3) := by decide +kernel
theorem dX4_addTo_28 : decode cX4_addTo 28 = .ok (.ireturn, 1) := by decide +kernel
theorem dX4_addTo_29 : decode cX4_addTo 29 = .ok (.iload_n 2, 1) := by decide +kernel
theorem dX4_addTo_30 : decode cX4_addTo 30 = .ok (.bipush 115, 2) := by decide +kernel
theorem dX4_addTo_32 : decode cX4_addTo 32 = .ok (.if_icmp .ne 20, 3) := by decide +kernel
theorem dX4_addTo_35 : decode cX4_addTo 35 = .ok (.aload_n 1, 1) := by decide +kernel
theorem dX4_addTo_36 : decode cX4_addTo 36 = .ok (.aload_n 0, 1) := by decide +kernel
theorem dX4_addTo_37 : decode cX4_addTo 37 = .ok (.getfield 15, 3) := by decide +kernel
theorem dX4_addTo_40 : decode cX4_addTo 40 = .ok (.iconst 0, 1) := by decide +kernel
theorem dX4_addTo_41 : decode cX4_addTo 41 = .ok (.iaload, 1) := by decide +kernel
theorem dX4_addTo_42 : decode cX4_addTo 42 = .ok (.aload_n 0, 1) := by decide +kernel
theorem dX4_addTo_43 : decode cX4_addTo 43 = .ok (.getfield 15, 3) := by decide +kernel
theorem dX4_addTo_46 : decode cX4_addTo 46 = .ok (.iconst 1, 1) := by decide +kernel
theorem dX4_addTo_47 : decode cX4_addTo 47 = .ok (.iaload, 1) := by decide +kernel
theorem dX4_addTo_48 : decode cX4_addTo 48 = .ok (.invokevirtual 56, 3) := by decide +kernel
theorem dX4_addTo_51 : decode cX4_addTo 51 = .ok (.ireturn, 1) := by decide +kernel
theorem dX4_addTo_52 : decode cX4_addTo 52 = .ok (.iload_n 2, 1) := by decide +kernel
theorem dX4_addTo_53 : decode cX4_addTo 53 = .ok (.bipush 100, 2) := by decide +kernel
theorem dX4_addTo_55 : decode cX4_addTo 55 = .ok (.if_icmp .ne 14, 3) := by decide +kernel
theorem dX4_addTo_58 : decode cX4_addTo 58 = .ok (.aload_n 1, 1) := by decide +kernel
theorem dX4_addTo_59 : decode cX4_addTo 59 = .ok (.aload_n 0, 1) := by decide +kernel
theorem dX4_addTo_60 : decode cX4_addTo 60 = .ok (.getfield 15, 3) := by decide +kernel
theorem dX4_addTo_63 : decode cX4_addTo 63 = .ok (.iconst 0, 1) := by decide +kernel
theorem dX4_addTo_64 : decode cX4_addTo 64 = .ok (.iaload, 1) := by decide +kernel
theorem dX4_addTo_65 : decode cX4_addTo 65 = .ok (.invokevirtual 60, 3) := by decide +kernel
theorem dX4_addTo_68 : decode cX4_addTo 68 = .ok (.ireturn, 1) := by decide +kernel
theorem dX4_addTo_69 : decode cX4_addTo 69 = .ok (.iload_n 2, 1) := by decide +kernel
theorem dX4_addTo_70 : decode cX4_addTo 70 = .ok (.bipush 104, 2) := by decide +kernel
theorem dX4_addTo_72 : decode cX4_addTo 72 = .ok (.if_icmp .ne 20, 3) := by decide +kernel
theorem dX4_addTo_75 : decode cX4_addTo 75 = .ok (.aload_n 1, 1) := by decide +kernel
theorem dX4_addTo_76 : decode cX4_addTo 76 = .ok (.aload_n 0, 1) := by decide +kernel
theorem dX4_addTo_77 : decode cX4_addTo 77 = .ok (.getfield 15, 3) := by decide +kernel
theorem dX4_addTo_80 : decode cX4_addTo 80 = .ok (.iconst 0, 1) := by decide +kernel
theorem dX4_addTo_81 : decode cX4_addTo 81 = .ok (.iaload, 1) := by decide +kernel
theorem dX4_addTo_82 : decode cX4_addTo 82 = .ok (.invokevirtual 64, 3) := by decide +kernel
theorem dX4_addTo_85 : decode cX4_addTo 85 = .ok (.ifCond .eq 7, 3) := by decide +kernel
theorem dX4_addTo_88 : decode cX4_addTo 88 = .ok (.iconst 1, 1) := by decide +kernel
theorem dX4_addTo_89 : decode cX4_addTo 89 = .ok (.goto 4, 3) := by decide +kernel
theorem dX4_addTo_92 : decode cX4_addTo 92 = .ok (.iconst 0, 1) := by decide +kernel
theorem dX4_addTo_93 : decode cX4_addTo 93 = .ok (.ireturn, 1) := by decide +kernel
set_option maxRecDepth 20000 in
theorem ggX4_figureAt_X4_letterAt : GoodIn wsX4_figureAt wsX4_letterAt := goodIn_r _ [5, 6, 7, 8, 9, 10] (by decide +kernel) (by decide +kernel)
set_option maxRecDepth 20000 in
theorem gX4_figureAt_X4_letterAt : GoodIn wsX4_figureAt (wsV RX4 32 RX4 yX4_letterAt wsX4_letterAt) := goodIn_app (goodIn_of _ (by decide +kernel)) ggX4_figureAt_X4_letterAt
theorem dX4_figureAt_0 : decode cX4_figureAt 0 = .ok (.aload_n 0, 1) := by decide +kernel
theorem dX4_figureAt_1 : decode cX4_figureAt 1 = .ok (.iload_n 1, 1) := by decide +kernel
theorem dX4_figureAt_2 : decode cX4_figureAt 2 = .ok (.invokevirtual 32, 3) := by decide +kernel
theorem dX4_figureAt_5 : decode cX4_figureAt 5 = .ok (.istore_n 2, 1) := by decide +kernel
theorem dX4_figureAt_6 : decode cX4_figureAt 6 = .ok (.iload_n 2, 1) := by decide +kernel
theorem dX4_figureAt_7 : decode cX4_figureAt 7 = .ok (.bipush 48, 2) := by decide +kernel
theorem dX4_figureAt_9 : decode cX4_figureAt 9 = .ok (.if_icmp .lt 16, 3) := by decide +kernel
theorem dX4_figureAt_12 : decode cX4_figureAt 12 = .ok (.iload_n 2, 1) := by decide +kernel
theorem dX4_figureAt_13 : decode cX4_figureAt 13 = .ok (.bipush 57, 2) := by decide +kernel
theorem dX4_figureAt_15 : decode cX4_figureAt 15 = .ok (.if_icmp .gt 10, 3) := by decide +kernel
theorem dX4_figureAt_18 : decode cX4_figureAt 18 = .ok (.iload_n 2, 1) := by decide +kernel
theorem dX4_figureAt_19 : decode cX4_figureAt 19 = .ok (.bipush 48, 2) := by decide +kernel
theorem dX4_figureAt_21 : decode cX4_figureAt 21 = .ok (.isub, 1) := by decide +kernel
theorem dX4_figureAt_22 : decode cX4_figureAt 22 = .ok (.goto 4, 3) := by decide +kernel
theorem dX4_figureAt_25 : decode cX4_figureAt 25 = .ok (.iconst (-1), 1) := by decide +kernel
theorem dX4_figureAt_26 : decode cX4_figureAt 26 = .ok (.ireturn, 1) := by decide +kernel
theorem dX4_letterAt_0 : decode cX4_letterAt 0 = .ok (.iload_n 1, 1) := by decide +kernel
theorem dX4_letterAt_1 : decode cX4_letterAt 1 = .ok (.ifCond .lt 27, 3) := by decide +kernel
theorem dX4_letterAt_4 : decode cX4_letterAt 4 = .ok (.iload_n 1, 1) := by decide +kernel
theorem dX4_letterAt_5 : decode cX4_letterAt 5 = .ok (.aload_n 0, 1) := by decide +kernel
theorem dX4_letterAt_6 : decode cX4_letterAt 6 = .ok (.getfield 19, 3) := by decide +kernel
theorem dX4_letterAt_9 : decode cX4_letterAt 9 = .ok (.if_icmp .ge 19, 3) := by decide +kernel
theorem dX4_letterAt_12 : decode cX4_letterAt 12 = .ok (.iload_n 1, 1) := by decide +kernel
