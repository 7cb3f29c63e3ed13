theorem dX10_say_28 : decode cX10_say 28 = .ok (.iconst 3, 1) := by decide +kernel
theorem dX10_say_29 : decode cX10_say 29 = .ok (.iaload, 1) := by decide +kernel
theorem dX10_say_30 : decode cX10_say 30 = .ok (.iconst 4, 1) := by decide +kernel
theorem dX10_say_31 : decode cX10_say 31 = .ok (.if_icmp .ne 6, 3) := by decide +kernel
theorem dX10_say_34 : decode cX10_say 34 = .ok (.bipush (-3), 2) := by decide +kernel
theorem dX10_say_36 : decode cX10_say 36 = .ok (.ireturn, 1) := by decide +kernel
theorem dX10_say_37 : decode cX10_say 37 = .ok (.aload_n 0, 1) := by decide +kernel
theorem dX10_say_38 : decode cX10_say 38 = .ok (.invokevirtual 173, 3) := by decide +kernel
theorem dX10_say_41 : decode cX10_say 41 = .ok (.aload_n 0, 1) := by decide +kernel
theorem dX10_say_42 : decode cX10_say 42 = .ok (.aload_n 0, 1) := by decide +kernel
theorem dX10_say_43 : decode cX10_say 43 = .ok (.getfield 16, 3) := by decide +kernel
theorem dX10_say_46 : decode cX10_say 46 = .ok (.invokevirtual 166, 3) := by decide +kernel
theorem dX10_say_49 : decode cX10_say 49 = .ok (.aload_n 0, 1) := by decide +kernel
theorem dX10_say_50 : decode cX10_say 50 = .ok (.iload_n 1, 1) := by decide +kernel
theorem dX10_say_51 : decode cX10_say 51 = .ok (.iload_n 2, 1) := by decide +kernel
theorem dX10_say_52 : decode cX10_say 52 = .ok (.invokevirtual 176, 3) := by decide +kernel
theorem dX10_say_55 : decode cX10_say 55 = .ok (.istore_n 3, 1) := by decide +kernel
theorem dX10_say_56 : decode cX10_say 56 = .ok (.aload_n 0, 1) := by decide +kernel
theorem dX10_say_57 : decode cX10_say 57 = .ok (.getfield 43, 3) := by decide +kernel
theorem dX10_say_60 : decode cX10_say 60 = .ok (.iconst 0, 1) := by decide +kernel
theorem dX10_say_61 : decode cX10_say 61 = .ok (.iaload, 1) := by decide +kernel
theorem dX10_say_62 : decode cX10_say 62 = .ok (.bipush 10, 2) := by decide +kernel
theorem dX10_say_64 : decode cX10_say 64 = .ok (.if_icmp .ge 54, 3) := by decide +kernel
theorem dX10_say_67 : decode cX10_say 67 = .ok (.aload_n 0, 1) := by decide +kernel
theorem dX10_say_68 : decode cX10_say 68 = .ok (.getfield 43, 3) := by decide +kernel
theorem dX10_say_71 : decode cX10_say 71 = .ok (.iconst 0, 1) := by decide +kernel
theorem dX10_say_72 : decode cX10_say 72 = .ok (.iaload, 1) := by decide +kernel
theorem dX10_say_73 : decode cX10_say 73 = .ok (.istore 4, 2) := by decide +kernel
theorem dX10_say_75 : decode cX10_say 75 = .ok (.aload_n 0, 1) := by decide +kernel
theorem dX10_say_76 : decode cX10_say 76 = .ok (.getfield 43, 3) := by decide +kernel
theorem dX10_say_79 : decode cX10_say 79 = .ok (.bipush 32, 2) := by decide +kernel
theorem dX10_say_81 : decode cX10_say 81 = .ok (.iconst 4, 1) := by decide +kernel
theorem dX10_say_82 : decode cX10_say 82 = .ok (.iload 4, 2) := by decide +kernel
theorem dX10_say_84 : decode cX10_say 84 = .ok (.imul, 1) := by decide +kernel
theorem dX10_say_85 : decode cX10_say 85 = .ok (.iadd, 1) := by decide +kernel
theorem dX10_say_86 : decode cX10_say 86 = .ok (.aload_n 0, 1) := by decide +kernel
theorem dX10_say_87 : decode cX10_say 87 = .ok (.getfield 43, 3) := by decide +kernel
theorem dX10_say_90 : decode cX10_say 90 = .ok (.bipush 22, 2) := by decide +kernel
theorem dX10_say_92 : decode cX10_say 92 = .ok (.iload 4, 2) := by decide +kernel
theorem dX10_say_94 : decode cX10_say 94 = .ok (.iadd, 1) := by decide +kernel
theorem dX10_say_95 : decode cX10_say 95 = .ok (.iaload, 1) := by decide +kernel
theorem dX10_say_96 : decode cX10_say 96 = .ok (.iadd, 1) := by decide +kernel
theorem dX10_say_97 : decode cX10_say 97 = .ok (.bipush 8, 2) := by decide +kernel
theorem dX10_say_99 : decode cX10_say 99 = .ok (.iload_n 1, 1) := by decide +kernel
theorem dX10_say_100 : decode cX10_say 100 = .ok (.imul, 1) := by decide +kernel
theorem dX10_say_101 : decode cX10_say 101 = .ok (.iload_n 2, 1) := by decide +kernel
theorem dX10_say_102 : decode cX10_say 102 = .ok (.iadd, 1) := by decide +kernel
theorem dX10_say_103 : decode cX10_say 103 = .ok (.iastore, 1) := by decide +kernel
theorem dX10_say_104 : decode cX10_say 104 = .ok (.aload_n 0, 1) := by decide +kernel
theorem dX10_say_105 : decode cX10_say 105 = .ok (.getfield 43, 3) := by decide +kernel
theorem dX10_say_108 : decode cX10_say 108 = .ok (.bipush 22, 2) := by decide +kernel
theorem dX10_say_110 : decode cX10_say 110 = .ok (.iload 4, 2) := by decide +kernel
theorem dX10_say_112 : decode cX10_say 112 = .ok (.iadd, 1) := by decide +kernel
theorem dX10_say_113 : decode cX10_say 113 = .ok (.dup2, 1) := by decide +kernel
theorem dX10_say_114 : decode cX10_say 114 = .ok (.iaload, 1) := by decide +kernel
theorem dX10_say_115 : decode cX10_say 115 = .ok (.iconst 1, 1) := by decide +kernel
theorem dX10_say_116 : decode cX10_say 116 = .ok (.iadd, 1) := by decide +kernel
theorem dX10_say_117 : decode cX10_say 117 = .ok (.iastore, 1) := by decide +kernel
theorem dX10_say_118 : decode cX10_say 118 = .ok (.aload_n 0, 1) := by decide +kernel
theorem dX10_say_119 : decode cX10_say 119 = .ok (.getfield 43, 3) := by decide +kernel
theorem dX10_say_122 : decode cX10_say 122 = .ok (.iconst 3, 1) := by decide +kernel
theorem dX10_say_123 : decode cX10_say 123 = .ok (.dup2, 1) := by decide +kernel
theorem dX10_say_124 : decode cX10_say 124 = .ok (.iaload, 1) := by decide +kernel
theorem dX10_say_125 : decode cX10_say 125 = .ok (.iconst 1, 1) := by decide +kernel
theorem dX10_say_126 : decode cX10_say 126 = .ok (.iadd, 1) := by decide +kernel
theorem dX10_say_127 : decode cX10_say 127 = .ok (.iastore, 1) := by decide +kernel
theorem dX10_say_128 : decode cX10_say 128 = .ok (.aload_n 0, 1) := by decide +kernel
theorem dX10_say_129 : decode cX10_say 129 = .ok (.getfield 16, 3) := by decide +kernel
theorem dX10_say_132 : decode cX10_say 132 = .ok (.iconst 0, 1) := by decide +kernel
theorem dX10_say_133 : decode cX10_say 133 = .ok (.aload_n 0, 1) := by decide +kernel
theorem dX10_say_134 : decode cX10_say 134 = .ok (.getfield 43, 3) := by decide +kernel
theorem dX10_say_137 : decode cX10_say 137 = .ok (.bipush 72, 2) := by decide +kernel
theorem dX10_say_139 : decode cX10_say 139 = .ok (.invokestatic 129, 3) := by decide +kernel
theorem dX10_say_142 : decode cX10_say 142 = .ok (.iload_n 3, 1) := by decide +kernel
theorem dX10_say_143 : decode cX10_say 143 = .ok (.ifCond .eq 7, 3) := by decide +kernel
theorem dX10_say_146 : decode cX10_say 146 = .ok (.iconst 1, 1) := by decide +kernel
theorem dX10_say_147 : decode cX10_say 147 = .ok (.goto 4, 3) := by decide +kernel
theorem dX10_say_150 : decode cX10_say 150 = .ok (.iconst 0, 1) := by decide +kernel
theorem dX10_say_151 : decode cX10_say 151 = .ok (.ireturn, 1) := by decide +kernel
set_option maxRecDepth 20000 in
theorem ggX10_noon_X10_remembers : GoodIn wsX10_noon wsX10_remembers := goodIn_r _ [7, 8, 9, 1, 10, 11, 6, 12, 34, 35, 36, 37, 38, 39, 40, 41, 42, 43, 44, 45, 46, 47, 48, 49, 50, 51, 52, 53, 54, 55, 56, 57, 58] (by decide +kernel) (by decide +kernel)
set_option maxRecDepth 20000 in
theorem gX10_noon_X10_remembers : GoodIn wsX10_noon (wsV RX10 173 RX10 yX10_remembers wsX10_remembers) := goodIn_app (goodIn_of _ (by decide +kernel)) ggX10_noon_X10_remembers
set_option maxRecDepth 20000 in
theorem ggX10_noon_X10_from : GoodIn wsX10_noon wsX10_from := goodIn_r _ [16, 2, 10, 11, 6, 12, 34, 35, 36, 37, 38, 39, 40, 41, 42, 43, 44, 45, 46, 47, 48, 49, 50, 51, 52, 53, 54, 55, 56, 57, 58] (by decide +kernel) (by decide +kernel)
set_option maxRecDepth 20000 in
theorem gX10_noon_X10_from : GoodIn wsX10_noon (wsV RX10 166 RX10 yX10_from wsX10_from) := goodIn_app (goodIn_of _ (by decide +kernel)) ggX10_noon_X10_from
set_option maxRecDepth 20000 in
theorem ggX10_noon_X10_goesToNoon : GoodIn wsX10_noon wsX10_goesToNoon := goodIn_r _ [20, 2, 21, 22, 23, 24, 6, 25, 26, 27, 28, 29, 30, 31, 32, 33, 34, 35, 36, 37, 38, 39, 40, 41, 42, 43, 44, 45, 46, 47, 48, 49, 50, 51, 52, 53, 54, 55, 56, 57, 58] (by decide +kernel) (by decide +kernel)
set_option maxRecDepth 20000 in
theorem gX10_noon_X10_goesToNoon : GoodIn wsX10_noon (wsV RX10 179 RX10 yX10_goesToNoon wsX10_goesToNoon) := goodIn_app (goodIn_of _ (by decide +kernel)) ggX10_noon_X10_goesToNoon
set_option maxRecDepth 20000 in
theorem ggX10_noon_X10_put : GoodIn wsX10_noon wsX10_put := goodIn_r _ [12] (by decide +kernel) (by decide +kernel)
set_option maxRecDepth 20000 in
theorem gX10_noon_X10_put : GoodIn wsX10_noon (va_wsS RX10 129 yX10_put wsX10_put) := goodIn_app (goodIn_of _ (by decide +kernel)) ggX10_noon_X10_put
theorem dX10_noon_0 : decode cX10_noon 0 = .ok (.aload_n 0, 1) := by decide +kernel
theorem dX10_noon_1 : decode cX10_noon 1 = .ok (.getfield 16, 3) := by decide +kernel
theorem dX10_noon_4 : decode cX10_noon 4 = .ok (.iconst 0, 1) := by decide +kernel
theorem dX10_noon_5 : decode cX10_noon 5 = .ok (.iaload, 1) := by decide +kernel
theorem dX10_noon_6 : decode cX10_noon 6 = .ok (.sipush 9999, 3) := by decide +kernel
theorem dX10_noon_9 : decode cX10_noon 9 = .ok (.if_icmp .ne 6, 3) := by decide +kernel
theorem dX10_noon_12 : decode cX10_noon 12 = .ok (.bipush (-2), 2) := by decide +kernel
theorem dX10_noon_14 : decode cX10_noon 14 = .ok (.ireturn, 1) := by decide +kernel
theorem dX10_noon_15 : decode cX10_noon 15 = .ok (.aload_n 0, 1) := by decide +kernel
theorem dX10_noon_16 : decode cX10_noon 16 = .ok (.invokevirtual 173, 3) := by decide +kernel
theorem dX10_noon_19 : decode cX10_noon 19 = .ok (.aload_n 0, 1) := by decide +kernel
theorem dX10_noon_20 : decode cX10_noon 20 = .ok (.aload_n 0, 1) := by decide +kernel
theorem dX10_noon_21 : decode cX10_noon 21 = .ok (.getfield 16, 3) := by decide +kernel
theorem dX10_noon_24 : decode cX10_noon 24 = .ok (.invokevirtual 166, 3) := by decide +kernel
theorem dX10_noon_27 : decode cX10_noon 27 = .ok (.aload_n 0, 1) := by decide +kernel
theorem dX10_noon_28 : decode cX10_noon 28 = .ok (.invokevirtual 179, 3) := by decide +kernel
theorem dX10_noon_31 : decode cX10_noon 31 = .ok (.aload_n 0, 1) := by decide +kernel
theorem dX10_noon_32 : decode cX10_noon 32 = .ok (.getfield 16, 3) := by decide +kernel
theorem dX10_noon_35 : decode cX10_noon 35 = .ok (.iconst 0, 1) := by decide +kernel
theorem dX10_noon_36 : decode cX10_noon 36 = .ok (.aload_n 0, 1) := by decide +kernel
theorem dX10_noon_37 : decode cX10_noon 37 = .ok (.getfield 43, 3) := by decide +kernel
theorem dX10_noon_40 : decode cX10_noon 40 = .ok (.bipush 72, 2) := by decide +kernel
theorem dX10_noon_42 : decode cX10_noon 42 = .ok (.invokestatic 129, 3) := by decide +kernel
theorem dX10_noon_45 : decode cX10_noon 45 = .ok (.aload_n 0, 1) := by decide +kernel
theorem dX10_noon_46 : decode cX10_noon 46 = .ok (.getfield 16, 3) := by decide +kernel
theorem dX10_noon_49 : decode cX10_noon 49 = .ok (.iconst 1, 1) := by decide +kernel
theorem dX10_noon_50 : decode cX10_noon 50 = .ok (.iaload, 1) := by decide +kernel
theorem dX10_noon_51 : decode cX10_noon 51 = .ok (.ifCond .ge 8, 3) := by decide +kernel
theorem dX10_noon_54 : decode cX10_noon 54 = .ok (.bipush (-4), 2) := by decide +kernel
theorem dX10_noon_56 : decode cX10_noon 56 = .ok (.goto 9, 3) := by decide +kernel
theorem dX10_noon_59 : decode cX10_noon 59 = .ok (.aload_n 0, 1) := by decide +kernel
theorem dX10_noon_60 : decode cX10_noon 60 = .ok (.getfield 16, 3) := by decide +kernel
theorem dX10_noon_63 : decode cX10_noon 63 = .ok (.iconst 1, 1) := by decide +kernel
theorem dX10_noon_64 : decode cX10_noon 64 = .ok (.iaload, 1) := by decide +kernel
theorem dX10_noon_65 : decode cX10_noon 65 = .ok (.ireturn, 1) := by decide +kernel
set_option maxRecDepth 20000 in
theorem ggX10_mend_X10_in : GoodIn wsX10_mend wsX10_in := goodIn_r _ [5] (by decide +kernel) (by decide +kernel)
set_option maxRecDepth 20000 in
theorem gX10_mend_X10_in : GoodIn wsX10_mend (va_wsS RX10 79 yX10_in wsX10_in) := goodIn_app (goodIn_of _ (by decide +kernel)) ggX10_mend_X10_in
set_option maxRecDepth 20000 in
theorem ggX10_mend_X10_remembers : GoodIn wsX10_mend wsX10_remembers := goodIn_r _ [9, 10, 11, 1, 12, 13, 4, 14, 15, 16, 17, 18, 19, 20, 21, 22, 23, 24, 25, 26, 27, 28, 29, 30, 31, 32, 33, 34, 35, 36, 37, 38, 39] (by decide +kernel) (by decide +kernel)
set_option maxRecDepth 20000 in
theorem gX10_mend_X10_remembers : GoodIn wsX10_mend (wsV RX10 173 RX10 yX10_remembers wsX10_remembers) := goodIn_app (goodIn_of _ (by decide +kernel)) ggX10_mend_X10_remembers
theorem dX10_mend_0 : decode cX10_mend 0 = .ok (.iload_n 1, 1) := by decide +kernel
theorem dX10_mend_1 : decode cX10_mend 1 = .ok (.iconst 0, 1) := by decide +kernel
theorem dX10_mend_2 : decode cX10_mend 2 = .ok (.bipush 63, 2) := by decide +kernel
theorem dX10_mend_4 : decode cX10_mend 4 = .ok (.invokestatic 79, 3) := by decide +kernel
theorem dX10_mend_7 : decode cX10_mend 7 = .ok (.ifCond .ne 5, 3) := by decide +kernel
theorem dX10_mend_10 : decode cX10_mend 10 = .ok (.iconst (-1), 1) := by decide +kernel
theorem dX10_mend_11 : decode cX10_mend 11 = .ok (.ireturn, 1) := by decide +kernel
theorem dX10_mend_12 : decode cX10_mend 12 = .ok (.aload_n 0, 1) := by decide +kernel
theorem dX10_mend_13 : decode cX10_mend 13 = .ok (.invokevirtual 173, 3) := by decide +kernel
theorem dX10_mend_16 : decode cX10_mend 16 = .ok (.aload_n 0, 1) := by decide +kernel
theorem dX10_mend_17 : decode cX10_mend 17 = .ok (.getfield 16, 3) := by decide +kernel
theorem dX10_mend_20 : decode cX10_mend 20 = .ok (.iconst 2, 1) := by decide +kernel
theorem dX10_mend_21 : decode cX10_mend 21 = .ok (.iaload, 1) := by decide +kernel
theorem dX10_mend_22 : decode cX10_mend 22 = .ok (.istore_n 2, 1) := by decide +kernel
theorem dX10_mend_23 : decode cX10_mend 23 = .ok (.aload_n 0, 1) := by decide +kernel
theorem dX10_mend_24 : decode cX10_mend 24 = .ok (.getfield 16, 3) := by decide +kernel
theorem dX10_mend_27 : decode cX10_mend 27 = .ok (.iconst 2, 1) := by decide +kernel
theorem dX10_mend_28 : decode cX10_mend 28 = .ok (.iload_n 1, 1) := by decide +kernel
theorem dX10_mend_29 : decode cX10_mend 29 = .ok (.iastore, 1) := by decide +kernel
theorem dX10_mend_30 : decode cX10_mend 30 = .ok (.iload_n 2, 1) := by decide +kernel
theorem dX10_mend_31 : decode cX10_mend 31 = .ok (.ireturn, 1) := by decide +kernel
theorem dX10_undo_0 : decode cX10_undo 0 = .ok (.aload_n 0, 1) := by decide +kernel
theorem dX10_undo_1 : decode cX10_undo 1 = .ok (.getfield 133, 3) := by decide +kernel
theorem dX10_undo_4 : decode cX10_undo 4 = .ok (.ifCond .ne 6, 3) := by decide +kernel
theorem dX10_undo_7 : decode cX10_undo 7 = .ok (.bipush (-2), 2) := by decide +kernel
theorem dX10_undo_9 : decode cX10_undo 9 = .ok (.ireturn, 1) := by decide +kernel
theorem dX10_undo_10 : decode cX10_undo 10 = .ok (.aload_n 0, 1) := by decide +kernel
theorem dX10_undo_11 : decode cX10_undo 11 = .ok (.dup, 1) := by decide +kernel
theorem dX10_undo_12 : decode cX10_undo 12 = .ok (.getfield 133, 3) := by decide +kernel
theorem dX10_undo_15 : decode cX10_undo 15 = .ok (.iconst 1, 1) := by decide +kernel
theorem dX10_undo_16 : decode cX10_undo 16 = .ok (.isub, 1) := by decide +kernel
theorem dX10_undo_17 : decode cX10_undo 17 = .ok (.putfield 133, 3) := by decide +kernel
theorem dX10_undo_20 : decode cX10_undo 20 = .ok (.iconst 0, 1) := by decide +kernel
theorem dX10_undo_21 : decode cX10_undo 21 = .ok (.istore_n 1, 1) := by decide +kernel
theorem dX10_undo_22 : decode cX10_undo 22 = .ok (.iload_n 1, 1) := by decide +kernel
theorem dX10_undo_23 : decode cX10_undo 23 = .ok (.bipush 72, 2) := by decide +kernel
theorem dX10_undo_25 : decode cX10_undo 25 = .ok (.if_icmp .ge 29, 3) := by decide +kernel
theorem dX10_undo_28 : decode cX10_undo 28 = .ok (.aload_n 0, 1) := by decide +kernel
theorem dX10_undo_29 : decode cX10_undo 29 = .ok (.getfield 16, 3) := by decide +kernel
theorem dX10_undo_32 : decode cX10_undo 32 = .ok (.iload_n 1, 1) := by decide +kernel
theorem dX10_undo_33 : decode cX10_undo 33 = .ok (.aload_n 0, 1) := by decide +kernel
theorem dX10_undo_34 : decode cX10_undo 34 = .ok (.getfield 22, 3) := by decide +kernel
theorem dX10_undo_37 : decode cX10_undo 37 = .ok (.bipush 72, 2) := by decide +kernel
theorem dX10_undo_39 : decode cX10_undo 39 = .ok (.aload_n 0, 1) := by decide +kernel
theorem dX10_undo_40 : decode cX10_undo 40 = .ok (.getfield 133, 3) := by decide +kernel
theorem dX10_undo_43 : decode cX10_undo 43 = .ok (.imul, 1) := by decide +kernel
theorem dX10_undo_44 : decode cX10_undo 44 = .ok (.iload_n 1, 1) := by decide +kernel
theorem dX10_undo_45 : decode cX10_undo 45 = .ok (.iadd, 1) := by decide +kernel
theorem dX10_undo_46 : decode cX10_undo 46 = .ok (.iaload, 1) := by decide +kernel
theorem dX10_undo_47 : decode cX10_undo 47 = .ok (.iastore, 1) := by decide +kernel
theorem dX10_undo_48 : decode cX10_undo 48 = .ok (.iinc 1 1, 3) := by decide +kernel
theorem dX10_undo_51 : decode cX10_undo 51 = .ok (.goto (-29), 3) := by decide +kernel
theorem dX10_undo_54 : decode cX10_undo 54 = .ok (.aload_n 0, 1) := by decide +kernel
theorem dX10_undo_55 : decode cX10_undo 55 = .ok (.getfield 133, 3) := by decide +kernel
theorem dX10_undo_58 : decode cX10_undo 58 = .ok (.ireturn, 1) := by decide +kernel
set_option maxRecDepth 20000 in
theorem ggX10_heir_X10_isRelative : GoodIn wsX10_heir wsX10_isRelative := goodIn_r _ [6, 7, 8, 9, 5, 10, 27, 28, 29, 30, 31, 32, 33, 34, 35, 36, 37, 38, 39, 40, 41, 42, 43, 44, 45, 46, 47, 48, 49, 50, 51] (by decide +kernel) (by decide +kernel)
set_option maxRecDepth 20000 in
theorem gX10_heir_X10_isRelative : GoodIn wsX10_heir (wsV RX10 163 RX10 yX10_isRelative wsX10_isRelative) := goodIn_app (goodIn_of _ (by decide +kernel)) ggX10_heir_X10_isRelative
set_option maxRecDepth 20000 in
theorem ggX10_heir_X10_from : GoodIn wsX10_heir wsX10_from := goodIn_r _ [14, 15, 16, 17, 5, 18, 27, 28, 29, 30, 31, 32, 33, 34, 35, 36, 37, 38, 39, 40, 41, 42, 43, 44, 45, 46, 47, 48, 49, 50, 51] (by decide +kernel) (by decide +kernel)
set_option maxRecDepth 20000 in
theorem gX10_heir_X10_from : GoodIn wsX10_heir (wsV RX10 166 RX10 yX10_from wsX10_from) := goodIn_app (goodIn_of _ (by decide +kernel)) ggX10_heir_X10_from
set_option maxRecDepth 20000 in
theorem ggX10_heir_X10_heirBy : GoodIn wsX10_heir wsX10_heirBy := goodIn_r _ [22, 7, 23, 24, 25, 5, 26, 15, 27, 28, 29, 30, 31, 32, 33, 34, 35, 36, 37, 38, 39, 40, 41, 42, 43, 44, 45, 46, 47, 48, 49, 50, 51] (by decide +kernel) (by decide +kernel)
set_option maxRecDepth 20000 in
theorem gX10_heir_X10_heirBy : GoodIn wsX10_heir (wsV RX10 152 RX10 yX10_heirBy wsX10_heirBy) := goodIn_app (goodIn_of _ (by decide +kernel)) ggX10_heir_X10_heirBy
theorem dX10_heir_0 : decode cX10_heir 0 = .ok (.aload_n 0, 1) := by decide +kernel
theorem dX10_heir_1 : decode cX10_heir 1 = .ok (.iload_n 1, 1) := by decide +kernel
theorem dX10_heir_2 : decode cX10_heir 2 = .ok (.invokevirtual 163, 3) := by decide +kernel
theorem dX10_heir_5 : decode cX10_heir 5 = .ok (.ifCond .ne 5, 3) := by decide +kernel
theorem dX10_heir_8 : decode cX10_heir 8 = .ok (.iconst (-1), 1) := by decide +kernel
theorem dX10_heir_9 : decode cX10_heir 9 = .ok (.ireturn, 1) := by decide +kernel
theorem dX10_heir_10 : decode cX10_heir 10 = .ok (.aload_n 0, 1) := by decide +kernel
theorem dX10_heir_11 : decode cX10_heir 11 = .ok (.aload_n 0, 1) := by decide +kernel
theorem dX10_heir_12 : decode cX10_heir 12 = .ok (.getfield 16, 3) := by decide +kernel
theorem dX10_heir_15 : decode cX10_heir 15 = .ok (.invokevirtual 166, 3) := by decide +kernel
theorem dX10_heir_18 : decode cX10_heir 18 = .ok (.aload_n 0, 1) := by decide +kernel
theorem dX10_heir_19 : decode cX10_heir 19 = .ok (.iconst 1, 1) := by decide +kernel
theorem dX10_heir_20 : decode cX10_heir 20 = .ok (.iload_n 1, 1) := by decide +kernel
theorem dX10_heir_21 : decode cX10_heir 21 = .ok (.ishl, 1) := by decide +kernel
theorem dX10_heir_22 : decode cX10_heir 22 = .ok (.invokevirtual 152, 3) := by decide +kernel
theorem dX10_heir_25 : decode cX10_heir 25 = .ok (.ireturn, 1) := by decide +kernel
set_option maxRecDepth 20000 in
theorem ggX10_among_X10_from : GoodIn wsX10_among wsX10_from := goodIn_r _ [7, 8, 9, 10, 6, 11, 20, 21, 22, 23, 24, 25, 26, 27, 28, 29, 30, 31, 32, 33, 34, 35, 36, 37, 38, 39, 40, 41, 42, 43, 44] (by decide +kernel) (by decide +kernel)
set_option maxRecDepth 20000 in
theorem gX10_among_X10_from : GoodIn wsX10_among (wsV RX10 166 RX10 yX10_from wsX10_from) := goodIn_app (goodIn_of _ (by decide +kernel)) ggX10_among_X10_from
set_option maxRecDepth 20000 in
theorem ggX10_among_X10_heirBy : GoodIn wsX10_among wsX10_heirBy := goodIn_r _ [15, 2, 16, 17, 18, 6, 19, 8, 20, 21, 22, 23, 24, 25, 26, 27, 28, 29, 30, 31, 32, 33, 34, 35, 36, 37, 38, 39, 40, 41, 42, 43, 44] (by decide +kernel) (by decide +kernel)
set_option maxRecDepth 20000 in
theorem gX10_among_X10_heirBy : GoodIn wsX10_among (wsV RX10 152 RX10 yX10_heirBy wsX10_heirBy) := goodIn_app (goodIn_of _ (by decide +kernel)) ggX10_among_X10_heirBy
theorem dX10_among_0 : decode cX10_among 0 = .ok (.aload_n 0, 1) := by decide +kernel
theorem dX10_among_1 : decode cX10_among 1 = .ok (.aload_n 0, 1) := by decide +kernel
theorem dX10_among_2 : decode cX10_among 2 = .ok (.getfield 16, 3) := by decide +kernel
theorem dX10_among_5 : decode cX10_among 5 = .ok (.invokevirtual 166, 3) := by decide +kernel
theorem dX10_among_8 : decode cX10_among 8 = .ok (.iconst 0, 1) := by decide +kernel
theorem dX10_among_9 : decode cX10_among 9 = .ok (.istore_n 1, 1) := by decide +kernel
theorem dX10_among_10 : decode cX10_among 10 = .ok (.iconst 0, 1) := by decide +kernel
theorem dX10_among_11 : decode cX10_among 11 = .ok (.istore_n 2, 1) := by decide +kernel
theorem dX10_among_12 : decode cX10_among 12 = .ok (.iload_n 2, 1) := by decide +kernel
theorem dX10_among_13 : decode cX10_among 13 = .ok (.aload_n 0, 1) := by decide +kernel
theorem dX10_among_14 : decode cX10_among 14 = .ok (.getfield 76, 3) := by decide +kernel
theorem dX10_among_17 : decode cX10_among 17 = .ok (.if_icmp .ge 21, 3) := by decide +kernel
theorem dX10_among_20 : decode cX10_among 20 = .ok (.iload_n 1, 1) := by decide +kernel
theorem dX10_among_21 : decode cX10_among 21 = .ok (.iconst 1, 1) := by decide +kernel
theorem dX10_among_22 : decode cX10_among 22 = .ok (.aload_n 0, 1) := by decide +kernel
theorem dX10_among_23 : decode cX10_among 23 = .ok (.iconst 1, 1) := by decide +kernel
theorem dX10_among_24 : decode cX10_among 24 = .ok (.iload_n 2, 1) := by decide +kernel
theorem dX10_among_25 : decode cX10_among 25 = .ok (.ishl, 1) := by decide +kernel
theorem dX10_among_26 : decode cX10_among 26 = .ok (.invokevirtual 152, 3) := by decide +kernel
theorem dX10_among_29 : decode cX10_among 29 = .ok (.ishl, 1) := by decide +kernel
theorem dX10_among_30 : decode cX10_among 30 = .ok (.ior, 1) := by decide +kernel
theorem dX10_among_31 : decode cX10_among 31 = .ok (.istore_n 1, 1) := by decide +kernel
theorem dX10_among_32 : decode cX10_among 32 = .ok (.iinc 2 1, 3) := by decide +kernel
theorem dX10_among_35 : decode cX10_among 35 = .ok (.goto (-23), 3) := by decide +kernel
theorem dX10_among_38 : decode cX10_among 38 = .ok (.iload_n 1, 1) := by decide +kernel
theorem dX10_among_39 : decode cX10_among 39 = .ok (.ireturn, 1) := by decide +kernel
set_option maxRecDepth 20000 in
theorem ggX10_thinks_X10_isRelative : GoodIn wsX10_thinks wsX10_isRelative := goodIn_r _ [7, 2, 8, 9, 6, 10, 28, 29, 30, 31, 32, 33, 34, 35, 36, 37, 38, 39, 40, 41, 42, 43, 44, 45, 46, 47, 48, 49, 50, 51, 52] (by decide +kernel) (by decide +kernel)
set_option maxRecDepth 20000 in
theorem gX10_thinks_X10_isRelative : GoodIn wsX10_thinks (wsV RX10 163 RX10 yX10_isRelative wsX10_isRelative) := goodIn_app (goodIn_of _ (by decide +kernel)) ggX10_thinks_X10_isRelative
set_option maxRecDepth 20000 in
theorem ggX10_thinks_X10_from : GoodIn wsX10_thinks wsX10_from := goodIn_r _ [14, 15, 16, 17, 6, 18, 28, 29, 30, 31, 32, 33, 34, 35, 36, 37, 38, 39, 40, 41, 42, 43, 44, 45, 46, 47, 48, 49, 50, 51, 52] (by decide +kernel) (by decide +kernel)
set_option maxRecDepth 20000 in
theorem gX10_thinks_X10_from : GoodIn wsX10_thinks (wsV RX10 166 RX10 yX10_from wsX10_from) := goodIn_app (goodIn_of _ (by decide +kernel)) ggX10_thinks_X10_from
set_option maxRecDepth 20000 in
theorem ggX10_thinks_X10_knowsOf : GoodIn wsX10_thinks wsX10_knowsOf := goodIn_r _ [22, 23, 24, 25, 26, 6, 27, 15, 28, 29, 30, 31, 32, 33, 34, 35, 36, 37, 38, 39, 40, 41, 42, 43, 44, 45, 46, 47, 48, 49, 50, 51, 52] (by decide +kernel) (by decide +kernel)
set_option maxRecDepth 20000 in
theorem gX10_thinks_X10_knowsOf : GoodIn wsX10_thinks (wsV RX10 170 RX10 yX10_knowsOf wsX10_knowsOf) := goodIn_app (goodIn_of _ (by decide +kernel)) ggX10_thinks_X10_knowsOf
theorem dX10_thinks_0 : decode cX10_thinks 0 = .ok (.aload_n 0, 1) := by decide +kernel
theorem dX10_thinks_1 : decode cX10_thinks 1 = .ok (.iload_n 1, 1) := by decide +kernel
theorem dX10_thinks_2 : decode cX10_thinks 2 = .ok (.invokevirtual 163, 3) := by decide +kernel
theorem dX10_thinks_5 : decode cX10_thinks 5 = .ok (.ifCond .ne 5, 3) := by decide +kernel
theorem dX10_thinks_8 : decode cX10_thinks 8 = .ok (.iconst (-1), 1) := by decide +kernel
theorem dX10_thinks_9 : decode cX10_thinks 9 = .ok (.ireturn, 1) := by decide +kernel
theorem dX10_thinks_10 : decode cX10_thinks 10 = .ok (.aload_n 0, 1) := by decide +kernel
theorem dX10_thinks_11 : decode cX10_thinks 11 = .ok (.aload_n 0, 1) := by decide +kernel
theorem dX10_thinks_12 : decode cX10_thinks 12 = .ok (.getfield 16, 3) := by decide +kernel
theorem dX10_thinks_15 : decode cX10_thinks 15 = .ok (.invokevirtual 166, 3) := by decide +kernel
theorem dX10_thinks_18 : decode cX10_thinks 18 = .ok (.iconst 0, 1) := by decide +kernel
theorem dX10_thinks_19 : decode cX10_thinks 19 = .ok (.istore_n 2, 1) := by decide +kernel
theorem dX10_thinks_20 : decode cX10_thinks 20 = .ok (.iconst 1, 1) := by decide +kernel
theorem dX10_thinks_21 : decode cX10_thinks 21 = .ok (.istore_n 3, 1) := by decide +kernel
theorem dX10_thinks_22 : decode cX10_thinks 22 = .ok (.iload_n 3, 1) := by decide +kernel
theorem dX10_thinks_23 : decode cX10_thinks 23 = .ok (.aload_n 0, 1) := by decide +kernel
theorem dX10_thinks_24 : decode cX10_thinks 24 = .ok (.getfield 76, 3) := by decide +kernel
theorem dX10_thinks_27 : decode cX10_thinks 27 = .ok (.if_icmp .ge 30, 3) := by decide +kernel
theorem dX10_thinks_30 : decode cX10_thinks 30 = .ok (.aload_n 0, 1) := by decide +kernel
theorem dX10_thinks_31 : decode cX10_thinks 31 = .ok (.iload_n 1, 1) := by decide +kernel
theorem dX10_thinks_32 : decode cX10_thinks 32 = .ok (.iload_n 3, 1) := by decide +kernel
theorem dX10_thinks_33 : decode cX10_thinks 33 = .ok (.invokevirtual 170, 3) := by decide +kernel
theorem dX10_thinks_36 : decode cX10_thinks 36 = .ok (.aload_n 0, 1) := by decide +kernel
theorem dX10_thinks_37 : decode cX10_thinks 37 = .ok (.iload_n 1, 1) := by decide +kernel
theorem dX10_thinks_38 : decode cX10_thinks 38 = .ok (.iload_n 2, 1) := by decide +kernel
theorem dX10_thinks_39 : decode cX10_thinks 39 = .ok (.invokevirtual 170, 3) := by decide +kernel
theorem dX10_thinks_42 : decode cX10_thinks 42 = .ok (.if_icmp .le 7, 3) := by decide +kernel
theorem dX10_thinks_45 : decode cX10_thinks 45 = .ok (.iload_n 3, 1) := by decide +kernel
theorem dX10_thinks_46 : decode cX10_thinks 46 = .ok (.goto 4, 3) := by decide +kernel
theorem dX10_thinks_49 : decode cX10_thinks 49 = .ok (.iload_n 2, 1) := by decide +kernel
theorem dX10_thinks_50 : decode cX10_thinks 50 = .ok (.istore_n 2, 1) := by decide +kernel
theorem dX10_thinks_51 : decode cX10_thinks 51 = .ok (.iinc 3 1, 3) := by decide +kernel
theorem dX10_thinks_54 : decode cX10_thinks 54 = .ok (.goto (-32), 3) := by decide +kernel
theorem dX10_thinks_57 : decode cX10_thinks 57 = .ok (.iload_n 2, 1) := by decide +kernel
theorem dX10_thinks_58 : decode cX10_thinks 58 = .ok (.ireturn, 1) := by decide +kernel
set_option maxRecDepth 20000 in
theorem ggX10_make_X10_isRelative : GoodIn wsX10_make wsX10_isRelative := goodIn_r _ [7, 2, 8, 9, 6, 10, 34, 35, 36, 37, 38, 39, 40, 41, 42, 43, 44, 45, 46, 47, 48, 49, 50, 51, 52, 53, 54, 55, 56, 57, 58] (by decide +kernel) (by decide +kernel)
set_option maxRecDepth 20000 in
theorem gX10_make_X10_isRelative : GoodIn wsX10_make (wsV RX10 163 RX10 yX10_isRelative wsX10_isRelative) := goodIn_app (goodIn_of _ (by decide +kernel)) ggX10_make_X10_isRelative
set_option maxRecDepth 20000 in
theorem ggX10_make_X10_from : GoodIn wsX10_make wsX10_from := goodIn_r _ [14, 15, 16, 17, 6, 18, 34, 35, 36, 37, 38, 39, 40, 41, 42, 43, 44, 45, 46, 47, 48, 49, 50, 51, 52, 53, 54, 55, 56, 57, 58] (by decide +kernel) (by decide +kernel)
set_option maxRecDepth 20000 in
theorem gX10_make_X10_from : GoodIn wsX10_make (wsV RX10 166 RX10 yX10_from wsX10_from) := goodIn_app (goodIn_of _ (by decide +kernel)) ggX10_make_X10_from
set_option maxRecDepth 20000 in
theorem ggX10_make_X10_askedToday : GoodIn wsX10_make wsX10_askedToday := goodIn_r _ [22, 2, 15, 34, 35, 36, 37, 38, 39, 40, 41, 42, 43, 44, 45, 46, 47, 48, 49, 50, 51, 52, 53, 54, 55, 56, 57, 58] (by decide +kernel) (by decide +kernel)
set_option maxRecDepth 20000 in
theorem gX10_make_X10_askedToday : GoodIn wsX10_make (wsV RX10 149 RX10 yX10_askedToday wsX10_askedToday) := goodIn_app (goodIn_of _ (by decide +kernel)) ggX10_make_X10_askedToday
set_option maxRecDepth 20000 in
theorem ggX10_make_X10_heirBy : GoodIn wsX10_make wsX10_heirBy := goodIn_r _ [26, 2, 27, 28, 29, 6, 30, 15, 34, 35, 36, 37, 38, 39, 40, 41, 42, 43, 44, 45, 46, 47, 48, 49, 50, 51, 52, 53, 54, 55, 56, 57, 58] (by decide +kernel) (by decide +kernel)
set_option maxRecDepth 20000 in
theorem gX10_make_X10_heirBy : GoodIn wsX10_make (wsV RX10 152 RX10 yX10_heirBy wsX10_heirBy) := goodIn_app (goodIn_of _ (by decide +kernel)) ggX10_make_X10_heirBy
set_option maxRecDepth 20000 in
theorem ggX10_make_X10_bits : GoodIn wsX10_make wsX10_bits := goodIn_r _ [33] (by decide +kernel) (by decide +kernel)
set_option maxRecDepth 20000 in
theorem gX10_make_X10_bits : GoodIn wsX10_make (va_wsS RX10 142 yX10_bits wsX10_bits) := goodIn_app (goodIn_of _ (by decide +kernel)) ggX10_make_X10_bits
theorem dX10_make_0 : decode cX10_make 0 = .ok (.aload_n 0, 1) := by decide +kernel
theorem dX10_make_1 : decode cX10_make 1 = .ok (.iload_n 1, 1) := by decide +kernel
theorem dX10_make_2 : decode cX10_make 2 = .ok (.invokevirtual 163, 3) := by decide +kernel
theorem dX10_make_5 : decode cX10_make 5 = .ok (.ifCond .ne 5, 3) := by decide +kernel
theorem dX10_make_8 : decode cX10_make 8 = .ok (.iconst (-1), 1) := by decide +kernel
theorem dX10_make_9 : decode cX10_make 9 = .ok (.ireturn, 1) := by decide +kernel
theorem dX10_make_10 : decode cX10_make 10 = .ok (.aload_n 0, 1) := by decide +kernel
theorem dX10_make_11 : decode cX10_make 11 = .ok (.aload_n 0, 1) := by decide +kernel
theorem dX10_make_12 : decode cX10_make 12 = .ok (.getfield 16, 3) := by decide +kernel
theorem dX10_make_15 : decode cX10_make 15 = .ok (.invokevirtual 166, 3) := by decide +kernel
theorem dX10_make_18 : decode cX10_make 18 = .ok (.aload_n 0, 1) := by decide +kernel
theorem dX10_make_19 : decode cX10_make 19 = .ok (.invokevirtual 149, 3) := by decide +kernel
theorem dX10_make_22 : decode cX10_make 22 = .ok (.istore_n 2, 1) := by decide +kernel
theorem dX10_make_23 : decode cX10_make 23 = .ok (.bipush (-4), 2) := by decide +kernel
theorem dX10_make_25 : decode cX10_make 25 = .ok (.istore_n 3, 1) := by decide +kernel
theorem dX10_make_26 : decode cX10_make 26 = .ok (.iconst 0, 1) := by decide +kernel
theorem dX10_make_27 : decode cX10_make 27 = .ok (.istore 4, 2) := by decide +kernel
theorem dX10_make_29 : decode cX10_make 29 = .ok (.iload 4, 2) := by decide +kernel
theorem dX10_make_31 : decode cX10_make 31 = .ok (.iconst 1, 1) := by decide +kernel
theorem dX10_make_32 : decode cX10_make 32 = .ok (.aload_n 0, 1) := by decide +kernel
theorem dX10_make_33 : decode cX10_make 33 = .ok (.getfield 76, 3) := by decide +kernel
theorem dX10_make_36 : decode cX10_make 36 = .ok (.ishl, 1) := by decide +kernel
theorem dX10_make_37 : decode cX10_make 37 = .ok (.if_icmp .ge 61, 3) := by decide +kernel
theorem dX10_make_40 : decode cX10_make 40 = .ok (.iload 4, 2) := by decide +kernel
theorem dX10_make_42 : decode cX10_make 42 = .ok (.iload_n 2, 1) := by decide +kernel
theorem dX10_make_43 : decode cX10_make 43 = .ok (.ior, 1) := by decide +kernel
theorem dX10_make_44 : decode cX10_make 44 = .ok (.ifCond .eq 17, 3) := by decide +kernel
theorem dX10_make_47 : decode cX10_make 47 = .ok (.aload_n 0, 1) := by decide +kernel
theorem dX10_make_48 : decode cX10_make 48 = .ok (.iload 4, 2) := by decide +kernel
theorem dX10_make_50 : decode cX10_make 50 = .ok (.invokevirtual 152, 3) := by decide +kernel
theorem dX10_make_53 : decode cX10_make 53 = .ok (.iload_n 1, 1) := by decide +kernel
theorem dX10_make_54 : decode cX10_make 54 = .ok (.if_icmp .ne 7, 3) := by decide +kernel
theorem dX10_make_57 : decode cX10_make 57 = .ok (.iconst 1, 1) := by decide +kernel
theorem dX10_make_58 : decode cX10_make 58 = .ok (.goto 4, 3) := by decide +kernel
theorem dX10_make_61 : decode cX10_make 61 = .ok (.iconst 0, 1) := by decide +kernel
theorem dX10_make_62 : decode cX10_make 62 = .ok (.istore 5, 2) := by decide +kernel
theorem dX10_make_64 : decode cX10_make 64 = .ok (.iload 5, 2) := by decide +kernel
theorem dX10_make_66 : decode cX10_make 66 = .ok (.ifCond .eq 24, 3) := by decide +kernel
theorem dX10_make_69 : decode cX10_make 69 = .ok (.iload_n 3, 1) := by decide +kernel
theorem dX10_make_70 : decode cX10_make 70 = .ok (.ifCond .lt 15, 3) := by decide +kernel
theorem dX10_make_73 : decode cX10_make 73 = .ok (.iload 4, 2) := by decide +kernel
theorem dX10_make_75 : decode cX10_make 75 = .ok (.invokestatic 142, 3) := by decide +kernel
theorem dX10_make_78 : decode cX10_make 78 = .ok (.iload_n 3, 1) := by decide +kernel
theorem dX10_make_79 : decode cX10_make 79 = .ok (.invokestatic 142, 3) := by decide +kernel
theorem dX10_make_82 : decode cX10_make 82 = .ok (.if_icmp .ge 8, 3) := by decide +kernel
theorem dX10_make_85 : decode cX10_make 85 = .ok (.iload 4, 2) := by decide +kernel
theorem dX10_make_87 : decode cX10_make 87 = .ok (.goto 4, 3) := by decide +kernel
theorem dX10_make_90 : decode cX10_make 90 = .ok (.iload_n 3, 1) := by decide +kernel
theorem dX10_make_91 : decode cX10_make 91 = .ok (.istore_n 3, 1) := by decide +kernel
theorem dX10_make_92 : decode cX10_make 92 = .ok (.iinc 4 1, 3) := by decide +kernel
theorem dX10_make_95 : decode cX10_make 95 = .ok (.goto (-66), 3) := by decide +kernel
theorem dX10_make_98 : decode cX10_make 98 = .ok (.iload_n 3, 1) := by decide +kernel
theorem dX10_make_99 : decode cX10_make 99 = .ok (.ireturn, 1) := by decide +kernel
theorem dX10_ranked_0 : decode cX10_ranked 0 = .ok (.iload_n 1, 1) := by decide +kernel
theorem dX10_ranked_1 : decode cX10_ranked 1 = .ok (.iload_n 0, 1) := by decide +kernel
theorem dX10_ranked_2 : decode cX10_ranked 2 = .ok (.if_icmp .ne 7, 3) := by decide +kernel
theorem dX10_ranked_5 : decode cX10_ranked 5 = .ok (.iconst 2, 1) := by decide +kernel
theorem dX10_ranked_6 : decode cX10_ranked 6 = .ok (.goto 17, 3) := by decide +kernel
theorem dX10_ranked_9 : decode cX10_ranked 9 = .ok (.iload_n 1, 1) := by decide +kernel
theorem dX10_ranked_10 : decode cX10_ranked 10 = .ok (.ifCond .lt 8, 3) := by decide +kernel
theorem dX10_ranked_13 : decode cX10_ranked 13 = .ok (.iload_n 1, 1) := by decide +kernel
theorem dX10_ranked_14 : decode cX10_ranked 14 = .ok (.iload_n 0, 1) := by decide +kernel
theorem dX10_ranked_15 : decode cX10_ranked 15 = .ok (.if_icmp .le 7, 3) := by decide +kernel
theorem dX10_ranked_18 : decode cX10_ranked 18 = .ok (.iconst 1, 1) := by decide +kernel
theorem dX10_ranked_19 : decode cX10_ranked 19 = .ok (.goto 4, 3) := by decide +kernel
theorem dX10_ranked_22 : decode cX10_ranked 22 = .ok (.iconst 0, 1) := by decide +kernel
theorem dX10_ranked_23 : decode cX10_ranked 23 = .ok (.ireturn, 1) := by decide +kernel
set_option maxRecDepth 20000 in
theorem ggX10_byTurns_X10_in : GoodIn wsX10_byTurns wsX10_in := goodIn_r _ [8] (by decide +kernel) (by decide +kernel)
set_option maxRecDepth 20000 in
theorem gX10_byTurns_X10_in : GoodIn wsX10_byTurns (va_wsS RX10 79 yX10_in wsX10_in) := goodIn_app (goodIn_of _ (by decide +kernel)) ggX10_byTurns_X10_in
set_option maxRecDepth 20000 in
theorem ggX10_byTurns_X10_from : GoodIn wsX10_byTurns wsX10_from := goodIn_r _ [12, 4, 13, 14, 7, 15, 39, 40, 41, 42, 43, 44, 45, 46, 47, 48, 49, 50, 51, 52, 53, 54, 55, 56, 57, 58, 59, 60, 61, 62, 63] (by decide +kernel) (by decide +kernel)
set_option maxRecDepth 20000 in
theorem gX10_byTurns_X10_from : GoodIn wsX10_byTurns (wsV RX10 166 RX10 yX10_from wsX10_from) := goodIn_app (goodIn_of _ (by decide +kernel)) ggX10_byTurns_X10_from
set_option maxRecDepth 20000 in
theorem ggX10_byTurns_X10_asks : GoodIn wsX10_byTurns wsX10_asks := goodIn_r _ [19, 4, 39, 40, 41, 42, 43, 44, 45, 46, 47, 48, 49, 50, 51, 52, 53, 54, 55, 56, 57, 58, 59, 60, 61, 62, 63] (by decide +kernel) (by decide +kernel)
set_option maxRecDepth 20000 in
theorem gX10_byTurns_X10_asks : GoodIn wsX10_byTurns (wsV RX10 159 RX10 yX10_asks wsX10_asks) := goodIn_app (goodIn_of _ (by decide +kernel)) ggX10_byTurns_X10_asks
set_option maxRecDepth 20000 in
theorem ggX10_byTurns_X10_goesToNoon : GoodIn wsX10_byTurns wsX10_goesToNoon := goodIn_r _ [23, 4, 2, 24, 25, 26, 7, 27, 28, 29, 30, 31, 32, 33, 34, 35, 39, 40, 41, 42, 43, 44, 45, 46, 47, 48, 49, 50, 51, 52, 53, 54, 55, 56, 57, 58, 59, 60, 61, 62, 63] (by decide +kernel) (by decide +kernel)
set_option maxRecDepth 20000 in
theorem gX10_byTurns_X10_goesToNoon : GoodIn wsX10_byTurns (wsV RX10 179 RX10 yX10_goesToNoon wsX10_goesToNoon) := goodIn_app (goodIn_of _ (by decide +kernel)) ggX10_byTurns_X10_goesToNoon
set_option maxRecDepth 20000 in
theorem ggX10_byTurns_X10_ranked : GoodIn wsX10_byTurns wsX10_ranked := goodIn_r _ [38] (by decide +kernel) (by decide +kernel)
set_option maxRecDepth 20000 in
theorem gX10_byTurns_X10_ranked : GoodIn wsX10_byTurns (va_wsS RX10 182 yX10_ranked wsX10_ranked) := goodIn_app (goodIn_of _ (by decide +kernel)) ggX10_byTurns_X10_ranked
theorem dX10_byTurns_0 : decode cX10_byTurns 0 = .ok (.iload_n 1, 1) := by decide +kernel
theorem dX10_byTurns_1 : decode cX10_byTurns 1 = .ok (.iconst 1, 1) := by decide +kernel
theorem dX10_byTurns_2 : decode cX10_byTurns 2 = .ok (.bipush 6, 2) := by decide +kernel
theorem dX10_byTurns_4 : decode cX10_byTurns 4 = .ok (.invokestatic 79, 3) := by decide +kernel
theorem dX10_byTurns_7 : decode cX10_byTurns 7 = .ok (.ifCond .eq 12, 3) := by decide +kernel
theorem dX10_byTurns_10 : decode cX10_byTurns 10 = .ok (.iload_n 2, 1) := by decide +kernel
theorem dX10_byTurns_11 : decode cX10_byTurns 11 = .ok (.iconst 0, 1) := by decide +kernel
theorem dX10_byTurns_12 : decode cX10_byTurns 12 = .ok (.iconst 1, 1) := by decide +kernel
theorem dX10_byTurns_13 : decode cX10_byTurns 13 = .ok (.invokestatic 79, 3) := by decide +kernel
theorem dX10_byTurns_16 : decode cX10_byTurns 16 = .ok (.ifCond .ne 5, 3) := by decide +kernel
theorem dX10_byTurns_19 : decode cX10_byTurns 19 = .ok (.iconst (-1), 1) := by decide +kernel
theorem dX10_byTurns_20 : decode cX10_byTurns 20 = .ok (.ireturn, 1) := by decide +kernel
theorem dX10_byTurns_21 : decode cX10_byTurns 21 = .ok (.iconst 0, 1) := by decide +kernel
theorem dX10_byTurns_22 : decode cX10_byTurns 22 = .ok (.istore_n 3, 1) := by decide +kernel
theorem dX10_byTurns_23 : decode cX10_byTurns 23 = .ok (.iload_n 3, 1) := by decide +kernel
theorem dX10_byTurns_24 : decode cX10_byTurns 24 = .ok (.iconst 1, 1) := by decide +kernel
theorem dX10_byTurns_25 : decode cX10_byTurns 25 = .ok (.iload_n 1, 1) := by decide +kernel
theorem dX10_byTurns_26 : decode cX10_byTurns 26 = .ok (.ishl, 1) := by decide +kernel
theorem dX10_byTurns_27 : decode cX10_byTurns 27 = .ok (.if_icmp .ge 73, 3) := by decide +kernel
theorem dX10_byTurns_30 : decode cX10_byTurns 30 = .ok (.aload_n 0, 1) := by decide +kernel
theorem dX10_byTurns_31 : decode cX10_byTurns 31 = .ok (.aload_n 0, 1) := by decide +kernel
theorem dX10_byTurns_32 : decode cX10_byTurns 32 = .ok (.getfield 16, 3) := by decide +kernel
theorem dX10_byTurns_35 : decode cX10_byTurns 35 = .ok (.invokevirtual 166, 3) := by decide +kernel
theorem dX10_byTurns_38 : decode cX10_byTurns 38 = .ok (.iconst 0, 1) := by decide +kernel
theorem dX10_byTurns_39 : decode cX10_byTurns 39 = .ok (.istore 4, 2) := by decide +kernel
theorem dX10_byTurns_41 : decode cX10_byTurns 41 = .ok (.iload 4, 2) := by decide +kernel
theorem dX10_byTurns_43 : decode cX10_byTurns 43 = .ok (.iload_n 1, 1) := by decide +kernel
theorem dX10_byTurns_44 : decode cX10_byTurns 44 = .ok (.if_icmp .ge 38, 3) := by decide +kernel
theorem dX10_byTurns_47 : decode cX10_byTurns 47 = .ok (.iload_n 3, 1) := by decide +kernel
theorem dX10_byTurns_48 : decode cX10_byTurns 48 = .ok (.iload_n 1, 1) := by decide +kernel
theorem dX10_byTurns_49 : decode cX10_byTurns 49 = .ok (.iconst 1, 1) := by decide +kernel
theorem dX10_byTurns_50 : decode cX10_byTurns 50 = .ok (.isub, 1) := by decide +kernel
theorem dX10_byTurns_51 : decode cX10_byTurns 51 = .ok (.iload 4, 2) := by decide +kernel
theorem dX10_byTurns_53 : decode cX10_byTurns 53 = .ok (.isub, 1) := by decide +kernel
theorem dX10_byTurns_54 : decode cX10_byTurns 54 = .ok (.ishr, 1) := by decide +kernel
theorem dX10_byTurns_55 : decode cX10_byTurns 55 = .ok (.iconst 1, 1) := by decide +kernel
theorem dX10_byTurns_56 : decode cX10_byTurns 56 = .ok (.iand, 1) := by decide +kernel
theorem dX10_byTurns_57 : decode cX10_byTurns 57 = .ok (.iconst 1, 1) := by decide +kernel
theorem dX10_byTurns_58 : decode cX10_byTurns 58 = .ok (.if_icmp .ne 14, 3) := by decide +kernel
theorem dX10_byTurns_61 : decode cX10_byTurns 61 = .ok (.aload_n 0, 1) := by decide +kernel
theorem dX10_byTurns_62 : decode cX10_byTurns 62 = .ok (.iload 4, 2) := by decide +kernel
theorem dX10_byTurns_64 : decode cX10_byTurns 64 = .ok (.aload_n 0, 1) := by decide +kernel
theorem dX10_byTurns_65 : decode cX10_byTurns 65 = .ok (.getfield 76, 3) := by decide +kernel
theorem dX10_byTurns_68 : decode cX10_byTurns 68 = .ok (.irem, 1) := by decide +kernel
theorem dX10_byTurns_69 : decode cX10_byTurns 69 = .ok (.invokevirtual 159, 3) := by decide +kernel
theorem dX10_byTurns_72 : decode cX10_byTurns 72 = .ok (.aload_n 0, 1) := by decide +kernel
theorem dX10_byTurns_73 : decode cX10_byTurns 73 = .ok (.invokevirtual 179, 3) := by decide +kernel
theorem dX10_byTurns_76 : decode cX10_byTurns 76 = .ok (.iinc 4 1, 3) := by decide +kernel
theorem dX10_byTurns_79 : decode cX10_byTurns 79 = .ok (.goto (-38), 3) := by decide +kernel
theorem dX10_byTurns_82 : decode cX10_byTurns 82 = .ok (.aload_n 0, 1) := by decide +kernel
theorem dX10_byTurns_83 : decode cX10_byTurns 83 = .ok (.getfield 46, 3) := by decide +kernel
theorem dX10_byTurns_86 : decode cX10_byTurns 86 = .ok (.iload_n 3, 1) := by decide +kernel
theorem dX10_byTurns_87 : decode cX10_byTurns 87 = .ok (.aload_n 0, 1) := by decide +kernel
theorem dX10_byTurns_88 : decode cX10_byTurns 88 = .ok (.getfield 43, 3) := by decide +kernel
theorem dX10_byTurns_91 : decode cX10_byTurns 91 = .ok (.iconst 1, 1) := by decide +kernel
theorem dX10_byTurns_92 : decode cX10_byTurns 92 = .ok (.iaload, 1) := by decide +kernel
theorem dX10_byTurns_93 : decode cX10_byTurns 93 = .ok (.iastore, 1) := by decide +kernel
theorem dX10_byTurns_94 : decode cX10_byTurns 94 = .ok (.iinc 3 1, 3) := by decide +kernel
theorem dX10_byTurns_97 : decode cX10_byTurns 97 = .ok (.goto (-74), 3) := by decide +kernel
theorem dX10_byTurns_100 : decode cX10_byTurns 100 = .ok (.iconst 0, 1) := by decide +kernel
theorem dX10_byTurns_101 : decode cX10_byTurns 101 = .ok (.istore_n 3, 1) := by decide +kernel
theorem dX10_byTurns_102 : decode cX10_byTurns 102 = .ok (.iload_n 1, 1) := by decide +kernel
theorem dX10_byTurns_103 : decode cX10_byTurns 103 = .ok (.iconst 1, 1) := by decide +kernel
theorem dX10_byTurns_104 : decode cX10_byTurns 104 = .ok (.isub, 1) := by decide +kernel
theorem dX10_byTurns_105 : decode cX10_byTurns 105 = .ok (.istore 4, 2) := by decide +kernel
theorem dX10_byTurns_107 : decode cX10_byTurns 107 = .ok (.iload 4, 2) := by decide +kernel
theorem dX10_byTurns_109 : decode cX10_byTurns 109 = .ok (.ifCond .lt 101, 3) := by decide +kernel
theorem dX10_byTurns_112 : decode cX10_byTurns 112 = .ok (.iload 4, 2) := by decide +kernel
theorem dX10_byTurns_114 : decode cX10_byTurns 114 = .ok (.aload_n 0, 1) := by decide +kernel
theorem dX10_byTurns_115 : decode cX10_byTurns 115 = .ok (.getfield 76, 3) := by decide +kernel
theorem dX10_byTurns_118 : decode cX10_byTurns 118 = .ok (.irem, 1) := by decide +kernel
theorem dX10_byTurns_119 : decode cX10_byTurns 119 = .ok (.istore 5, 2) := by decide +kernel
theorem dX10_byTurns_121 : decode cX10_byTurns 121 = .ok (.iconst 0, 1) := by decide +kernel
theorem dX10_byTurns_122 : decode cX10_byTurns 122 = .ok (.istore 6, 2) := by decide +kernel
theorem dX10_byTurns_124 : decode cX10_byTurns 124 = .ok (.iload 6, 2) := by decide +kernel
theorem dX10_byTurns_126 : decode cX10_byTurns 126 = .ok (.iconst 1, 1) := by decide +kernel
theorem dX10_byTurns_127 : decode cX10_byTurns 127 = .ok (.iload 4, 2) := by decide +kernel
theorem dX10_byTurns_129 : decode cX10_byTurns 129 = .ok (.ishl, 1) := by decide +kernel
theorem dX10_byTurns_130 : decode cX10_byTurns 130 = .ok (.if_icmp .ge 74, 3) := by decide +kernel
theorem dX10_byTurns_133 : decode cX10_byTurns 133 = .ok (.aload_n 0, 1) := by decide +kernel
theorem dX10_byTurns_134 : decode cX10_byTurns 134 = .ok (.getfield 46, 3) := by decide +kernel
theorem dX10_byTurns_137 : decode cX10_byTurns 137 = .ok (.iconst 2, 1) := by decide +kernel
theorem dX10_byTurns_138 : decode cX10_byTurns 138 = .ok (.iload 6, 2) := by decide +kernel
theorem dX10_byTurns_140 : decode cX10_byTurns 140 = .ok (.imul, 1) := by decide +kernel
theorem dX10_byTurns_141 : decode cX10_byTurns 141 = .ok (.iaload, 1) := by decide +kernel
theorem dX10_byTurns_142 : decode cX10_byTurns 142 = .ok (.istore 7, 2) := by decide +kernel
theorem dX10_byTurns_144 : decode cX10_byTurns 144 = .ok (.aload_n 0, 1) := by decide +kernel
theorem dX10_byTurns_145 : decode cX10_byTurns 145 = .ok (.getfield 46, 3) := by decide +kernel
theorem dX10_byTurns_148 : decode cX10_byTurns 148 = .ok (.iconst 2, 1) := by decide +kernel
theorem dX10_byTurns_149 : decode cX10_byTurns 149 = .ok (.iload 6, 2) := by decide +kernel
theorem dX10_byTurns_151 : decode cX10_byTurns 151 = .ok (.imul, 1) := by decide +kernel
theorem dX10_byTurns_152 : decode cX10_byTurns 152 = .ok (.iconst 1, 1) := by decide +kernel
theorem dX10_byTurns_153 : decode cX10_byTurns 153 = .ok (.iadd, 1) := by decide +kernel
theorem dX10_byTurns_154 : decode cX10_byTurns 154 = .ok (.iaload, 1) := by decide +kernel
theorem dX10_byTurns_155 : decode cX10_byTurns 155 = .ok (.istore 8, 2) := by decide +kernel
theorem dX10_byTurns_157 : decode cX10_byTurns 157 = .ok (.iload 5, 2) := by decide +kernel
theorem dX10_byTurns_159 : decode cX10_byTurns 159 = .ok (.iload 8, 2) := by decide +kernel
theorem dX10_byTurns_161 : decode cX10_byTurns 161 = .ok (.invokestatic 182, 3) := by decide +kernel
theorem dX10_byTurns_164 : decode cX10_byTurns 164 = .ok (.iload 5, 2) := by decide +kernel
theorem dX10_byTurns_166 : decode cX10_byTurns 166 = .ok (.iload 7, 2) := by decide +kernel
theorem dX10_byTurns_168 : decode cX10_byTurns 168 = .ok (.invokestatic 182, 3) := by decide +kernel
theorem dX10_byTurns_171 : decode cX10_byTurns 171 = .ok (.if_icmp .le 7, 3) := by decide +kernel
theorem dX10_byTurns_174 : decode cX10_byTurns 174 = .ok (.iconst 1, 1) := by decide +kernel
theorem dX10_byTurns_175 : decode cX10_byTurns 175 = .ok (.goto 4, 3) := by decide +kernel
theorem dX10_byTurns_178 : decode cX10_byTurns 178 = .ok (.iconst 0, 1) := by decide +kernel
theorem dX10_byTurns_179 : decode cX10_byTurns 179 = .ok (.istore_n 3, 1) := by decide +kernel
theorem dX10_byTurns_180 : decode cX10_byTurns 180 = .ok (.aload_n 0, 1) := by decide +kernel
theorem dX10_byTurns_181 : decode cX10_byTurns 181 = .ok (.getfield 46, 3) := by decide +kernel
theorem dX10_byTurns_184 : decode cX10_byTurns 184 = .ok (.iload 6, 2) := by decide +kernel
theorem dX10_byTurns_186 : decode cX10_byTurns 186 = .ok (.iload_n 3, 1) := by decide +kernel
theorem dX10_byTurns_187 : decode cX10_byTurns 187 = .ok (.ifCond .eq 8, 3) := by decide +kernel
theorem dX10_byTurns_190 : decode cX10_byTurns 190 = .ok (.iload 8, 2) := by decide +kernel
theorem dX10_byTurns_192 : decode cX10_byTurns 192 = .ok (.goto 5, 3) := by decide +kernel
theorem dX10_byTurns_195 : decode cX10_byTurns 195 = .ok (.iload 7, 2) := by decide +kernel
theorem dX10_byTurns_197 : decode cX10_byTurns 197 = .ok (.iastore, 1) := by decide +kernel
theorem dX10_byTurns_198 : decode cX10_byTurns 198 = .ok (.iinc 6 1, 3) := by decide +kernel
theorem dX10_byTurns_201 : decode cX10_byTurns 201 = .ok (.goto (-77), 3) := by decide +kernel
theorem dX10_byTurns_204 : decode cX10_byTurns 204 = .ok (.iinc 4 (-1), 3) := by decide +kernel
theorem dX10_byTurns_207 : decode cX10_byTurns 207 = .ok (.goto (-100), 3) := by decide +kernel
theorem dX10_byTurns_210 : decode cX10_byTurns 210 = .ok (.iload_n 2, 1) := by decide +kernel
theorem dX10_byTurns_211 : decode cX10_byTurns 211 = .ok (.iconst 1, 1) := by decide +kernel
theorem dX10_byTurns_212 : decode cX10_byTurns 212 = .ok (.if_icmp .ne 15, 3) := by decide +kernel
theorem dX10_byTurns_215 : decode cX10_byTurns 215 = .ok (.iload_n 3, 1) := by decide +kernel
theorem dX10_byTurns_216 : decode cX10_byTurns 216 = .ok (.ifCond .eq 7, 3) := by decide +kernel
theorem dX10_byTurns_219 : decode cX10_byTurns 219 = .ok (.iconst 1, 1) := by decide +kernel
theorem dX10_byTurns_220 : decode cX10_byTurns 220 = .ok (.goto 27, 3) := by decide +kernel
theorem dX10_byTurns_223 : decode cX10_byTurns 223 = .ok (.iconst 0, 1) := by decide +kernel
theorem dX10_byTurns_224 : decode cX10_byTurns 224 = .ok (.goto 23, 3) := by decide +kernel
theorem dX10_byTurns_227 : decode cX10_byTurns 227 = .ok (.aload_n 0, 1) := by decide +kernel
theorem dX10_byTurns_228 : decode cX10_byTurns 228 = .ok (.getfield 46, 3) := by decide +kernel
theorem dX10_byTurns_231 : decode cX10_byTurns 231 = .ok (.iconst 0, 1) := by decide +kernel
theorem dX10_byTurns_232 : decode cX10_byTurns 232 = .ok (.iaload, 1) := by decide +kernel
theorem dX10_byTurns_233 : decode cX10_byTurns 233 = .ok (.ifCond .ge 8, 3) := by decide +kernel
theorem dX10_byTurns_236 : decode cX10_byTurns 236 = .ok (.bipush (-4), 2) := by decide +kernel
theorem dX10_byTurns_238 : decode cX10_byTurns 238 = .ok (.goto 9, 3) := by decide +kernel
theorem dX10_byTurns_241 : decode cX10_byTurns 241 = .ok (.aload_n 0, 1) := by decide +kernel
theorem dX10_byTurns_242 : decode cX10_byTurns 242 = .ok (.getfield 46, 3) := by decide +kernel
theorem dX10_byTurns_245 : decode cX10_byTurns 245 = .ok (.iconst 0, 1) := by decide +kernel
theorem dX10_byTurns_246 : decode cX10_byTurns 246 = .ok (.iaload, 1) := by decide +kernel
theorem dX10_byTurns_247 : decode cX10_byTurns 247 = .ok (.ireturn, 1) := by decide +kernel
set_option maxRecDepth 20000 in
theorem ggX10_took_X10_in : GoodIn wsX10_took wsX10_in := goodIn_r _ [7] (by decide +kernel) (by decide +kernel)
set_option maxRecDepth 20000 in
theorem gX10_took_X10_in : GoodIn wsX10_took (va_wsS RX10 79 yX10_in wsX10_in) := goodIn_app (goodIn_of _ (by decide +kernel)) ggX10_took_X10_in
set_option maxRecDepth 20000 in
theorem ggX10_took_X10_isRelative : GoodIn wsX10_took wsX10_isRelative := goodIn_r _ [11, 12, 4, 5, 6, 7, 13, 14, 15, 16, 17, 18, 19, 20, 21, 22, 23, 24, 25, 26, 27, 28, 29, 30, 31, 32, 33, 34, 35, 36, 37] (by decide +kernel) (by decide +kernel)
set_option maxRecDepth 20000 in
theorem gX10_took_X10_isRelative : GoodIn wsX10_took (wsV RX10 163 RX10 yX10_isRelative wsX10_isRelative) := goodIn_app (goodIn_of _ (by decide +kernel)) ggX10_took_X10_isRelative
theorem dX10_took_0 : decode cX10_took 0 = .ok (.iload_n 1, 1) := by decide +kernel
theorem dX10_took_1 : decode cX10_took 1 = .ok (.iconst 1, 1) := by decide +kernel
theorem dX10_took_2 : decode cX10_took 2 = .ok (.bipush 10, 2) := by decide +kernel
theorem dX10_took_4 : decode cX10_took 4 = .ok (.invokestatic 79, 3) := by decide +kernel
theorem dX10_took_7 : decode cX10_took 7 = .ok (.ifCond .eq 21, 3) := by decide +kernel
theorem dX10_took_10 : decode cX10_took 10 = .ok (.iload_n 1, 1) := by decide +kernel
theorem dX10_took_11 : decode cX10_took 11 = .ok (.aload_n 0, 1) := by decide +kernel
theorem dX10_took_12 : decode cX10_took 12 = .ok (.getfield 16, 3) := by decide +kernel
theorem dX10_took_15 : decode cX10_took 15 = .ok (.iconst 0, 1) := by decide +kernel
theorem dX10_took_16 : decode cX10_took 16 = .ok (.iaload, 1) := by decide +kernel
theorem dX10_took_17 : decode cX10_took 17 = .ok (.if_icmp .gt 11, 3) := by decide +kernel
theorem dX10_took_20 : decode cX10_took 20 = .ok (.aload_n 0, 1) := by decide +kernel
theorem dX10_took_21 : decode cX10_took 21 = .ok (.iload_n 2, 1) := by decide +kernel
theorem dX10_took_22 : decode cX10_took 22 = .ok (.invokevirtual 163, 3) := by decide +kernel
theorem dX10_took_25 : decode cX10_took 25 = .ok (.ifCond .ne 5, 3) := by decide +kernel
theorem dX10_took_28 : decode cX10_took 28 = .ok (.iconst (-1), 1) := by decide +kernel
theorem dX10_took_29 : decode cX10_took 29 = .ok (.ireturn, 1) := by decide +kernel
theorem dX10_took_30 : decode cX10_took 30 = .ok (.aload_n 0, 1) := by decide +kernel
theorem dX10_took_31 : decode cX10_took 31 = .ok (.getfield 139, 3) := by decide +kernel
theorem dX10_took_34 : decode cX10_took 34 = .ok (.bipush 6, 2) := by decide +kernel
theorem dX10_took_36 : decode cX10_took 36 = .ok (.if_icmp .ne 6, 3) := by decide +kernel
theorem dX10_took_39 : decode cX10_took 39 = .ok (.bipush (-3), 2) := by decide +kernel
theorem dX10_took_41 : decode cX10_took 41 = .ok (.ireturn, 1) := by decide +kernel
theorem dX10_took_42 : decode cX10_took 42 = .ok (.aload_n 0, 1) := by decide +kernel
theorem dX10_took_43 : decode cX10_took 43 = .ok (.getfield 28, 3) := by decide +kernel
theorem dX10_took_46 : decode cX10_took 46 = .ok (.iconst 2, 1) := by decide +kernel
theorem dX10_took_47 : decode cX10_took 47 = .ok (.aload_n 0, 1) := by decide +kernel
theorem dX10_took_48 : decode cX10_took 48 = .ok (.getfield 139, 3) := by decide +kernel
theorem dX10_took_51 : decode cX10_took 51 = .ok (.imul, 1) := by decide +kernel
theorem dX10_took_52 : decode cX10_took 52 = .ok (.iload_n 1, 1) := by decide +kernel
theorem dX10_took_53 : decode cX10_took 53 = .ok (.iastore, 1) := by decide +kernel
theorem dX10_took_54 : decode cX10_took 54 = .ok (.aload_n 0, 1) := by decide +kernel
theorem dX10_took_55 : decode cX10_took 55 = .ok (.getfield 28, 3) := by decide +kernel
theorem dX10_took_58 : decode cX10_took 58 = .ok (.iconst 2, 1) := by decide +kernel
theorem dX10_took_59 : decode cX10_took 59 = .ok (.aload_n 0, 1) := by decide +kernel
theorem dX10_took_60 : decode cX10_took 60 = .ok (.getfield 139, 3) := by decide +kernel
theorem dX10_took_63 : decode cX10_took 63 = .ok (.imul, 1) := by decide +kernel
theorem dX10_took_64 : decode cX10_took 64 = .ok (.iconst 1, 1) := by decide +kernel
theorem dX10_took_65 : decode cX10_took 65 = .ok (.iadd, 1) := by decide +kernel
theorem dX10_took_66 : decode cX10_took 66 = .ok (.iload_n 2, 1) := by decide +kernel
theorem dX10_took_67 : decode cX10_took 67 = .ok (.iastore, 1) := by decide +kernel
theorem dX10_took_68 : decode cX10_took 68 = .ok (.aload_n 0, 1) := by decide +kernel
theorem dX10_took_69 : decode cX10_took 69 = .ok (.dup, 1) := by decide +kernel
theorem dX10_took_70 : decode cX10_took 70 = .ok (.getfield 139, 3) := by decide +kernel
theorem dX10_took_73 : decode cX10_took 73 = .ok (.iconst 1, 1) := by decide +kernel
theorem dX10_took_74 : decode cX10_took 74 = .ok (.iadd, 1) := by decide +kernel
theorem dX10_took_75 : decode cX10_took 75 = .ok (.putfield 139, 3) := by decide +kernel
theorem dX10_took_78 : decode cX10_took 78 = .ok (.aload_n 0, 1) := by decide +kernel
theorem dX10_took_79 : decode cX10_took 79 = .ok (.getfield 139, 3) := by decide +kernel
theorem dX10_took_82 : decode cX10_took 82 = .ok (.ireturn, 1) := by decide +kernel
theorem dX10_forget_0 : decode cX10_forget 0 = .ok (.aload_n 0, 1) := by decide +kernel
theorem dX10_forget_1 : decode cX10_forget 1 = .ok (.getfield 139, 3) := by decide +kernel
theorem dX10_forget_4 : decode cX10_forget 4 = .ok (.istore_n 1, 1) := by decide +kernel
theorem dX10_forget_5 : decode cX10_forget 5 = .ok (.aload_n 0, 1) := by decide +kernel
theorem dX10_forget_6 : decode cX10_forget 6 = .ok (.iconst 0, 1) := by decide +kernel
theorem dX10_forget_7 : decode cX10_forget 7 = .ok (.putfield 139, 3) := by decide +kernel
theorem dX10_forget_10 : decode cX10_forget 10 = .ok (.iload_n 1, 1) := by decide +kernel
theorem dX10_forget_11 : decode cX10_forget 11 = .ok (.ireturn, 1) := by decide +kernel
set_option maxRecDepth 20000 in
theorem ggX10_fits_X10_from : GoodIn wsX10_fits wsX10_from := goodIn_r _ [10, 2, 11, 12, 9, 13, 49, 50, 51, 52, 53, 54, 55, 56, 57, 58, 59, 60, 61, 62, 63, 64, 65, 66, 67, 68, 69, 70, 71, 72, 73] (by decide +kernel) (by decide +kernel)
set_option maxRecDepth 20000 in
theorem gX10_fits_X10_from : GoodIn wsX10_fits (wsV RX10 166 RX10 yX10_from wsX10_from) := goodIn_app (goodIn_of _ (by decide +kernel)) ggX10_fits_X10_from
set_option maxRecDepth 20000 in
theorem ggX10_fits_X10_saysIt : GoodIn wsX10_fits wsX10_saysIt := goodIn_r _ [17, 2, 18, 19, 20, 9, 21, 22, 23, 24, 25, 26, 27, 28, 29, 30, 31, 49, 50, 51, 52, 53, 54, 55, 56, 57, 58, 59, 60, 61, 62, 63, 64, 65, 66, 67, 68, 69, 70, 71, 72, 73] (by decide +kernel) (by decide +kernel)
set_option maxRecDepth 20000 in
theorem gX10_fits_X10_saysIt : GoodIn wsX10_fits (wsV RX10 176 RX10 yX10_saysIt wsX10_saysIt) := goodIn_app (goodIn_of _ (by decide +kernel)) ggX10_fits_X10_saysIt
set_option maxRecDepth 20000 in
theorem ggX10_fits_X10_goesToNoon : GoodIn wsX10_fits wsX10_goesToNoon := goodIn_r _ [35, 2, 36, 37, 38, 39, 9, 40, 41, 42, 43, 44, 45, 46, 47, 48, 49, 50, 51, 52, 53, 54, 55, 56, 57, 58, 59, 60, 61, 62, 63, 64, 65, 66, 67, 68, 69, 70, 71, 72, 73] (by decide +kernel) (by decide +kernel)
set_option maxRecDepth 20000 in
theorem gX10_fits_X10_goesToNoon : GoodIn wsX10_fits (wsV RX10 179 RX10 yX10_goesToNoon wsX10_goesToNoon) := goodIn_app (goodIn_of _ (by decide +kernel)) ggX10_fits_X10_goesToNoon
theorem dX10_fits_0 : decode cX10_fits 0 = .ok (.aload_n 0, 1) := by decide +kernel
theorem dX10_fits_1 : decode cX10_fits 1 = .ok (.aload_n 0, 1) := by decide +kernel
theorem dX10_fits_2 : decode cX10_fits 2 = .ok (.getfield 19, 3) := by decide +kernel
theorem dX10_fits_5 : decode cX10_fits 5 = .ok (.invokevirtual 166, 3) := by decide +kernel
theorem dX10_fits_8 : decode cX10_fits 8 = .ok (.aload_n 0, 1) := by decide +kernel
theorem dX10_fits_9 : decode cX10_fits 9 = .ok (.getfield 43, 3) := by decide +kernel
theorem dX10_fits_12 : decode cX10_fits 12 = .ok (.iconst 2, 1) := by decide +kernel
theorem dX10_fits_13 : decode cX10_fits 13 = .ok (.iload_n 1, 1) := by decide +kernel
theorem dX10_fits_14 : decode cX10_fits 14 = .ok (.iastore, 1) := by decide +kernel
theorem dX10_fits_15 : decode cX10_fits 15 = .ok (.iconst 1, 1) := by decide +kernel
theorem dX10_fits_16 : decode cX10_fits 16 = .ok (.istore_n 2, 1) := by decide +kernel
theorem dX10_fits_17 : decode cX10_fits 17 = .ok (.iconst 0, 1) := by decide +kernel
theorem dX10_fits_18 : decode cX10_fits 18 = .ok (.istore_n 3, 1) := by decide +kernel
theorem dX10_fits_19 : decode cX10_fits 19 = .ok (.iload_n 3, 1) := by decide +kernel
theorem dX10_fits_20 : decode cX10_fits 20 = .ok (.bipush 10, 2) := by decide +kernel
theorem dX10_fits_22 : decode cX10_fits 22 = .ok (.if_icmp .ge 130, 3) := by decide +kernel
theorem dX10_fits_25 : decode cX10_fits 25 = .ok (.iconst 0, 1) := by decide +kernel
theorem dX10_fits_26 : decode cX10_fits 26 = .ok (.istore 4, 2) := by decide +kernel
theorem dX10_fits_28 : decode cX10_fits 28 = .ok (.iload 4, 2) := by decide +kernel
theorem dX10_fits_30 : decode cX10_fits 30 = .ok (.aload_n 0, 1) := by decide +kernel
theorem dX10_fits_31 : decode cX10_fits 31 = .ok (.getfield 16, 3) := by decide +kernel
theorem dX10_fits_34 : decode cX10_fits 34 = .ok (.bipush 22, 2) := by decide +kernel
theorem dX10_fits_36 : decode cX10_fits 36 = .ok (.iload_n 3, 1) := by decide +kernel
theorem dX10_fits_37 : decode cX10_fits 37 = .ok (.iadd, 1) := by decide +kernel
theorem dX10_fits_38 : decode cX10_fits 38 = .ok (.iaload, 1) := by decide +kernel
theorem dX10_fits_39 : decode cX10_fits 39 = .ok (.if_icmp .ge 40, 3) := by decide +kernel
theorem dX10_fits_42 : decode cX10_fits 42 = .ok (.aload_n 0, 1) := by decide +kernel
theorem dX10_fits_43 : decode cX10_fits 43 = .ok (.getfield 16, 3) := by decide +kernel
theorem dX10_fits_46 : decode cX10_fits 46 = .ok (.bipush 32, 2) := by decide +kernel
theorem dX10_fits_48 : decode cX10_fits 48 = .ok (.iconst 4, 1) := by decide +kernel
theorem dX10_fits_49 : decode cX10_fits 49 = .ok (.iload_n 3, 1) := by decide +kernel
theorem dX10_fits_50 : decode cX10_fits 50 = .ok (.imul, 1) := by decide +kernel
theorem dX10_fits_51 : decode cX10_fits 51 = .ok (.iadd, 1) := by decide +kernel
theorem dX10_fits_52 : decode cX10_fits 52 = .ok (.iload 4, 2) := by decide +kernel
theorem dX10_fits_54 : decode cX10_fits 54 = .ok (.iadd, 1) := by decide +kernel
theorem dX10_fits_55 : decode cX10_fits 55 = .ok (.iaload, 1) := by decide +kernel
theorem dX10_fits_56 : decode cX10_fits 56 = .ok (.istore 5, 2) := by decide +kernel
theorem dX10_fits_58 : decode cX10_fits 58 = .ok (.aload_n 0, 1) := by decide +kernel
theorem dX10_fits_59 : decode cX10_fits 59 = .ok (.iload 5, 2) := by decide +kernel
theorem dX10_fits_61 : decode cX10_fits 61 = .ok (.bipush 8, 2) := by decide +kernel
theorem dX10_fits_63 : decode cX10_fits 63 = .ok (.idiv, 1) := by decide +kernel
theorem dX10_fits_64 : decode cX10_fits 64 = .ok (.iload 5, 2) := by decide +kernel
theorem dX10_fits_66 : decode cX10_fits 66 = .ok (.bipush 8, 2) := by decide +kernel
theorem dX10_fits_68 : decode cX10_fits 68 = .ok (.irem, 1) := by decide +kernel
theorem dX10_fits_69 : decode cX10_fits 69 = .ok (.invokevirtual 176, 3) := by decide +kernel
theorem dX10_fits_72 : decode cX10_fits 72 = .ok (.pop, 1) := by decide +kernel
theorem dX10_fits_73 : decode cX10_fits 73 = .ok (.iinc 4 1, 3) := by decide +kernel
theorem dX10_fits_76 : decode cX10_fits 76 = .ok (.goto (-48), 3) := by decide +kernel
theorem dX10_fits_79 : decode cX10_fits 79 = .ok (.aload_n 0, 1) := by decide +kernel
theorem dX10_fits_80 : decode cX10_fits 80 = .ok (.invokevirtual 179, 3) := by decide +kernel
theorem dX10_fits_83 : decode cX10_fits 83 = .ok (.iconst 0, 1) := by decide +kernel
theorem dX10_fits_84 : decode cX10_fits 84 = .ok (.istore 4, 2) := by decide +kernel
theorem dX10_fits_86 : decode cX10_fits 86 = .ok (.iload 4, 2) := by decide +kernel
theorem dX10_fits_88 : decode cX10_fits 88 = .ok (.aload_n 0, 1) := by decide +kernel
theorem dX10_fits_89 : decode cX10_fits 89 = .ok (.getfield 139, 3) := by decide +kernel
theorem dX10_fits_92 : decode cX10_fits 92 = .ok (.if_icmp .ge 54, 3) := by decide +kernel
theorem dX10_fits_95 : decode cX10_fits 95 = .ok (.iload_n 2, 1) := by decide +kernel
theorem dX10_fits_96 : decode cX10_fits 96 = .ok (.ifCond .eq 42, 3) := by decide +kernel
theorem dX10_fits_99 : decode cX10_fits 99 = .ok (.aload_n 0, 1) := by decide +kernel
theorem dX10_fits_100 : decode cX10_fits 100 = .ok (.getfield 28, 3) := by decide +kernel
theorem dX10_fits_103 : decode cX10_fits 103 = .ok (.iconst 2, 1) := by decide +kernel
theorem dX10_fits_104 : decode cX10_fits 104 = .ok (.iload 4, 2) := by decide +kernel
theorem dX10_fits_106 : decode cX10_fits 106 = .ok (.imul, 1) := by decide +kernel
theorem dX10_fits_107 : decode cX10_fits 107 = .ok (.iaload, 1) := by decide +kernel
theorem dX10_fits_108 : decode cX10_fits 108 = .ok (.iload_n 3, 1) := by decide +kernel
theorem dX10_fits_109 : decode cX10_fits 109 = .ok (.iconst 1, 1) := by decide +kernel
theorem dX10_fits_110 : decode cX10_fits 110 = .ok (.iadd, 1) := by decide +kernel
theorem dX10_fits_111 : decode cX10_fits 111 = .ok (.if_icmp .ne 23, 3) := by decide +kernel
theorem dX10_fits_114 : decode cX10_fits 114 = .ok (.aload_n 0, 1) := by decide +kernel
theorem dX10_fits_115 : decode cX10_fits 115 = .ok (.getfield 28, 3) := by decide +kernel
theorem dX10_fits_118 : decode cX10_fits 118 = .ok (.iconst 2, 1) := by decide +kernel
theorem dX10_fits_119 : decode cX10_fits 119 = .ok (.iload 4, 2) := by decide +kernel
theorem dX10_fits_121 : decode cX10_fits 121 = .ok (.imul, 1) := by decide +kernel
theorem dX10_fits_122 : decode cX10_fits 122 = .ok (.iconst 1, 1) := by decide +kernel
theorem dX10_fits_123 : decode cX10_fits 123 = .ok (.iadd, 1) := by decide +kernel
theorem dX10_fits_124 : decode cX10_fits 124 = .ok (.iaload, 1) := by decide +kernel
theorem dX10_fits_125 : decode cX10_fits 125 = .ok (.aload_n 0, 1) := by decide +kernel
theorem dX10_fits_126 : decode cX10_fits 126 = .ok (.getfield 43, 3) := by decide +kernel
theorem dX10_fits_129 : decode cX10_fits 129 = .ok (.iconst 1, 1) := by decide +kernel
theorem dX10_fits_130 : decode cX10_fits 130 = .ok (.iaload, 1) := by decide +kernel
theorem dX10_fits_131 : decode cX10_fits 131 = .ok (.if_icmp .ne 7, 3) := by decide +kernel
theorem dX10_fits_134 : decode cX10_fits 134 = .ok (.iconst 1, 1) := by decide +kernel
theorem dX10_fits_135 : decode cX10_fits 135 = .ok (.goto 4, 3) := by decide +kernel
theorem dX10_fits_138 : decode cX10_fits 138 = .ok (.iconst 0, 1) := by decide +kernel
theorem dX10_fits_139 : decode cX10_fits 139 = .ok (.istore_n 2, 1) := by decide +kernel
theorem dX10_fits_140 : decode cX10_fits 140 = .ok (.iinc 4 1, 3) := by decide +kernel
theorem dX10_fits_143 : decode cX10_fits 143 = .ok (.goto (-57), 3) := by decide +kernel
theorem dX10_fits_146 : decode cX10_fits 146 = .ok (.iinc 3 1, 3) := by decide +kernel
theorem dX10_fits_149 : decode cX10_fits 149 = .ok (.goto (-130), 3) := by decide +kernel
theorem dX10_fits_152 : decode cX10_fits 152 = .ok (.iload_n 2, 1) := by decide +kernel
theorem dX10_fits_153 : decode cX10_fits 153 = .ok (.ireturn, 1) := by decide +kernel
set_option maxRecDepth 20000 in
theorem ggX10_deeds_X10_in : GoodIn wsX10_deeds wsX10_in := goodIn_r _ [4] (by decide +kernel) (by decide +kernel)
set_option maxRecDepth 20000 in
theorem gX10_deeds_X10_in : GoodIn wsX10_deeds (va_wsS RX10 79 yX10_in wsX10_in) := goodIn_app (goodIn_of _ (by decide +kernel)) ggX10_deeds_X10_in
set_option maxRecDepth 20000 in
theorem ggX10_deeds_X10_fits : GoodIn wsX10_deeds wsX10_fits := goodIn_r _ [8, 9, 10, 11, 12, 13, 14, 15, 16, 3, 17, 18, 19, 20, 21, 22, 23, 24, 25, 26, 27, 28, 29, 30, 31, 32, 33, 34, 35, 36, 37, 38, 39, 40, 41, 42, 43, 44, 45, 46, 47, 48, 49, 50, 51, 52, 53, 54, 55, 56, 57, 58, 59, 60, 61, 62, 63, 64, 65, 66, 67, 68, 69, 70, 71, 72, 73, 74, 75, 76, 77, 78, 79, 80] (by decide +kernel) (by decide +kernel)
set_option maxRecDepth 20000 in
theorem gX10_deeds_X10_fits : GoodIn wsX10_deeds (wsV RX10 185 RX10 yX10_fits wsX10_fits) := goodIn_app (goodIn_of _ (by decide +kernel)) ggX10_deeds_X10_fits
theorem dX10_deeds_0 : decode cX10_deeds 0 = .ok (.iload_n 1, 1) := by decide +kernel
theorem dX10_deeds_1 : decode cX10_deeds 1 = .ok (.iconst 0, 1) := by decide +kernel
theorem dX10_deeds_2 : decode cX10_deeds 2 = .ok (.iconst 1, 1) := by decide +kernel
theorem dX10_deeds_3 : decode cX10_deeds 3 = .ok (.invokestatic 79, 3) := by decide +kernel
theorem dX10_deeds_6 : decode cX10_deeds 6 = .ok (.ifCond .ne 5, 3) := by decide +kernel
theorem dX10_deeds_9 : decode cX10_deeds 9 = .ok (.iconst (-1), 1) := by decide +kernel
theorem dX10_deeds_10 : decode cX10_deeds 10 = .ok (.ireturn, 1) := by decide +kernel
theorem dX10_deeds_11 : decode cX10_deeds 11 = .ok (.iconst 0, 1) := by decide +kernel
theorem dX10_deeds_12 : decode cX10_deeds 12 = .ok (.istore_n 2, 1) := by decide +kernel
theorem dX10_deeds_13 : decode cX10_deeds 13 = .ok (.bipush (-4), 2) := by decide +kernel
theorem dX10_deeds_15 : decode cX10_deeds 15 = .ok (.istore_n 3, 1) := by decide +kernel
theorem dX10_deeds_16 : decode cX10_deeds 16 = .ok (.bipush 63, 2) := by decide +kernel
theorem dX10_deeds_18 : decode cX10_deeds 18 = .ok (.istore 4, 2) := by decide +kernel
theorem dX10_deeds_20 : decode cX10_deeds 20 = .ok (.iload 4, 2) := by decide +kernel
theorem dX10_deeds_22 : decode cX10_deeds 22 = .ok (.ifCond .lt 42, 3) := by decide +kernel
theorem dX10_deeds_25 : decode cX10_deeds 25 = .ok (.aload_n 0, 1) := by decide +kernel
theorem dX10_deeds_26 : decode cX10_deeds 26 = .ok (.iload 4, 2) := by decide +kernel
theorem dX10_deeds_28 : decode cX10_deeds 28 = .ok (.invokevirtual 185, 3) := by decide +kernel
theorem dX10_deeds_31 : decode cX10_deeds 31 = .ok (.istore 5, 2) := by decide +kernel
theorem dX10_deeds_33 : decode cX10_deeds 33 = .ok (.iload_n 2, 1) := by decide +kernel
theorem dX10_deeds_34 : decode cX10_deeds 34 = .ok (.iload 5, 2) := by decide +kernel
theorem dX10_deeds_36 : decode cX10_deeds 36 = .ok (.ifCond .eq 7, 3) := by decide +kernel
theorem dX10_deeds_39 : decode cX10_deeds 39 = .ok (.iconst 1, 1) := by decide +kernel
theorem dX10_deeds_40 : decode cX10_deeds 40 = .ok (.goto 4, 3) := by decide +kernel
theorem dX10_deeds_43 : decode cX10_deeds 43 = .ok (.iconst 0, 1) := by decide +kernel
theorem dX10_deeds_44 : decode cX10_deeds 44 = .ok (.iadd, 1) := by decide +kernel
theorem dX10_deeds_45 : decode cX10_deeds 45 = .ok (.istore_n 2, 1) := by decide +kernel
theorem dX10_deeds_46 : decode cX10_deeds 46 = .ok (.iload 5, 2) := by decide +kernel
theorem dX10_deeds_48 : decode cX10_deeds 48 = .ok (.ifCond .eq 8, 3) := by decide +kernel
theorem dX10_deeds_51 : decode cX10_deeds 51 = .ok (.iload 4, 2) := by decide +kernel
theorem dX10_deeds_53 : decode cX10_deeds 53 = .ok (.goto 4, 3) := by decide +kernel
theorem dX10_deeds_56 : decode cX10_deeds 56 = .ok (.iload_n 3, 1) := by decide +kernel
theorem dX10_deeds_57 : decode cX10_deeds 57 = .ok (.istore_n 3, 1) := by decide +kernel
theorem dX10_deeds_58 : decode cX10_deeds 58 = .ok (.iinc 4 (-1), 3) := by decide +kernel
theorem dX10_deeds_61 : decode cX10_deeds 61 = .ok (.goto (-41), 3) := by decide +kernel
theorem dX10_deeds_64 : decode cX10_deeds 64 = .ok (.iload_n 1, 1) := by decide +kernel
theorem dX10_deeds_65 : decode cX10_deeds 65 = .ok (.ifCond .ne 7, 3) := by decide +kernel
theorem dX10_deeds_68 : decode cX10_deeds 68 = .ok (.iload_n 2, 1) := by decide +kernel
theorem dX10_deeds_69 : decode cX10_deeds 69 = .ok (.goto 4, 3) := by decide +kernel
theorem dX10_deeds_72 : decode cX10_deeds 72 = .ok (.iload_n 3, 1) := by decide +kernel
theorem dX10_deeds_73 : decode cX10_deeds 73 = .ok (.ireturn, 1) := by decide +kernel
set_option maxRecDepth 20000 in
theorem ggX10_quiet_X10_from : GoodIn wsX10_quiet wsX10_from := goodIn_r _ [8, 9, 10, 11, 7, 12, 23, 24, 25, 26, 27, 28, 29, 30, 31, 32, 33, 34, 35, 36, 37, 38, 39, 40, 41, 42, 43, 44, 45, 46, 47] (by decide +kernel) (by decide +kernel)
set_option maxRecDepth 20000 in
theorem gX10_quiet_X10_from : GoodIn wsX10_quiet (wsV RX10 166 RX10 yX10_from wsX10_from) := goodIn_app (goodIn_of _ (by decide +kernel)) ggX10_quiet_X10_from
set_option maxRecDepth 20000 in
theorem ggX10_quiet_X10_isAsking : GoodIn wsX10_quiet wsX10_isAsking := goodIn_r _ [16, 17, 9, 18, 19, 20, 21, 7, 22, 23, 24, 25, 26, 27, 28, 29, 30, 31, 32, 33, 34, 35, 36, 37, 38, 39, 40, 41, 42, 43, 44, 45, 46, 47] (by decide +kernel) (by decide +kernel)
set_option maxRecDepth 20000 in
theorem gX10_quiet_X10_isAsking : GoodIn wsX10_quiet (wsV RX10 155 RX10 yX10_isAsking wsX10_isAsking) := goodIn_app (goodIn_of _ (by decide +kernel)) ggX10_quiet_X10_isAsking
theorem dX10_quiet_0 : decode cX10_quiet 0 = .ok (.aload_n 0, 1) := by decide +kernel
theorem dX10_quiet_1 : decode cX10_quiet 1 = .ok (.aload_n 0, 1) := by decide +kernel
theorem dX10_quiet_2 : decode cX10_quiet 2 = .ok (.getfield 16, 3) := by decide +kernel
theorem dX10_quiet_5 : decode cX10_quiet 5 = .ok (.invokevirtual 166, 3) := by decide +kernel
theorem dX10_quiet_8 : decode cX10_quiet 8 = .ok (.iconst 0, 1) := by decide +kernel
theorem dX10_quiet_9 : decode cX10_quiet 9 = .ok (.istore_n 1, 1) := by decide +kernel
theorem dX10_quiet_10 : decode cX10_quiet 10 = .ok (.iconst 0, 1) := by decide +kernel
theorem dX10_quiet_11 : decode cX10_quiet 11 = .ok (.istore_n 2, 1) := by decide +kernel
theorem dX10_quiet_12 : decode cX10_quiet 12 = .ok (.iload_n 2, 1) := by decide +kernel
theorem dX10_quiet_13 : decode cX10_quiet 13 = .ok (.aload_n 0, 1) := by decide +kernel
theorem dX10_quiet_14 : decode cX10_quiet 14 = .ok (.getfield 123, 3) := by decide +kernel
theorem dX10_quiet_17 : decode cX10_quiet 17 = .ok (.if_icmp .ge 63, 3) := by decide +kernel
theorem dX10_quiet_20 : decode cX10_quiet 20 = .ok (.iconst 1, 1) := by decide +kernel
theorem dX10_quiet_21 : decode cX10_quiet 21 = .ok (.istore_n 3, 1) := by decide +kernel
theorem dX10_quiet_22 : decode cX10_quiet 22 = .ok (.iconst 0, 1) := by decide +kernel
theorem dX10_quiet_23 : decode cX10_quiet 23 = .ok (.istore 4, 2) := by decide +kernel
theorem dX10_quiet_25 : decode cX10_quiet 25 = .ok (.iload 4, 2) := by decide +kernel
theorem dX10_quiet_27 : decode cX10_quiet 27 = .ok (.aload_n 0, 1) := by decide +kernel
theorem dX10_quiet_28 : decode cX10_quiet 28 = .ok (.getfield 76, 3) := by decide +kernel
theorem dX10_quiet_31 : decode cX10_quiet 31 = .ok (.if_icmp .ge 29, 3) := by decide +kernel
theorem dX10_quiet_34 : decode cX10_quiet 34 = .ok (.iload_n 3, 1) := by decide +kernel
theorem dX10_quiet_35 : decode cX10_quiet 35 = .ok (.ifCond .eq 17, 3) := by decide +kernel
theorem dX10_quiet_38 : decode cX10_quiet 38 = .ok (.aload_n 0, 1) := by decide +kernel
theorem dX10_quiet_39 : decode cX10_quiet 39 = .ok (.iload_n 2, 1) := by decide +kernel
theorem dX10_quiet_40 : decode cX10_quiet 40 = .ok (.iload 4, 2) := by decide +kernel
theorem dX10_quiet_42 : decode cX10_quiet 42 = .ok (.invokevirtual 155, 3) := by decide +kernel
theorem dX10_quiet_45 : decode cX10_quiet 45 = .ok (.ifCond .ne 7, 3) := by decide +kernel
theorem dX10_quiet_48 : decode cX10_quiet 48 = .ok (.iconst 1, 1) := by decide +kernel
theorem dX10_quiet_49 : decode cX10_quiet 49 = .ok (.goto 4, 3) := by decide +kernel
theorem dX10_quiet_52 : decode cX10_quiet 52 = .ok (.iconst 0, 1) := by decide +kernel
theorem dX10_quiet_53 : decode cX10_quiet 53 = .ok (.istore_n 3, 1) := by decide +kernel
theorem dX10_quiet_54 : decode cX10_quiet 54 = .ok (.iinc 4 1, 3) := by decide +kernel
theorem dX10_quiet_57 : decode cX10_quiet 57 = .ok (.goto (-32), 3) := by decide +kernel
theorem dX10_quiet_60 : decode cX10_quiet 60 = .ok (.iload_n 1, 1) := by decide +kernel
theorem dX10_quiet_61 : decode cX10_quiet 61 = .ok (.iload_n 3, 1) := by decide +kernel
theorem dX10_quiet_62 : decode cX10_quiet 62 = .ok (.ifCond .eq 9, 3) := by decide +kernel
theorem dX10_quiet_65 : decode cX10_quiet 65 = .ok (.iconst 1, 1) := by decide +kernel
theorem dX10_quiet_66 : decode cX10_quiet 66 = .ok (.iload_n 2, 1) := by decide +kernel
theorem dX10_quiet_67 : decode cX10_quiet 67 = .ok (.ishl, 1) := by decide +kernel
theorem dX10_quiet_68 : decode cX10_quiet 68 = .ok (.goto 4, 3) := by decide +kernel
theorem dX10_quiet_71 : decode cX10_quiet 71 = .ok (.iconst 0, 1) := by decide +kernel
theorem dX10_quiet_72 : decode cX10_quiet 72 = .ok (.ior, 1) := by decide +kernel
theorem dX10_quiet_73 : decode cX10_quiet 73 = .ok (.istore_n 1, 1) := by decide +kernel
theorem dX10_quiet_74 : decode cX10_quiet 74 = .ok (.iinc 2 1, 3) := by decide +kernel
theorem dX10_quiet_77 : decode cX10_quiet 77 = .ok (.goto (-65), 3) := by decide +kernel
theorem dX10_quiet_80 : decode cX10_quiet 80 = .ok (.iload_n 1, 1) := by decide +kernel
theorem dX10_quiet_81 : decode cX10_quiet 81 = .ok (.ireturn, 1) := by decide +kernel
set_option maxRecDepth 20000 in
theorem ggX10_cloak_X10_isRelative : GoodIn wsX10_cloak wsX10_isRelative := goodIn_r _ [9, 10, 11, 12, 8, 13, 30, 31, 32, 33, 34, 35, 36, 37, 38, 39, 40, 41, 42, 43, 44, 45, 46, 47, 48, 49, 50, 51, 52, 53, 54] (by decide +kernel) (by decide +kernel)
set_option maxRecDepth 20000 in
theorem gX10_cloak_X10_isRelative : GoodIn wsX10_cloak (wsV RX10 163 RX10 yX10_isRelative wsX10_isRelative) := goodIn_app (goodIn_of _ (by decide +kernel)) ggX10_cloak_X10_isRelative
set_option maxRecDepth 20000 in
theorem ggX10_cloak_X10_in : GoodIn wsX10_cloak wsX10_in := goodIn_r _ [13] (by decide +kernel) (by decide +kernel)
set_option maxRecDepth 20000 in
theorem gX10_cloak_X10_in : GoodIn wsX10_cloak (va_wsS RX10 79 yX10_in wsX10_in) := goodIn_app (goodIn_of _ (by decide +kernel)) ggX10_cloak_X10_in
set_option maxRecDepth 20000 in
theorem ggX10_cloak_X10_from : GoodIn wsX10_cloak wsX10_from := goodIn_r _ [17, 4, 18, 19, 8, 20, 30, 31, 32, 33, 34, 35, 36, 37, 38, 39, 40, 41, 42, 43, 44, 45, 46, 47, 48, 49, 50, 51, 52, 53, 54] (by decide +kernel) (by decide +kernel)
set_option maxRecDepth 20000 in
theorem gX10_cloak_X10_from : GoodIn wsX10_cloak (wsV RX10 166 RX10 yX10_from wsX10_from) := goodIn_app (goodIn_of _ (by decide +kernel)) ggX10_cloak_X10_from
set_option maxRecDepth 20000 in
theorem ggX10_cloak_X10_bits : GoodIn wsX10_cloak wsX10_bits := goodIn_r _ [23] (by decide +kernel) (by decide +kernel)
set_option maxRecDepth 20000 in
theorem gX10_cloak_X10_bits : GoodIn wsX10_cloak (va_wsS RX10 142 yX10_bits wsX10_bits) := goodIn_app (goodIn_of _ (by decide +kernel)) ggX10_cloak_X10_bits
set_option maxRecDepth 20000 in
theorem ggX10_cloak_X10_isAsking : GoodIn wsX10_cloak wsX10_isAsking := goodIn_r _ [27, 3, 4, 28, 29, 21, 22, 8, 23, 30, 31, 32, 33, 34, 35, 36, 37, 38, 39, 40, 41, 42, 43, 44, 45, 46, 47, 48, 49, 50, 51, 52, 53, 54] (by decide +kernel) (by decide +kernel)
set_option maxRecDepth 20000 in
theorem gX10_cloak_X10_isAsking : GoodIn wsX10_cloak (wsV RX10 155 RX10 yX10_isAsking wsX10_isAsking) := goodIn_app (goodIn_of _ (by decide +kernel)) ggX10_cloak_X10_isAsking
theorem dX10_cloak_0 : decode cX10_cloak 0 = .ok (.aload_n 0, 1) := by decide +kernel
theorem dX10_cloak_1 : decode cX10_cloak 1 = .ok (.iload_n 1, 1) := by decide +kernel
theorem dX10_cloak_2 : decode cX10_cloak 2 = .ok (.invokevirtual 163, 3) := by decide +kernel
theorem dX10_cloak_5 : decode cX10_cloak 5 = .ok (.ifCond .eq 12, 3) := by decide +kernel
theorem dX10_cloak_8 : decode cX10_cloak 8 = .ok (.iload_n 2, 1) := by decide +kernel
theorem dX10_cloak_9 : decode cX10_cloak 9 = .ok (.iconst 0, 1) := by decide +kernel
theorem dX10_cloak_10 : decode cX10_cloak 10 = .ok (.iconst 1, 1) := by decide +kernel
theorem dX10_cloak_11 : decode cX10_cloak 11 = .ok (.invokestatic 79, 3) := by decide +kernel
theorem dX10_cloak_14 : decode cX10_cloak 14 = .ok (.ifCond .ne 5, 3) := by decide +kernel
theorem dX10_cloak_17 : decode cX10_cloak 17 = .ok (.iconst (-1), 1) := by decide +kernel
theorem dX10_cloak_18 : decode cX10_cloak 18 = .ok (.ireturn, 1) := by decide +kernel
theorem dX10_cloak_19 : decode cX10_cloak 19 = .ok (.aload_n 0, 1) := by decide +kernel
theorem dX10_cloak_20 : decode cX10_cloak 20 = .ok (.aload_n 0, 1) := by decide +kernel
theorem dX10_cloak_21 : decode cX10_cloak 21 = .ok (.getfield 16, 3) := by decide +kernel
theorem dX10_cloak_24 : decode cX10_cloak 24 = .ok (.invokevirtual 166, 3) := by decide +kernel
theorem dX10_cloak_27 : decode cX10_cloak 27 = .ok (.bipush (-4), 2) := by decide +kernel
theorem dX10_cloak_29 : decode cX10_cloak 29 = .ok (.istore_n 3, 1) := by decide +kernel
theorem dX10_cloak_30 : decode cX10_cloak 30 = .ok (.bipush (-4), 2) := by decide +kernel
theorem dX10_cloak_32 : decode cX10_cloak 32 = .ok (.istore 4, 2) := by decide +kernel
theorem dX10_cloak_34 : decode cX10_cloak 34 = .ok (.iconst 0, 1) := by decide +kernel
theorem dX10_cloak_35 : decode cX10_cloak 35 = .ok (.istore 5, 2) := by decide +kernel
theorem dX10_cloak_37 : decode cX10_cloak 37 = .ok (.iload 5, 2) := by decide +kernel
theorem dX10_cloak_39 : decode cX10_cloak 39 = .ok (.aload_n 0, 1) := by decide +kernel
theorem dX10_cloak_40 : decode cX10_cloak 40 = .ok (.getfield 123, 3) := by decide +kernel
theorem dX10_cloak_43 : decode cX10_cloak 43 = .ok (.if_icmp .ge 80, 3) := by decide +kernel
theorem dX10_cloak_46 : decode cX10_cloak 46 = .ok (.aload_n 0, 1) := by decide +kernel
theorem dX10_cloak_47 : decode cX10_cloak 47 = .ok (.getfield 13, 3) := by decide +kernel
theorem dX10_cloak_50 : decode cX10_cloak 50 = .ok (.iconst 2, 1) := by decide +kernel
theorem dX10_cloak_51 : decode cX10_cloak 51 = .ok (.iload 5, 2) := by decide +kernel
theorem dX10_cloak_53 : decode cX10_cloak 53 = .ok (.imul, 1) := by decide +kernel
theorem dX10_cloak_54 : decode cX10_cloak 54 = .ok (.iaload, 1) := by decide +kernel
theorem dX10_cloak_55 : decode cX10_cloak 55 = .ok (.aload_n 0, 1) := by decide +kernel
theorem dX10_cloak_56 : decode cX10_cloak 56 = .ok (.getfield 43, 3) := by decide +kernel
theorem dX10_cloak_59 : decode cX10_cloak 59 = .ok (.iconst 2, 1) := by decide +kernel
theorem dX10_cloak_60 : decode cX10_cloak 60 = .ok (.iaload, 1) := by decide +kernel
theorem dX10_cloak_61 : decode cX10_cloak 61 = .ok (.iand, 1) := by decide +kernel
theorem dX10_cloak_62 : decode cX10_cloak 62 = .ok (.invokestatic 142, 3) := by decide +kernel
theorem dX10_cloak_65 : decode cX10_cloak 65 = .ok (.istore 6, 2) := by decide +kernel
theorem dX10_cloak_67 : decode cX10_cloak 67 = .ok (.aload_n 0, 1) := by decide +kernel
theorem dX10_cloak_68 : decode cX10_cloak 68 = .ok (.iload 5, 2) := by decide +kernel
theorem dX10_cloak_70 : decode cX10_cloak 70 = .ok (.iload_n 1, 1) := by decide +kernel
theorem dX10_cloak_71 : decode cX10_cloak 71 = .ok (.invokevirtual 155, 3) := by decide +kernel
theorem dX10_cloak_74 : decode cX10_cloak 74 = .ok (.ifCond .ne 14, 3) := by decide +kernel
theorem dX10_cloak_77 : decode cX10_cloak 77 = .ok (.iload 6, 2) := by decide +kernel
theorem dX10_cloak_79 : decode cX10_cloak 79 = .ok (.iload 4, 2) := by decide +kernel
theorem dX10_cloak_81 : decode cX10_cloak 81 = .ok (.if_icmp .le 7, 3) := by decide +kernel
theorem dX10_cloak_84 : decode cX10_cloak 84 = .ok (.iconst 1, 1) := by decide +kernel
theorem dX10_cloak_85 : decode cX10_cloak 85 = .ok (.goto 4, 3) := by decide +kernel
theorem dX10_cloak_88 : decode cX10_cloak 88 = .ok (.iconst 0, 1) := by decide +kernel
theorem dX10_cloak_89 : decode cX10_cloak 89 = .ok (.istore 7, 2) := by decide +kernel
theorem dX10_cloak_91 : decode cX10_cloak 91 = .ok (.iload 7, 2) := by decide +kernel
theorem dX10_cloak_93 : decode cX10_cloak 93 = .ok (.ifCond .eq 8, 3) := by decide +kernel
theorem dX10_cloak_96 : decode cX10_cloak 96 = .ok (.iload 5, 2) := by decide +kernel
theorem dX10_cloak_98 : decode cX10_cloak 98 = .ok (.goto 4, 3) := by decide +kernel
theorem dX10_cloak_101 : decode cX10_cloak 101 = .ok (.iload_n 3, 1) := by decide +kernel
theorem dX10_cloak_102 : decode cX10_cloak 102 = .ok (.istore_n 3, 1) := by decide +kernel
theorem dX10_cloak_103 : decode cX10_cloak 103 = .ok (.iload 7, 2) := by decide +kernel
theorem dX10_cloak_105 : decode cX10_cloak 105 = .ok (.ifCond .eq 8, 3) := by decide +kernel
theorem dX10_cloak_108 : decode cX10_cloak 108 = .ok (.iload 6, 2) := by decide +kernel
theorem dX10_cloak_110 : decode cX10_cloak 110 = .ok (.goto 5, 3) := by decide +kernel
theorem dX10_cloak_113 : decode cX10_cloak 113 = .ok (.iload 4, 2) := by decide +kernel
theorem dX10_cloak_115 : decode cX10_cloak 115 = .ok (.istore 4, 2) := by decide +kernel
theorem dX10_cloak_117 : decode cX10_cloak 117 = .ok (.iinc 5 1, 3) := by decide +kernel
theorem dX10_cloak_120 : decode cX10_cloak 120 = .ok (.goto (-83), 3) := by decide +kernel
theorem dX10_cloak_123 : decode cX10_cloak 123 = .ok (.iload_n 2, 1) := by decide +kernel
theorem dX10_cloak_124 : decode cX10_cloak 124 = .ok (.ifCond .ne 7, 3) := by decide +kernel
theorem dX10_cloak_127 : decode cX10_cloak 127 = .ok (.iload_n 3, 1) := by decide +kernel
theorem dX10_cloak_128 : decode cX10_cloak 128 = .ok (.goto 5, 3) := by decide +kernel
theorem dX10_cloak_131 : decode cX10_cloak 131 = .ok (.iload 4, 2) := by decide +kernel
theorem dX10_cloak_133 : decode cX10_cloak 133 = .ok (.ireturn, 1) := by decide +kernel
set_option maxRecDepth 20000 in
theorem ggX10_allKnow_X10_from : GoodIn wsX10_allKnow wsX10_from := goodIn_r _ [7, 8, 9, 10, 6, 11, 33, 34, 35, 36, 37, 38, 39, 40, 41, 42, 43, 44, 45, 46, 47, 48, 49, 50, 51, 52, 53, 54, 55, 56, 57] (by decide +kernel) (by decide +kernel)
set_option maxRecDepth 20000 in
theorem gX10_allKnow_X10_from : GoodIn wsX10_allKnow (wsV RX10 166 RX10 yX10_from wsX10_from) := goodIn_app (goodIn_of _ (by decide +kernel)) ggX10_allKnow_X10_from
set_option maxRecDepth 20000 in
theorem ggX10_allKnow_X10_knowsOf : GoodIn wsX10_allKnow wsX10_knowsOf := goodIn_r _ [15, 16, 17, 18, 19, 6, 20, 8, 33, 34, 35, 36, 37, 38, 39, 40, 41, 42, 43, 44, 45, 46, 47, 48, 49, 50, 51, 52, 53, 54, 55, 56, 57] (by decide +kernel) (by decide +kernel)
set_option maxRecDepth 20000 in
theorem gX10_allKnow_X10_knowsOf : GoodIn wsX10_allKnow (wsV RX10 170 RX10 yX10_knowsOf wsX10_knowsOf) := goodIn_app (goodIn_of _ (by decide +kernel)) ggX10_allKnow_X10_knowsOf
set_option maxRecDepth 20000 in
theorem ggX10_allKnow_X10_agoBy : GoodIn wsX10_allKnow wsX10_agoBy := goodIn_r _ [20, 8, 33, 34, 35, 36, 37, 38, 39, 40, 41, 42, 43, 44, 45, 46, 47, 48, 49, 50, 51, 52, 53, 54, 55, 56, 57] (by decide +kernel) (by decide +kernel)
set_option maxRecDepth 20000 in
theorem gX10_allKnow_X10_agoBy : GoodIn wsX10_allKnow (wsV RX10 145 RX10 yX10_agoBy wsX10_agoBy) := goodIn_app (goodIn_of _ (by decide +kernel)) ggX10_allKnow_X10_agoBy
set_option maxRecDepth 20000 in
theorem ggX10_allKnow_X10_goesToNoon : GoodIn wsX10_allKnow wsX10_goesToNoon := goodIn_r _ [24, 8, 2, 25, 26, 27, 6, 28, 29, 30, 31, 32, 17, 18, 19, 20, 33, 34, 35, 36, 37, 38, 39, 40, 41, 42, 43, 44, 45, 46, 47, 48, 49, 50, 51, 52, 53, 54, 55, 56, 57] (by decide +kernel) (by decide +kernel)
set_option maxRecDepth 20000 in
theorem gX10_allKnow_X10_goesToNoon : GoodIn wsX10_allKnow (wsV RX10 179 RX10 yX10_goesToNoon wsX10_goesToNoon) := goodIn_app (goodIn_of _ (by decide +kernel)) ggX10_allKnow_X10_goesToNoon
theorem dX10_allKnow_0 : decode cX10_allKnow 0 = .ok (.aload_n 0, 1) := by decide +kernel
theorem dX10_allKnow_1 : decode cX10_allKnow 1 = .ok (.aload_n 0, 1) := by decide +kernel
theorem dX10_allKnow_2 : decode cX10_allKnow 2 = .ok (.getfield 16, 3) := by decide +kernel
theorem dX10_allKnow_5 : decode cX10_allKnow 5 = .ok (.invokevirtual 166, 3) := by decide +kernel
theorem dX10_allKnow_8 : decode cX10_allKnow 8 = .ok (.iconst 0, 1) := by decide +kernel
theorem dX10_allKnow_9 : decode cX10_allKnow 9 = .ok (.istore_n 1, 1) := by decide +kernel
theorem dX10_allKnow_10 : decode cX10_allKnow 10 = .ok (.iconst 0, 1) := by decide +kernel
theorem dX10_allKnow_11 : decode cX10_allKnow 11 = .ok (.istore_n 2, 1) := by decide +kernel
theorem dX10_allKnow_12 : decode cX10_allKnow 12 = .ok (.iload_n 2, 1) := by decide +kernel
theorem dX10_allKnow_13 : decode cX10_allKnow 13 = .ok (.ifCond .ne 80, 3) := by decide +kernel
theorem dX10_allKnow_16 : decode cX10_allKnow 16 = .ok (.iconst 1, 1) := by decide +kernel
theorem dX10_allKnow_17 : decode cX10_allKnow 17 = .ok (.istore_n 2, 1) := by decide +kernel
theorem dX10_allKnow_18 : decode cX10_allKnow 18 = .ok (.iconst 0, 1) := by decide +kernel
theorem dX10_allKnow_19 : decode cX10_allKnow 19 = .ok (.istore_n 3, 1) := by decide +kernel
theorem dX10_allKnow_20 : decode cX10_allKnow 20 = .ok (.iload_n 3, 1) := by decide +kernel
theorem dX10_allKnow_21 : decode cX10_allKnow 21 = .ok (.aload_n 0, 1) := by decide +kernel
theorem dX10_allKnow_22 : decode cX10_allKnow 22 = .ok (.getfield 76, 3) := by decide +kernel
theorem dX10_allKnow_25 : decode cX10_allKnow 25 = .ok (.if_icmp .ge 54, 3) := by decide +kernel
theorem dX10_allKnow_28 : decode cX10_allKnow 28 = .ok (.iconst 0, 1) := by decide +kernel
theorem dX10_allKnow_29 : decode cX10_allKnow 29 = .ok (.istore 4, 2) := by decide +kernel
theorem dX10_allKnow_31 : decode cX10_allKnow 31 = .ok (.iload 4, 2) := by decide +kernel
theorem dX10_allKnow_33 : decode cX10_allKnow 33 = .ok (.aload_n 0, 1) := by decide +kernel
theorem dX10_allKnow_34 : decode cX10_allKnow 34 = .ok (.getfield 76, 3) := by decide +kernel
theorem dX10_allKnow_37 : decode cX10_allKnow 37 = .ok (.if_icmp .ge 36, 3) := by decide +kernel
theorem dX10_allKnow_40 : decode cX10_allKnow 40 = .ok (.iload_n 2, 1) := by decide +kernel
theorem dX10_allKnow_41 : decode cX10_allKnow 41 = .ok (.ifCond .eq 24, 3) := by decide +kernel
theorem dX10_allKnow_44 : decode cX10_allKnow 44 = .ok (.aload_n 0, 1) := by decide +kernel
theorem dX10_allKnow_45 : decode cX10_allKnow 45 = .ok (.iload_n 3, 1) := by decide +kernel
theorem dX10_allKnow_46 : decode cX10_allKnow 46 = .ok (.iload 4, 2) := by decide +kernel
theorem dX10_allKnow_48 : decode cX10_allKnow 48 = .ok (.invokevirtual 170, 3) := by decide +kernel
theorem dX10_allKnow_51 : decode cX10_allKnow 51 = .ok (.aload_n 0, 1) := by decide +kernel
theorem dX10_allKnow_52 : decode cX10_allKnow 52 = .ok (.iload 4, 2) := by decide +kernel
theorem dX10_allKnow_54 : decode cX10_allKnow 54 = .ok (.iconst 0, 1) := by decide +kernel
theorem dX10_allKnow_55 : decode cX10_allKnow 55 = .ok (.invokevirtual 145, 3) := by decide +kernel
theorem dX10_allKnow_58 : decode cX10_allKnow 58 = .ok (.if_icmp .ne 7, 3) := by decide +kernel
theorem dX10_allKnow_61 : decode cX10_allKnow 61 = .ok (.iconst 1, 1) := by decide +kernel
theorem dX10_allKnow_62 : decode cX10_allKnow 62 = .ok (.goto 4, 3) := by decide +kernel
theorem dX10_allKnow_65 : decode cX10_allKnow 65 = .ok (.iconst 0, 1) := by decide +kernel
theorem dX10_allKnow_66 : decode cX10_allKnow 66 = .ok (.istore_n 2, 1) := by decide +kernel
theorem dX10_allKnow_67 : decode cX10_allKnow 67 = .ok (.iinc 4 1, 3) := by decide +kernel
theorem dX10_allKnow_70 : decode cX10_allKnow 70 = .ok (.goto (-39), 3) := by decide +kernel
theorem dX10_allKnow_73 : decode cX10_allKnow 73 = .ok (.iinc 3 1, 3) := by decide +kernel
theorem dX10_allKnow_76 : decode cX10_allKnow 76 = .ok (.goto (-56), 3) := by decide +kernel
theorem dX10_allKnow_79 : decode cX10_allKnow 79 = .ok (.iload_n 2, 1) := by decide +kernel
theorem dX10_allKnow_80 : decode cX10_allKnow 80 = .ok (.ifCond .ne (-68), 3) := by decide +kernel
theorem dX10_allKnow_83 : decode cX10_allKnow 83 = .ok (.aload_n 0, 1) := by decide +kernel
theorem dX10_allKnow_84 : decode cX10_allKnow 84 = .ok (.invokevirtual 179, 3) := by decide +kernel
theorem dX10_allKnow_87 : decode cX10_allKnow 87 = .ok (.iinc 1 1, 3) := by decide +kernel
theorem dX10_allKnow_90 : decode cX10_allKnow 90 = .ok (.goto (-78), 3) := by decide +kernel
theorem dX10_allKnow_93 : decode cX10_allKnow 93 = .ok (.iload_n 1, 1) := by decide +kernel
theorem dX10_allKnow_94 : decode cX10_allKnow 94 = .ok (.ireturn, 1) := by decide +kernel
set_option maxRecDepth 20000 in
theorem ggX10_lasts_X10_in : GoodIn wsX10_lasts wsX10_in := goodIn_r _ [10] (by decide +kernel) (by decide +kernel)
set_option maxRecDepth 20000 in
theorem gX10_lasts_X10_in : GoodIn wsX10_lasts (va_wsS RX10 79 yX10_in wsX10_in) := goodIn_app (goodIn_of _ (by decide +kernel)) ggX10_lasts_X10_in
set_option maxRecDepth 20000 in
theorem ggX10_lasts_X10_from : GoodIn wsX10_lasts wsX10_from := goodIn_r _ [14, 6, 15, 16, 9, 17, 38, 39, 40, 41, 42, 43, 44, 45, 46, 47, 48, 49, 50, 51, 52, 53, 54, 55, 56, 57, 58, 59, 60, 61, 62] (by decide +kernel) (by decide +kernel)
set_option maxRecDepth 20000 in
theorem gX10_lasts_X10_from : GoodIn wsX10_lasts (wsV RX10 166 RX10 yX10_from wsX10_from) := goodIn_app (goodIn_of _ (by decide +kernel)) ggX10_lasts_X10_from
set_option maxRecDepth 20000 in
theorem ggX10_lasts_X10_asks : GoodIn wsX10_lasts wsX10_asks := goodIn_r _ [21, 6, 38, 39, 40, 41, 42, 43, 44, 45, 46, 47, 48, 49, 50, 51, 52, 53, 54, 55, 56, 57, 58, 59, 60, 61, 62] (by decide +kernel) (by decide +kernel)
set_option maxRecDepth 20000 in
theorem gX10_lasts_X10_asks : GoodIn wsX10_lasts (wsV RX10 159 RX10 yX10_asks wsX10_asks) := goodIn_app (goodIn_of _ (by decide +kernel)) ggX10_lasts_X10_asks
set_option maxRecDepth 20000 in
theorem ggX10_lasts_X10_goesToNoon : GoodIn wsX10_lasts wsX10_goesToNoon := goodIn_r _ [25, 6, 2, 26, 27, 28, 9, 29, 30, 31, 32, 33, 34, 35, 36, 37, 38, 39, 40, 41, 42, 43, 44, 45, 46, 47, 48, 49, 50, 51, 52, 53, 54, 55, 56, 57, 58, 59, 60, 61, 62] (by decide +kernel) (by decide +kernel)
set_option maxRecDepth 20000 in
theorem gX10_lasts_X10_goesToNoon : GoodIn wsX10_lasts (wsV RX10 179 RX10 yX10_goesToNoon wsX10_goesToNoon) := goodIn_app (goodIn_of _ (by decide +kernel)) ggX10_lasts_X10_goesToNoon
theorem dX10_lasts_0 : decode cX10_lasts 0 = .ok (.iload_n 1, 1) := by decide +kernel
theorem dX10_lasts_1 : decode cX10_lasts 1 = .ok (.iconst 0, 1) := by decide +kernel
theorem dX10_lasts_2 : decode cX10_lasts 2 = .ok (.bipush 9, 2) := by decide +kernel
theorem dX10_lasts_4 : decode cX10_lasts 4 = .ok (.invokestatic 79, 3) := by decide +kernel
theorem dX10_lasts_7 : decode cX10_lasts 7 = .ok (.ifCond .eq 22, 3) := by decide +kernel
theorem dX10_lasts_10 : decode cX10_lasts 10 = .ok (.iload_n 2, 1) := by decide +kernel
theorem dX10_lasts_11 : decode cX10_lasts 11 = .ok (.iconst 0, 1) := by decide +kernel
theorem dX10_lasts_12 : decode cX10_lasts 12 = .ok (.bipush 10, 2) := by decide +kernel
theorem dX10_lasts_14 : decode cX10_lasts 14 = .ok (.invokestatic 79, 3) := by decide +kernel
theorem dX10_lasts_17 : decode cX10_lasts 17 = .ok (.ifCond .eq 12, 3) := by decide +kernel
theorem dX10_lasts_20 : decode cX10_lasts 20 = .ok (.iload_n 3, 1) := by decide +kernel
theorem dX10_lasts_21 : decode cX10_lasts 21 = .ok (.iconst 0, 1) := by decide +kernel
theorem dX10_lasts_22 : decode cX10_lasts 22 = .ok (.iconst 1, 1) := by decide +kernel
theorem dX10_lasts_23 : decode cX10_lasts 23 = .ok (.invokestatic 79, 3) := by decide +kernel
theorem dX10_lasts_26 : decode cX10_lasts 26 = .ok (.ifCond .ne 7, 3) := by decide +kernel
theorem dX10_lasts_29 : decode cX10_lasts 29 = .ok (.ldc2_w 188, 3) := by decide +kernel
theorem dX10_lasts_32 : decode cX10_lasts 32 = .ok (.lreturn, 1) := by decide +kernel
theorem dX10_lasts_33 : decode cX10_lasts 33 = .ok (.iconst 0, 1) := by decide +kernel
theorem dX10_lasts_34 : decode cX10_lasts 34 = .ok (.istore 4, 2) := by decide +kernel
theorem dX10_lasts_36 : decode cX10_lasts 36 = .ok (.aload_n 0, 1) := by decide +kernel
theorem dX10_lasts_37 : decode cX10_lasts 37 = .ok (.getfield 76, 3) := by decide +kernel
theorem dX10_lasts_40 : decode cX10_lasts 40 = .ok (.iconst 1, 1) := by decide +kernel
theorem dX10_lasts_41 : decode cX10_lasts 41 = .ok (.isub, 1) := by decide +kernel
theorem dX10_lasts_42 : decode cX10_lasts 42 = .ok (.istore 5, 2) := by decide +kernel
theorem dX10_lasts_44 : decode cX10_lasts 44 = .ok (.iload 5, 2) := by decide +kernel
theorem dX10_lasts_46 : decode cX10_lasts 46 = .ok (.ifCond .lt 31, 3) := by decide +kernel
theorem dX10_lasts_49 : decode cX10_lasts 49 = .ok (.aload_n 0, 1) := by decide +kernel
theorem dX10_lasts_50 : decode cX10_lasts 50 = .ok (.getfield 7, 3) := by decide +kernel
theorem dX10_lasts_53 : decode cX10_lasts 53 = .ok (.iconst 3, 1) := by decide +kernel
theorem dX10_lasts_54 : decode cX10_lasts 54 = .ok (.iload 5, 2) := by decide +kernel
theorem dX10_lasts_56 : decode cX10_lasts 56 = .ok (.imul, 1) := by decide +kernel
theorem dX10_lasts_57 : decode cX10_lasts 57 = .ok (.iaload, 1) := by decide +kernel
theorem dX10_lasts_58 : decode cX10_lasts 58 = .ok (.iconst 3, 1) := by decide +kernel
theorem dX10_lasts_59 : decode cX10_lasts 59 = .ok (.if_icmp .ne 8, 3) := by decide +kernel
theorem dX10_lasts_62 : decode cX10_lasts 62 = .ok (.iload 5, 2) := by decide +kernel
theorem dX10_lasts_64 : decode cX10_lasts 64 = .ok (.goto 5, 3) := by decide +kernel
theorem dX10_lasts_67 : decode cX10_lasts 67 = .ok (.iload 4, 2) := by decide +kernel
theorem dX10_lasts_69 : decode cX10_lasts 69 = .ok (.istore 4, 2) := by decide +kernel
theorem dX10_lasts_71 : decode cX10_lasts 71 = .ok (.iinc 5 (-1), 3) := by decide +kernel
theorem dX10_lasts_74 : decode cX10_lasts 74 = .ok (.goto (-30), 3) := by decide +kernel
theorem dX10_lasts_77 : decode cX10_lasts 77 = .ok (.lconst 0, 1) := by decide +kernel
theorem dX10_lasts_78 : decode cX10_lasts 78 = .ok (.lstore 5, 2) := by decide +kernel
theorem dX10_lasts_80 : decode cX10_lasts 80 = .ok (.lconst 1, 1) := by decide +kernel
theorem dX10_lasts_81 : decode cX10_lasts 81 = .ok (.lstore 7, 2) := by decide +kernel
theorem dX10_lasts_83 : decode cX10_lasts 83 = .ok (.iconst 0, 1) := by decide +kernel
theorem dX10_lasts_84 : decode cX10_lasts 84 = .ok (.istore 9, 2) := by decide +kernel
theorem dX10_lasts_86 : decode cX10_lasts 86 = .ok (.iload 9, 2) := by decide +kernel
theorem dX10_lasts_88 : decode cX10_lasts 88 = .ok (.iload_n 1, 1) := by decide +kernel
theorem dX10_lasts_89 : decode cX10_lasts 89 = .ok (.if_icmp .ge 17, 3) := by decide +kernel
theorem dX10_lasts_92 : decode cX10_lasts 92 = .ok (.lload 7, 2) := by decide +kernel
theorem dX10_lasts_94 : decode cX10_lasts 94 = .ok (.ldc2_w 190, 3) := by decide +kernel
theorem dX10_lasts_97 : decode cX10_lasts 97 = .ok (.lmul, 1) := by decide +kernel
theorem dX10_lasts_98 : decode cX10_lasts 98 = .ok (.lstore 7, 2) := by decide +kernel
theorem dX10_lasts_100 : decode cX10_lasts 100 = .ok (.iinc 9 1, 3) := by decide +kernel
theorem dX10_lasts_103 : decode cX10_lasts 103 = .ok (.goto (-17), 3) := by decide +kernel
theorem dX10_lasts_106 : decode cX10_lasts 106 = .ok (.iconst 0, 1) := by decide +kernel
theorem dX10_lasts_107 : decode cX10_lasts 107 = .ok (.istore 9, 2) := by decide +kernel
theorem dX10_lasts_109 : decode cX10_lasts 109 = .ok (.iload 9, 2) := by decide +kernel
theorem dX10_lasts_111 : decode cX10_lasts 111 = .ok (.iconst 1, 1) := by decide +kernel
theorem dX10_lasts_112 : decode cX10_lasts 112 = .ok (.iload_n 1, 1) := by decide +kernel
theorem dX10_lasts_113 : decode cX10_lasts 113 = .ok (.ishl, 1) := by decide +kernel
theorem dX10_lasts_114 : decode cX10_lasts 114 = .ok (.if_icmp .ge 114, 3) := by decide +kernel
theorem dX10_lasts_117 : decode cX10_lasts 117 = .ok (.lconst 1, 1) := by decide +kernel
theorem dX10_lasts_118 : decode cX10_lasts 118 = .ok (.lstore 10, 2) := by decide +kernel
theorem dX10_lasts_120 : decode cX10_lasts 120 = .ok (.aload_n 0, 1) := by decide +kernel
theorem dX10_lasts_121 : decode cX10_lasts 121 = .ok (.aload_n 0, 1) := by decide +kernel
theorem dX10_lasts_122 : decode cX10_lasts 122 = .ok (.getfield 16, 3) := by decide +kernel
theorem dX10_lasts_125 : decode cX10_lasts 125 = .ok (.invokevirtual 166, 3) := by decide +kernel
theorem dX10_lasts_128 : decode cX10_lasts 128 = .ok (.iconst 0, 1) := by decide +kernel
theorem dX10_lasts_129 : decode cX10_lasts 129 = .ok (.istore 12, 2) := by decide +kernel
theorem dX10_lasts_131 : decode cX10_lasts 131 = .ok (.iload 12, 2) := by decide +kernel
theorem dX10_lasts_133 : decode cX10_lasts 133 = .ok (.iload_n 1, 1) := by decide +kernel
theorem dX10_lasts_134 : decode cX10_lasts 134 = .ok (.if_icmp .ge 62, 3) := by decide +kernel
theorem dX10_lasts_137 : decode cX10_lasts 137 = .ok (.iload 9, 2) := by decide +kernel
theorem dX10_lasts_139 : decode cX10_lasts 139 = .ok (.iload 12, 2) := by decide +kernel
theorem dX10_lasts_141 : decode cX10_lasts 141 = .ok (.ishr, 1) := by decide +kernel
theorem dX10_lasts_142 : decode cX10_lasts 142 = .ok (.iconst 1, 1) := by decide +kernel
theorem dX10_lasts_143 : decode cX10_lasts 143 = .ok (.iand, 1) := by decide +kernel
theorem dX10_lasts_144 : decode cX10_lasts 144 = .ok (.iconst 1, 1) := by decide +kernel
theorem dX10_lasts_145 : decode cX10_lasts 145 = .ok (.if_icmp .ne 7, 3) := by decide +kernel
theorem dX10_lasts_148 : decode cX10_lasts 148 = .ok (.iconst 1, 1) := by decide +kernel
theorem dX10_lasts_149 : decode cX10_lasts 149 = .ok (.goto 4, 3) := by decide +kernel
theorem dX10_lasts_152 : decode cX10_lasts 152 = .ok (.iconst 0, 1) := by decide +kernel
theorem dX10_lasts_153 : decode cX10_lasts 153 = .ok (.istore 13, 2) := by decide +kernel
theorem dX10_lasts_155 : decode cX10_lasts 155 = .ok (.lload 10, 2) := by decide +kernel
theorem dX10_lasts_157 : decode cX10_lasts 157 = .ok (.iload 13, 2) := by decide +kernel
theorem dX10_lasts_159 : decode cX10_lasts 159 = .ok (.ifCond .eq 8, 3) := by decide +kernel
theorem dX10_lasts_162 : decode cX10_lasts 162 = .ok (.iload_n 2, 1) := by decide +kernel
theorem dX10_lasts_163 : decode cX10_lasts 163 = .ok (.i2l, 1) := by decide +kernel
theorem dX10_lasts_164 : decode cX10_lasts 164 = .ok (.goto 8, 3) := by decide +kernel
theorem dX10_lasts_167 : decode cX10_lasts 167 = .ok (.bipush 10, 2) := by decide +kernel
theorem dX10_lasts_169 : decode cX10_lasts 169 = .ok (.iload_n 2, 1) := by decide +kernel
theorem dX10_lasts_170 : decode cX10_lasts 170 = .ok (.isub, 1) := by decide +kernel
theorem dX10_lasts_171 : decode cX10_lasts 171 = .ok (.i2l, 1) := by decide +kernel
theorem dX10_lasts_172 : decode cX10_lasts 172 = .ok (.lmul, 1) := by decide +kernel
theorem dX10_lasts_173 : decode cX10_lasts 173 = .ok (.lstore 10, 2) := by decide +kernel
theorem dX10_lasts_175 : decode cX10_lasts 175 = .ok (.iload 13, 2) := by decide +kernel
theorem dX10_lasts_177 : decode cX10_lasts 177 = .ok (.ifCond .eq 9, 3) := by decide +kernel
theorem dX10_lasts_180 : decode cX10_lasts 180 = .ok (.aload_n 0, 1) := by decide +kernel
theorem dX10_lasts_181 : decode cX10_lasts 181 = .ok (.iload 4, 2) := by decide +kernel
theorem dX10_lasts_183 : decode cX10_lasts 183 = .ok (.invokevirtual 159, 3) := by decide +kernel
theorem dX10_lasts_186 : decode cX10_lasts 186 = .ok (.aload_n 0, 1) := by decide +kernel
theorem dX10_lasts_187 : decode cX10_lasts 187 = .ok (.invokevirtual 179, 3) := by decide +kernel
theorem dX10_lasts_190 : decode cX10_lasts 190 = .ok (.iinc 12 1, 3) := by decide +kernel
theorem dX10_lasts_193 : decode cX10_lasts 193 = .ok (.goto (-62), 3) := by decide +kernel
theorem dX10_lasts_196 : decode cX10_lasts 196 = .ok (.lload 5, 2) := by decide +kernel
theorem dX10_lasts_198 : decode cX10_lasts 198 = .ok (.aload_n 0, 1) := by decide +kernel
theorem dX10_lasts_199 : decode cX10_lasts 199 = .ok (.getfield 43, 3) := by decide +kernel
theorem dX10_lasts_202 : decode cX10_lasts 202 = .ok (.iconst 1, 1) := by decide +kernel
theorem dX10_lasts_203 : decode cX10_lasts 203 = .ok (.iaload, 1) := by decide +kernel
theorem dX10_lasts_204 : decode cX10_lasts 204 = .ok (.aload_n 0, 1) := by decide +kernel
theorem dX10_lasts_205 : decode cX10_lasts 205 = .ok (.getfield 16, 3) := by decide +kernel
theorem dX10_lasts_208 : decode cX10_lasts 208 = .ok (.iconst 1, 1) := by decide +kernel
theorem dX10_lasts_209 : decode cX10_lasts 209 = .ok (.iaload, 1) := by decide +kernel
theorem dX10_lasts_210 : decode cX10_lasts 210 = .ok (.if_icmp .ne 8, 3) := by decide +kernel
theorem dX10_lasts_213 : decode cX10_lasts 213 = .ok (.lload 10, 2) := by decide +kernel
theorem dX10_lasts_215 : decode cX10_lasts 215 = .ok (.goto 4, 3) := by decide +kernel
theorem dX10_lasts_218 : decode cX10_lasts 218 = .ok (.lconst 0, 1) := by decide +kernel
theorem dX10_lasts_219 : decode cX10_lasts 219 = .ok (.ladd, 1) := by decide +kernel
theorem dX10_lasts_220 : decode cX10_lasts 220 = .ok (.lstore 5, 2) := by decide +kernel
theorem dX10_lasts_222 : decode cX10_lasts 222 = .ok (.iinc 9 1, 3) := by decide +kernel
theorem dX10_lasts_225 : decode cX10_lasts 225 = .ok (.goto (-116), 3) := by decide +kernel
theorem dX10_lasts_228 : decode cX10_lasts 228 = .ok (.lload 5, 2) := by decide +kernel
theorem dX10_lasts_230 : decode cX10_lasts 230 = .ok (.lstore 9, 2) := by decide +kernel
theorem dX10_lasts_232 : decode cX10_lasts 232 = .ok (.lload 7, 2) := by decide +kernel
theorem dX10_lasts_234 : decode cX10_lasts 234 = .ok (.lstore 11, 2) := by decide +kernel
theorem dX10_lasts_236 : decode cX10_lasts 236 = .ok (.lload 11, 2) := by decide +kernel
theorem dX10_lasts_238 : decode cX10_lasts 238 = .ok (.lconst 0, 1) := by decide +kernel
theorem dX10_lasts_239 : decode cX10_lasts 239 = .ok (.lcmp, 1) := by decide +kernel
theorem dX10_lasts_240 : decode cX10_lasts 240 = .ok (.ifCond .le 21, 3) := by decide +kernel
theorem dX10_lasts_243 : decode cX10_lasts 243 = .ok (.lload 9, 2) := by decide +kernel
theorem dX10_lasts_245 : decode cX10_lasts 245 = .ok (.lload 11, 2) := by decide +kernel
theorem dX10_lasts_247 : decode cX10_lasts 247 = .ok (.lrem, 1) := by decide +kernel
theorem dX10_lasts_248 : decode cX10_lasts 248 = .ok (.lstore 13, 2) := by decide +kernel
theorem dX10_lasts_250 : decode cX10_lasts 250 = .ok (.lload 11, 2) := by decide +kernel
theorem dX10_lasts_252 : decode cX10_lasts 252 = .ok (.lstore 9, 2) := by decide +kernel
theorem dX10_lasts_254 : decode cX10_lasts 254 = .ok (.lload 13, 2) := by decide +kernel
theorem dX10_lasts_256 : decode cX10_lasts 256 = .ok (.lstore 11, 2) := by decide +kernel
theorem dX10_lasts_258 : decode cX10_lasts 258 = .ok (.goto (-22), 3) := by decide +kernel
theorem dX10_lasts_261 : decode cX10_lasts 261 = .ok (.iload_n 3, 1) := by decide +kernel
theorem dX10_lasts_262 : decode cX10_lasts 262 = .ok (.ifCond .ne 8, 3) := by decide +kernel
theorem dX10_lasts_265 : decode cX10_lasts 265 = .ok (.lload 5, 2) := by decide +kernel
theorem dX10_lasts_267 : decode cX10_lasts 267 = .ok (.goto 5, 3) := by decide +kernel
theorem dX10_lasts_270 : decode cX10_lasts 270 = .ok (.lload 7, 2) := by decide +kernel
theorem dX10_lasts_272 : decode cX10_lasts 272 = .ok (.lload 9, 2) := by decide +kernel
theorem dX10_lasts_274 : decode cX10_lasts 274 = .ok (.ldiv, 1) := by decide +kernel
theorem dX10_lasts_275 : decode cX10_lasts 275 = .ok (.lreturn, 1) := by decide +kernel
set_option maxRecDepth 20000 in
theorem ggX10_year_X10_in : GoodIn wsX10_year wsX10_in := goodIn_r _ [12] (by decide +kernel) (by decide +kernel)
set_option maxRecDepth 20000 in
theorem gX10_year_X10_in : GoodIn wsX10_year (va_wsS RX10 79 yX10_in wsX10_in) := goodIn_app (goodIn_of _ (by decide +kernel)) ggX10_year_X10_in
set_option maxRecDepth 20000 in
theorem ggX10_year_X10_from : GoodIn wsX10_year wsX10_from := goodIn_r _ [16, 8, 17, 18, 11, 19, 54, 55, 56, 57, 58, 59, 60, 61, 62, 63, 64, 65, 66, 67, 68, 69, 70, 71, 72, 73, 74, 75, 76, 77, 78] (by decide +kernel) (by decide +kernel)
set_option maxRecDepth 20000 in
theorem gX10_year_X10_from : GoodIn wsX10_year (wsV RX10 166 RX10 yX10_from wsX10_from) := goodIn_app (goodIn_of _ (by decide +kernel)) ggX10_year_X10_from
set_option maxRecDepth 20000 in
theorem ggX10_year_X10_saysIt : GoodIn wsX10_year wsX10_saysIt := goodIn_r _ [23, 8, 24, 25, 26, 11, 27, 28, 29, 30, 31, 32, 33, 34, 35, 36, 37, 54, 55, 56, 57, 58, 59, 60, 61, 62, 63, 64, 65, 66, 67, 68, 69, 70, 71, 72, 73, 74, 75, 76, 77, 78] (by decide +kernel) (by decide +kernel)
set_option maxRecDepth 20000 in
theorem gX10_year_X10_saysIt : GoodIn wsX10_year (wsV RX10 176 RX10 yX10_saysIt wsX10_saysIt) := goodIn_app (goodIn_of _ (by decide +kernel)) ggX10_year_X10_saysIt
set_option maxRecDepth 20000 in
theorem ggX10_year_X10_goesToNoon : GoodIn wsX10_year wsX10_goesToNoon := goodIn_r _ [41, 8, 6, 42, 43, 44, 11, 45, 46, 47, 48, 49, 50, 51, 52, 53, 54, 55, 56, 57, 58, 59, 60, 61, 62, 63, 64, 65, 66, 67, 68, 69, 70, 71, 72, 73, 74, 75, 76, 77, 78] (by decide +kernel) (by decide +kernel)
set_option maxRecDepth 20000 in
theorem gX10_year_X10_goesToNoon : GoodIn wsX10_year (wsV RX10 179 RX10 yX10_goesToNoon wsX10_goesToNoon) := goodIn_app (goodIn_of _ (by decide +kernel)) ggX10_year_X10_goesToNoon
theorem dX10_year_0 : decode cX10_year 0 = .ok (.iload_n 1, 1) := by decide +kernel
theorem dX10_year_1 : decode cX10_year 1 = .ok (.iconst 0, 1) := by decide +kernel
theorem dX10_year_2 : decode cX10_year 2 = .ok (.sipush 9999, 3) := by decide +kernel
theorem dX10_year_5 : decode cX10_year 5 = .ok (.invokestatic 79, 3) := by decide +kernel
theorem dX10_year_8 : decode cX10_year 8 = .ok (.ifCond .eq 22, 3) := by decide +kernel
theorem dX10_year_11 : decode cX10_year 11 = .ok (.iload_n 2, 1) := by decide +kernel
theorem dX10_year_12 : decode cX10_year 12 = .ok (.iconst 1, 1) := by decide +kernel
theorem dX10_year_13 : decode cX10_year 13 = .ok (.bipush 99, 2) := by decide +kernel
theorem dX10_year_15 : decode cX10_year 15 = .ok (.invokestatic 79, 3) := by decide +kernel
theorem dX10_year_18 : decode cX10_year 18 = .ok (.ifCond .eq 12, 3) := by decide +kernel
theorem dX10_year_21 : decode cX10_year 21 = .ok (.iload_n 3, 1) := by decide +kernel
theorem dX10_year_22 : decode cX10_year 22 = .ok (.iconst 0, 1) := by decide +kernel
theorem dX10_year_23 : decode cX10_year 23 = .ok (.iconst 1, 1) := by decide +kernel
theorem dX10_year_24 : decode cX10_year 24 = .ok (.invokestatic 79, 3) := by decide +kernel
theorem dX10_year_27 : decode cX10_year 27 = .ok (.ifCond .ne 5, 3) := by decide +kernel
theorem dX10_year_30 : decode cX10_year 30 = .ok (.iconst (-1), 1) := by decide +kernel
theorem dX10_year_31 : decode cX10_year 31 = .ok (.ireturn, 1) := by decide +kernel
theorem dX10_year_32 : decode cX10_year 32 = .ok (.aload_n 0, 1) := by decide +kernel
theorem dX10_year_33 : decode cX10_year 33 = .ok (.aload_n 0, 1) := by decide +kernel
theorem dX10_year_34 : decode cX10_year 34 = .ok (.getfield 16, 3) := by decide +kernel
theorem dX10_year_37 : decode cX10_year 37 = .ok (.invokevirtual 166, 3) := by decide +kernel
theorem dX10_year_40 : decode cX10_year 40 = .ok (.iconst 0, 1) := by decide +kernel
theorem dX10_year_41 : decode cX10_year 41 = .ok (.istore 4, 2) := by decide +kernel
theorem dX10_year_43 : decode cX10_year 43 = .ok (.iconst 0, 1) := by decide +kernel
theorem dX10_year_44 : decode cX10_year 44 = .ok (.istore 5, 2) := by decide +kernel
theorem dX10_year_46 : decode cX10_year 46 = .ok (.iload 5, 2) := by decide +kernel
theorem dX10_year_48 : decode cX10_year 48 = .ok (.iload_n 2, 1) := by decide +kernel
theorem dX10_year_49 : decode cX10_year 49 = .ok (.if_icmp .ge 108, 3) := by decide +kernel
theorem dX10_year_52 : decode cX10_year 52 = .ok (.ldc2_w 192, 3) := by decide +kernel
theorem dX10_year_55 : decode cX10_year 55 = .ok (.iload_n 1, 1) := by decide +kernel
theorem dX10_year_56 : decode cX10_year 56 = .ok (.i2l, 1) := by decide +kernel
theorem dX10_year_57 : decode cX10_year 57 = .ok (.lmul, 1) := by decide +kernel
theorem dX10_year_58 : decode cX10_year 58 = .ok (.ldc2_w 194, 3) := by decide +kernel
theorem dX10_year_61 : decode cX10_year 61 = .ok (.iload 5, 2) := by decide +kernel
theorem dX10_year_63 : decode cX10_year 63 = .ok (.i2l, 1) := by decide +kernel
theorem dX10_year_64 : decode cX10_year 64 = .ok (.lmul, 1) := by decide +kernel
theorem dX10_year_65 : decode cX10_year 65 = .ok (.ladd, 1) := by decide +kernel
theorem dX10_year_66 : decode cX10_year 66 = .ok (.lconst 1, 1) := by decide +kernel
theorem dX10_year_67 : decode cX10_year 67 = .ok (.ladd, 1) := by decide +kernel
theorem dX10_year_68 : decode cX10_year 68 = .ok (.lstore 6, 2) := by decide +kernel
theorem dX10_year_70 : decode cX10_year 70 = .ok (.lload 6, 2) := by decide +kernel
theorem dX10_year_72 : decode cX10_year 72 = .ok (.lload 6, 2) := by decide +kernel
theorem dX10_year_74 : decode cX10_year 74 = .ok (.lmul, 1) := by decide +kernel
theorem dX10_year_75 : decode cX10_year 75 = .ok (.ldc2_w 196, 3) := by decide +kernel
theorem dX10_year_78 : decode cX10_year 78 = .ok (.lrem, 1) := by decide +kernel
theorem dX10_year_79 : decode cX10_year 79 = .ok (.ldc2_w 198, 3) := by decide +kernel
theorem dX10_year_82 : decode cX10_year 82 = .ok (.ldiv, 1) := by decide +kernel
theorem dX10_year_83 : decode cX10_year 83 = .ok (.l2i, 1) := by decide +kernel
theorem dX10_year_84 : decode cX10_year 84 = .ok (.istore 8, 2) := by decide +kernel
theorem dX10_year_86 : decode cX10_year 86 = .ok (.iload 8, 2) := by decide +kernel
theorem dX10_year_88 : decode cX10_year 88 = .ok (.bipush 64, 2) := by decide +kernel
theorem dX10_year_90 : decode cX10_year 90 = .ok (.idiv, 1) := by decide +kernel
theorem dX10_year_91 : decode cX10_year 91 = .ok (.iconst 3, 1) := by decide +kernel
theorem dX10_year_92 : decode cX10_year 92 = .ok (.irem, 1) := by decide +kernel
theorem dX10_year_93 : decode cX10_year 93 = .ok (.ifCond .ne 25, 3) := by decide +kernel
theorem dX10_year_96 : decode cX10_year 96 = .ok (.aload_n 0, 1) := by decide +kernel
theorem dX10_year_97 : decode cX10_year 97 = .ok (.iload 8, 2) := by decide +kernel
theorem dX10_year_99 : decode cX10_year 99 = .ok (.aload_n 0, 1) := by decide +kernel
theorem dX10_year_100 : decode cX10_year 100 = .ok (.getfield 76, 3) := by decide +kernel
theorem dX10_year_103 : decode cX10_year 103 = .ok (.irem, 1) := by decide +kernel
theorem dX10_year_104 : decode cX10_year 104 = .ok (.iload 8, 2) := by decide +kernel
theorem dX10_year_106 : decode cX10_year 106 = .ok (.bipush 8, 2) := by decide +kernel
theorem dX10_year_108 : decode cX10_year 108 = .ok (.idiv, 1) := by decide +kernel
theorem dX10_year_109 : decode cX10_year 109 = .ok (.aload_n 0, 1) := by decide +kernel
theorem dX10_year_110 : decode cX10_year 110 = .ok (.getfield 123, 3) := by decide +kernel
theorem dX10_year_113 : decode cX10_year 113 = .ok (.irem, 1) := by decide +kernel
theorem dX10_year_114 : decode cX10_year 114 = .ok (.invokevirtual 176, 3) := by decide +kernel
theorem dX10_year_117 : decode cX10_year 117 = .ok (.pop, 1) := by decide +kernel
theorem dX10_year_118 : decode cX10_year 118 = .ok (.aload_n 0, 1) := by decide +kernel
theorem dX10_year_119 : decode cX10_year 119 = .ok (.getfield 43, 3) := by decide +kernel
theorem dX10_year_122 : decode cX10_year 122 = .ok (.iconst 1, 1) := by decide +kernel
theorem dX10_year_123 : decode cX10_year 123 = .ok (.iaload, 1) := by decide +kernel
theorem dX10_year_124 : decode cX10_year 124 = .ok (.istore 9, 2) := by decide +kernel
theorem dX10_year_126 : decode cX10_year 126 = .ok (.aload_n 0, 1) := by decide +kernel
theorem dX10_year_127 : decode cX10_year 127 = .ok (.invokevirtual 179, 3) := by decide +kernel
theorem dX10_year_130 : decode cX10_year 130 = .ok (.iload 4, 2) := by decide +kernel
theorem dX10_year_132 : decode cX10_year 132 = .ok (.aload_n 0, 1) := by decide +kernel
theorem dX10_year_133 : decode cX10_year 133 = .ok (.getfield 43, 3) := by decide +kernel
theorem dX10_year_136 : decode cX10_year 136 = .ok (.iconst 1, 1) := by decide +kernel
theorem dX10_year_137 : decode cX10_year 137 = .ok (.iaload, 1) := by decide +kernel
theorem dX10_year_138 : decode cX10_year 138 = .ok (.iload 9, 2) := by decide +kernel
theorem dX10_year_140 : decode cX10_year 140 = .ok (.if_icmp .ne 7, 3) := by decide +kernel
theorem dX10_year_143 : decode cX10_year 143 = .ok (.iconst 0, 1) := by decide +kernel
theorem dX10_year_144 : decode cX10_year 144 = .ok (.goto 4, 3) := by decide +kernel
theorem dX10_year_147 : decode cX10_year 147 = .ok (.iconst 1, 1) := by decide +kernel
theorem dX10_year_148 : decode cX10_year 148 = .ok (.iadd, 1) := by decide +kernel
theorem dX10_year_149 : decode cX10_year 149 = .ok (.istore 4, 2) := by decide +kernel
theorem dX10_year_151 : decode cX10_year 151 = .ok (.iinc 5 1, 3) := by decide +kernel
theorem dX10_year_154 : decode cX10_year 154 = .ok (.goto (-108), 3) := by decide +kernel
theorem dX10_year_157 : decode cX10_year 157 = .ok (.iload_n 3, 1) := by decide +kernel
theorem dX10_year_158 : decode cX10_year 158 = .ok (.iconst 1, 1) := by decide +kernel
theorem dX10_year_159 : decode cX10_year 159 = .ok (.if_icmp .ne 8, 3) := by decide +kernel
theorem dX10_year_162 : decode cX10_year 162 = .ok (.iload 4, 2) := by decide +kernel
theorem dX10_year_164 : decode cX10_year 164 = .ok (.goto 23, 3) := by decide +kernel
theorem dX10_year_167 : decode cX10_year 167 = .ok (.aload_n 0, 1) := by decide +kernel
theorem dX10_year_168 : decode cX10_year 168 = .ok (.getfield 43, 3) := by decide +kernel
theorem dX10_year_171 : decode cX10_year 171 = .ok (.iconst 1, 1) := by decide +kernel
theorem dX10_year_172 : decode cX10_year 172 = .ok (.iaload, 1) := by decide +kernel
theorem dX10_year_173 : decode cX10_year 173 = .ok (.ifCond .ge 8, 3) := by decide +kernel
theorem dX10_year_176 : decode cX10_year 176 = .ok (.bipush (-4), 2) := by decide +kernel
theorem dX10_year_178 : decode cX10_year 178 = .ok (.goto 9, 3) := by decide +kernel
theorem dX10_year_181 : decode cX10_year 181 = .ok (.aload_n 0, 1) := by decide +kernel
theorem dX10_year_182 : decode cX10_year 182 = .ok (.getfield 43, 3) := by decide +kernel
theorem dX10_year_185 : decode cX10_year 185 = .ok (.iconst 1, 1) := by decide +kernel
theorem dX10_year_186 : decode cX10_year 186 = .ok (.iaload, 1) := by decide +kernel
theorem dX10_year_187 : decode cX10_year 187 = .ok (.ireturn, 1) := by decide +kernel
set_option maxRecDepth 20000 in
theorem ggX10_keep_X10_put : GoodIn wsX10_keep wsX10_put := goodIn_r _ [7] (by decide +kernel) (by decide +kernel)
set_option maxRecDepth 20000 in
theorem gX10_keep_X10_put : GoodIn wsX10_keep (va_wsS RX10 129 yX10_put wsX10_put) := goodIn_app (goodIn_of _ (by decide +kernel)) ggX10_keep_X10_put
theorem dX10_keep_0 : decode cX10_keep 0 = .ok (.aload_n 0, 1) := by decide +kernel
theorem dX10_keep_1 : decode cX10_keep 1 = .ok (.getfield 136, 3) := by decide +kernel
theorem dX10_keep_4 : decode cX10_keep 4 = .ok (.iconst 2, 1) := by decide +kernel
theorem dX10_keep_5 : decode cX10_keep 5 = .ok (.if_icmp .ne 6, 3) := by decide +kernel
theorem dX10_keep_8 : decode cX10_keep 8 = .ok (.bipush (-3), 2) := by decide +kernel
theorem dX10_keep_10 : decode cX10_keep 10 = .ok (.ireturn, 1) := by decide +kernel
theorem dX10_keep_11 : decode cX10_keep 11 = .ok (.aload_n 0, 1) := by decide +kernel
theorem dX10_keep_12 : decode cX10_keep 12 = .ok (.getfield 25, 3) := by decide +kernel
theorem dX10_keep_15 : decode cX10_keep 15 = .ok (.bipush 72, 2) := by decide +kernel
theorem dX10_keep_17 : decode cX10_keep 17 = .ok (.aload_n 0, 1) := by decide +kernel
theorem dX10_keep_18 : decode cX10_keep 18 = .ok (.getfield 136, 3) := by decide +kernel
theorem dX10_keep_21 : decode cX10_keep 21 = .ok (.imul, 1) := by decide +kernel
theorem dX10_keep_22 : decode cX10_keep 22 = .ok (.aload_n 0, 1) := by decide +kernel
theorem dX10_keep_23 : decode cX10_keep 23 = .ok (.getfield 16, 3) := by decide +kernel
theorem dX10_keep_26 : decode cX10_keep 26 = .ok (.bipush 72, 2) := by decide +kernel
theorem dX10_keep_28 : decode cX10_keep 28 = .ok (.invokestatic 129, 3) := by decide +kernel
theorem dX10_keep_31 : decode cX10_keep 31 = .ok (.aload_n 0, 1) := by decide +kernel
theorem dX10_keep_32 : decode cX10_keep 32 = .ok (.dup, 1) := by decide +kernel
theorem dX10_keep_33 : decode cX10_keep 33 = .ok (.getfield 136, 3) := by decide +kernel
theorem dX10_keep_36 : decode cX10_keep 36 = .ok (.iconst 1, 1) := by decide +kernel
theorem dX10_keep_37 : decode cX10_keep 37 = .ok (.iadd, 1) := by decide +kernel
theorem dX10_keep_38 : decode cX10_keep 38 = .ok (.putfield 136, 3) := by decide +kernel
theorem dX10_keep_41 : decode cX10_keep 41 = .ok (.aload_n 0, 1) := by decide +kernel
theorem dX10_keep_42 : decode cX10_keep 42 = .ok (.getfield 136, 3) := by decide +kernel
theorem dX10_keep_45 : decode cX10_keep 45 = .ok (.ireturn, 1) := by decide +kernel
theorem dX10_back_0 : decode cX10_back 0 = .ok (.aload_n 0, 1) := by decide +kernel
theorem dX10_back_1 : decode cX10_back 1 = .ok (.getfield 136, 3) := by decide +kernel
theorem dX10_back_4 : decode cX10_back 4 = .ok (.ifCond .ne 6, 3) := by decide +kernel
theorem dX10_back_7 : decode cX10_back 7 = .ok (.bipush (-2), 2) := by decide +kernel
theorem dX10_back_9 : decode cX10_back 9 = .ok (.ireturn, 1) := by decide +kernel
theorem dX10_back_10 : decode cX10_back 10 = .ok (.aload_n 0, 1) := by decide +kernel
theorem dX10_back_11 : decode cX10_back 11 = .ok (.dup, 1) := by decide +kernel
theorem dX10_back_12 : decode cX10_back 12 = .ok (.getfield 136, 3) := by decide +kernel
theorem dX10_back_15 : decode cX10_back 15 = .ok (.iconst 1, 1) := by decide +kernel
theorem dX10_back_16 : decode cX10_back 16 = .ok (.isub, 1) := by decide +kernel
theorem dX10_back_17 : decode cX10_back 17 = .ok (.putfield 136, 3) := by decide +kernel
theorem dX10_back_20 : decode cX10_back 20 = .ok (.iconst 0, 1) := by decide +kernel
theorem dX10_back_21 : decode cX10_back 21 = .ok (.istore_n 1, 1) := by decide +kernel
theorem dX10_back_22 : decode cX10_back 22 = .ok (.iload_n 1, 1) := by decide +kernel
theorem dX10_back_23 : decode cX10_back 23 = .ok (.bipush 72, 2) := by decide +kernel
theorem dX10_back_25 : decode cX10_back 25 = .ok (.if_icmp .ge 29, 3) := by decide +kernel
theorem dX10_back_28 : decode cX10_back 28 = .ok (.aload_n 0, 1) := by decide +kernel
theorem dX10_back_29 : decode cX10_back 29 = .ok (.getfield 16, 3) := by decide +kernel
theorem dX10_back_32 : decode cX10_back 32 = .ok (.iload_n 1, 1) := by decide +kernel
theorem dX10_back_33 : decode cX10_back 33 = .ok (.aload_n 0, 1) := by decide +kernel
theorem dX10_back_34 : decode cX10_back 34 = .ok (.getfield 25, 3) := by decide +kernel
theorem dX10_back_37 : decode cX10_back 37 = .ok (.bipush 72, 2) := by decide +kernel
theorem dX10_back_39 : decode cX10_back 39 = .ok (.aload_n 0, 1) := by decide +kernel
theorem dX10_back_40 : decode cX10_back 40 = .ok (.getfield 136, 3) := by decide +kernel
theorem dX10_back_43 : decode cX10_back 43 = .ok (.imul, 1) := by decide +kernel
theorem dX10_back_44 : decode cX10_back 44 = .ok (.iload_n 1, 1) := by decide +kernel
theorem dX10_back_45 : decode cX10_back 45 = .ok (.iadd, 1) := by decide +kernel
theorem dX10_back_46 : decode cX10_back 46 = .ok (.iaload, 1) := by decide +kernel
theorem dX10_back_47 : decode cX10_back 47 = .ok (.iastore, 1) := by decide +kernel
theorem dX10_back_48 : decode cX10_back 48 = .ok (.iinc 1 1, 3) := by decide +kernel
theorem dX10_back_51 : decode cX10_back 51 = .ok (.goto (-29), 3) := by decide +kernel
theorem dX10_back_54 : decode cX10_back 54 = .ok (.aload_n 0, 1) := by decide +kernel
theorem dX10_back_55 : decode cX10_back 55 = .ok (.iconst 0, 1) := by decide +kernel
theorem dX10_back_56 : decode cX10_back 56 = .ok (.putfield 133, 3) := by decide +kernel
theorem dX10_back_59 : decode cX10_back 59 = .ok (.aload_n 0, 1) := by decide +kernel
theorem dX10_back_60 : decode cX10_back 60 = .ok (.getfield 136, 3) := by decide +kernel
theorem dX10_back_63 : decode cX10_back 63 = .ok (.ireturn, 1) := by decide +kernel
theorem dX10_count_0 : decode cX10_count 0 = .ok (.iload_n 1, 1) := by decide +kernel
theorem dX10_count_1 : decode cX10_count 1 = .ok (.tableswitch 124 0 10 #[59, 64, 69, 76, 81, 88, 97, 102, 107, 112, 117], 59) := by decide +kernel
theorem dX10_count_60 : decode cX10_count 60 = .ok (.aload_n 0, 1) := by decide +kernel
theorem dX10_count_61 : decode cX10_count 61 = .ok (.getfield 76, 3) := by decide +kernel
theorem dX10_count_64 : decode cX10_count 64 = .ok (.ireturn, 1) := by decide +kernel
theorem dX10_count_65 : decode cX10_count 65 = .ok (.aload_n 0, 1) := by decide +kernel
theorem dX10_count_66 : decode cX10_count 66 = .ok (.getfield 123, 3) := by decide +kernel
theorem dX10_count_69 : decode cX10_count 69 = .ok (.ireturn, 1) := by decide +kernel
theorem dX10_count_70 : decode cX10_count 70 = .ok (.aload_n 0, 1) := by decide +kernel
theorem dX10_count_71 : decode cX10_count 71 = .ok (.getfield 16, 3) := by decide +kernel
theorem dX10_count_74 : decode cX10_count 74 = .ok (.iconst 2, 1) := by decide +kernel
theorem dX10_count_75 : decode cX10_count 75 = .ok (.iaload, 1) := by decide +kernel
theorem dX10_count_76 : decode cX10_count 76 = .ok (.ireturn, 1) := by decide +kernel
theorem dX10_count_77 : decode cX10_count 77 = .ok (.aload_n 0, 1) := by decide +kernel
theorem dX10_count_78 : decode cX10_count 78 = .ok (.getfield 126, 3) := by decide +kernel
theorem dX10_count_81 : decode cX10_count 81 = .ok (.ireturn, 1) := by decide +kernel
theorem dX10_count_82 : decode cX10_count 82 = .ok (.aload_n 0, 1) := by decide +kernel
theorem dX10_count_83 : decode cX10_count 83 = .ok (.getfield 16, 3) := by decide +kernel
theorem dX10_count_86 : decode cX10_count 86 = .ok (.iconst 0, 1) := by decide +kernel
theorem dX10_count_87 : decode cX10_count 87 = .ok (.iaload, 1) := by decide +kernel
theorem dX10_count_88 : decode cX10_count 88 = .ok (.ireturn, 1) := by decide +kernel
theorem dX10_count_89 : decode cX10_count 89 = .ok (.aload_n 0, 1) := by decide +kernel
theorem dX10_count_90 : decode cX10_count 90 = .ok (.getfield 16, 3) := by decide +kernel
theorem dX10_count_93 : decode cX10_count 93 = .ok (.iconst 1, 1) := by decide +kernel
theorem dX10_count_94 : decode cX10_count 94 = .ok (.iaload, 1) := by decide +kernel
theorem dX10_count_95 : decode cX10_count 95 = .ok (.iconst 1, 1) := by decide +kernel
theorem dX10_count_96 : decode cX10_count 96 = .ok (.iadd, 1) := by decide +kernel
theorem dX10_count_97 : decode cX10_count 97 = .ok (.ireturn, 1) := by decide +kernel
theorem dX10_count_98 : decode cX10_count 98 = .ok (.aload_n 0, 1) := by decide +kernel
theorem dX10_count_99 : decode cX10_count 99 = .ok (.getfield 139, 3) := by decide +kernel
theorem dX10_count_102 : decode cX10_count 102 = .ok (.ireturn, 1) := by decide +kernel
theorem dX10_count_103 : decode cX10_count 103 = .ok (.aload_n 0, 1) := by decide +kernel
theorem dX10_count_104 : decode cX10_count 104 = .ok (.getfield 133, 3) := by decide +kernel
theorem dX10_count_107 : decode cX10_count 107 = .ok (.ireturn, 1) := by decide +kernel
theorem dX10_count_108 : decode cX10_count 108 = .ok (.aload_n 0, 1) := by decide +kernel
theorem dX10_count_109 : decode cX10_count 109 = .ok (.getfield 136, 3) := by decide +kernel
theorem dX10_count_112 : decode cX10_count 112 = .ok (.ireturn, 1) := by decide +kernel
theorem dX10_count_113 : decode cX10_count 113 = .ok (.aload_n 0, 1) := by decide +kernel
theorem dX10_count_114 : decode cX10_count 114 = .ok (.getfield 83, 3) := by decide +kernel
theorem dX10_count_117 : decode cX10_count 117 = .ok (.ireturn, 1) := by decide +kernel
theorem dX10_count_118 : decode cX10_count 118 = .ok (.aload_n 0, 1) := by decide +kernel
theorem dX10_count_119 : decode cX10_count 119 = .ok (.getfield 16, 3) := by decide +kernel
theorem dX10_count_122 : decode cX10_count 122 = .ok (.iconst 3, 1) := by decide +kernel
theorem dX10_count_123 : decode cX10_count 123 = .ok (.iaload, 1) := by decide +kernel
theorem dX10_count_124 : decode cX10_count 124 = .ok (.ireturn, 1) := by decide +kernel
theorem dX10_count_125 : decode cX10_count 125 = .ok (.iconst (-1), 1) := by decide +kernel
theorem dX10_count_126 : decode cX10_count 126 = .ok (.ireturn, 1) := by decide +kernel
theorem dJ6_bitCount_0f7a4_0 : decode cJ6_bitCount_0f7a4 0 = .ok (.iload_n 0, 1) := by decide +kernel
theorem dJ6_bitCount_0f7a4_1 : decode cJ6_bitCount_0f7a4 1 = .ok (.iload_n 0, 1) := by decide +kernel
theorem dJ6_bitCount_0f7a4_2 : decode cJ6_bitCount_0f7a4 2 = .ok (.iconst 1, 1) := by decide +kernel
theorem dJ6_bitCount_0f7a4_3 : decode cJ6_bitCount_0f7a4 3 = .ok (.iushr, 1) := by decide +kernel
theorem dJ6_bitCount_0f7a4_4 : decode cJ6_bitCount_0f7a4 4 = .ok (.ldc_w 265, 3) := by decide +kernel
theorem dJ6_bitCount_0f7a4_7 : decode cJ6_bitCount_0f7a4 7 = .ok (.iand, 1) := by decide +kernel
theorem dJ6_bitCount_0f7a4_8 : decode cJ6_bitCount_0f7a4 8 = .ok (.isub, 1) := by decide +kernel
theorem dJ6_bitCount_0f7a4_9 : decode cJ6_bitCount_0f7a4 9 = .ok (.istore_n 0, 1) := by decide +kernel
theorem dJ6_bitCount_0f7a4_10 : decode cJ6_bitCount_0f7a4 10 = .ok (.iload_n 0, 1) := by decide +kernel
theorem dJ6_bitCount_0f7a4_11 : decode cJ6_bitCount_0f7a4 11 = .ok (.ldc_w 266, 3) := by decide +kernel
theorem dJ6_bitCount_0f7a4_14 : decode cJ6_bitCount_0f7a4 14 = .ok (.iand, 1) := by decide +kernel
theorem dJ6_bitCount_0f7a4_15 : decode cJ6_bitCount_0f7a4 15 = .ok (.iload_n 0, 1) := by decide +kernel
theorem dJ6_bitCount_0f7a4_16 : decode cJ6_bitCount_0f7a4 16 = .ok (.iconst 2, 1) := by decide +kernel
theorem dJ6_bitCount_0f7a4_17 : decode cJ6_bitCount_0f7a4 17 = .ok (.iushr, 1) := by decide +kernel
theorem dJ6_bitCount_0f7a4_18 : decode cJ6_bitCount_0f7a4 18 = .ok (.ldc_w 266, 3) := by decide +kernel
theorem dJ6_bitCount_0f7a4_21 : decode cJ6_bitCount_0f7a4 21 = .ok (.iand, 1) := by decide +kernel
theorem dJ6_bitCount_0f7a4_22 : decode cJ6_bitCount_0f7a4 22 = .ok (.iadd, 1) := by decide +kernel
theorem dJ6_bitCount_0f7a4_23 : decode cJ6_bitCount_0f7a4 23 = .ok (.istore_n 0, 1) := by decide +kernel
theorem dJ6_bitCount_0f7a4_24 : decode cJ6_bitCount_0f7a4 24 = .ok (.iload_n 0, 1) := by decide +kernel
theorem dJ6_bitCount_0f7a4_25 : decode cJ6_bitCount_0f7a4 25 = .ok (.iload_n 0, 1) := by decide +kernel
theorem dJ6_bitCount_0f7a4_26 : decode cJ6_bitCount_0f7a4 26 = .ok (.iconst 4, 1) := by decide +kernel
theorem dJ6_bitCount_0f7a4_27 : decode cJ6_bitCount_0f7a4 27 = .ok (.iushr, 1) := by decide +kernel
theorem dJ6_bitCount_0f7a4_28 : decode cJ6_bitCount_0f7a4 28 = .ok (.iadd, 1) := by decide +kernel
theorem dJ6_bitCount_0f7a4_29 : decode cJ6_bitCount_0f7a4 29 = .ok (.ldc_w 267, 3) := by decide +kernel
theorem dJ6_bitCount_0f7a4_32 : decode cJ6_bitCount_0f7a4 32 = .ok (.iand, 1) := by decide +kernel
theorem dJ6_bitCount_0f7a4_33 : decode cJ6_bitCount_0f7a4 33 = .ok (.istore_n 0, 1) := by decide +kernel
theorem dJ6_bitCount_0f7a4_34 : decode cJ6_bitCount_0f7a4 34 = .ok (.iload_n 0, 1) := by decide +kernel
theorem dJ6_bitCount_0f7a4_35 : decode cJ6_bitCount_0f7a4 35 = .ok (.iload_n 0, 1) := by decide +kernel
theorem dJ6_bitCount_0f7a4_36 : decode cJ6_bitCount_0f7a4 36 = .ok (.bipush 8, 2) := by decide +kernel
theorem dJ6_bitCount_0f7a4_38 : decode cJ6_bitCount_0f7a4 38 = .ok (.iushr, 1) := by decide +kernel
theorem dJ6_bitCount_0f7a4_39 : decode cJ6_bitCount_0f7a4 39 = .ok (.iadd, 1) := by decide +kernel
theorem dJ6_bitCount_0f7a4_40 : decode cJ6_bitCount_0f7a4 40 = .ok (.istore_n 0, 1) := by decide +kernel
theorem dJ6_bitCount_0f7a4_41 : decode cJ6_bitCount_0f7a4 41 = .ok (.iload_n 0, 1) := by decide +kernel
theorem dJ6_bitCount_0f7a4_42 : decode cJ6_bitCount_0f7a4 42 = .ok (.iload_n 0, 1) := by decide +kernel
theorem dJ6_bitCount_0f7a4_43 : decode cJ6_bitCount_0f7a4 43 = .ok (.bipush 16, 2) := by decide +kernel
theorem dJ6_bitCount_0f7a4_45 : decode cJ6_bitCount_0f7a4 45 = .ok (.iushr, 1) := by decide +kernel
theorem dJ6_bitCount_0f7a4_46 : decode cJ6_bitCount_0f7a4 46 = .ok (.iadd, 1) := by decide +kernel
theorem dJ6_bitCount_0f7a4_47 : decode cJ6_bitCount_0f7a4 47 = .ok (.istore_n 0, 1) := by decide +kernel
theorem dJ6_bitCount_0f7a4_48 : decode cJ6_bitCount_0f7a4 48 = .ok (.iload_n 0, 1) := by decide +kernel
theorem dJ6_bitCount_0f7a4_49 : decode cJ6_bitCount_0f7a4 49 = .ok (.bipush 63, 2) := by decide +kernel
theorem dJ6_bitCount_0f7a4_51 : decode cJ6_bitCount_0f7a4 51 = .ok (.iand, 1) := by decide +kernel
theorem dJ6_bitCount_0f7a4_52 : decode cJ6_bitCount_0f7a4 52 = .ok (.ireturn, 1) := by decide +kernel
theorem dJ9_max_7cf53_0 : decode cJ9_max_7cf53 0 = .ok (.iload_n 0, 1) := by decide +kernel
theorem dJ9_max_7cf53_1 : decode cJ9_max_7cf53 1 = .ok (.iload_n 1, 1) := by decide +kernel
theorem dJ9_max_7cf53_2 : decode cJ9_max_7cf53 2 = .ok (.if_icmp .lt 7, 3) := by decide +kernel
theorem dJ9_max_7cf53_5 : decode cJ9_max_7cf53 5 = .ok (.iload_n 0, 1) := by decide +kernel
theorem dJ9_max_7cf53_6 : decode cJ9_max_7cf53 6 = .ok (.goto 4, 3) := by decide +kernel
theorem dJ9_max_7cf53_9 : decode cJ9_max_7cf53 9 = .ok (.iload_n 1, 1) := by decide +kernel
theorem dJ9_max_7cf53_10 : decode cJ9_max_7cf53 10 = .ok (.ireturn, 1) := by decide +kernel
theorem dJ9_min_7cf53_0 : decode cJ9_min_7cf53 0 = .ok (.iload_n 0, 1) := by decide +kernel
theorem dJ9_min_7cf53_1 : decode cJ9_min_7cf53 1 = .ok (.iload_n 1, 1) := by decide +kernel
theorem dJ9_min_7cf53_2 : decode cJ9_min_7cf53 2 = .ok (.if_icmp .gt 7, 3) := by decide +kernel
theorem dJ9_min_7cf53_5 : decode cJ9_min_7cf53 5 = .ok (.iload_n 0, 1) := by decide +kernel
theorem dJ9_min_7cf53_6 : decode cJ9_min_7cf53 6 = .ok (.goto 4, 3) := by decide +kernel
theorem dJ9_min_7cf53_9 : decode cJ9_min_7cf53 9 = .ok (.iload_n 1, 1) := by decide +kernel
theorem dJ9_min_7cf53_10 : decode cJ9_min_7cf53 10 = .ok (.ireturn, 1) := by decide +kernel
set_option maxRecDepth 20000 in
theorem ggJ0_length_8abf5_J0_coder_7d493 : GoodIn wsJ0_length_8abf5 wsJ0_coder_7d493 := goodIn_r _ [6, 7, 8] (by decide +kernel) (by decide +kernel)
set_option maxRecDepth 20000 in
theorem gJ0_length_8abf5_J0_coder_7d493 : GoodIn wsJ0_length_8abf5 (wsV RJ0 335 RJ0 yJ0_coder_7d493 wsJ0_coder_7d493) := goodIn_app (goodIn_of _ (by decide +kernel)) ggJ0_length_8abf5_J0_coder_7d493
theorem dJ0_length_8abf5_0 : decode cJ0_length_8abf5 0 = .ok (.aload_n 0, 1) := by decide +kernel
theorem dJ0_length_8abf5_1 : decode cJ0_length_8abf5 1 = .ok (.getfield 9, 3) := by decide +kernel
theorem dJ0_length_8abf5_4 : decode cJ0_length_8abf5 4 = .ok (.arraylength, 1) := by decide +kernel
theorem dJ0_length_8abf5_5 : decode cJ0_length_8abf5 5 = .ok (.aload_n 0, 1) := by decide +kernel
theorem dJ0_length_8abf5_6 : decode cJ0_length_8abf5 6 = .ok (.invokevirtual 335, 3) := by decide +kernel
theorem dJ0_length_8abf5_9 : decode cJ0_length_8abf5 9 = .ok (.ishr, 1) := by decide +kernel
theorem dJ0_length_8abf5_10 : decode cJ0_length_8abf5 10 = .ok (.ireturn, 1) := by decide +kernel
set_option maxRecDepth 20000 in
theorem ggJ0_charAt_5068e_J0_isLatin1_aae02 : GoodIn wsJ0_charAt_5068e wsJ0_isLatin1_aae02 := goodIn_r _ [6, 7, 8] (by decide +kernel) (by decide +kernel)
set_option maxRecDepth 20000 in
theorem gJ0_charAt_5068e_J0_isLatin1_aae02 : GoodIn wsJ0_charAt_5068e (wsV RJ0 492 RJ0 yJ0_isLatin1_aae02 wsJ0_isLatin1_aae02) := goodIn_app (goodIn_of _ (by decide +kernel)) ggJ0_charAt_5068e_J0_isLatin1_aae02
set_option maxRecDepth 20000 in
theorem ggJ0_charAt_5068e_J1_charAt_3b067 : GoodIn wsJ0_charAt_5068e wsJ1_charAt_3b067 := goodIn_r _ [12, 13, 14, 5, 15, 16, 17, 18, 19, 20] (by decide +kernel) (by decide +kernel)
set_option maxRecDepth 20000 in
theorem gJ0_charAt_5068e_J1_charAt_3b067 : GoodIn wsJ0_charAt_5068e (va_wsS RJ0 495 yJ1_charAt_3b067 wsJ1_charAt_3b067) := goodIn_app (goodIn_of _ (by decide +kernel)) ggJ0_charAt_5068e_J1_charAt_3b067
set_option maxRecDepth 20000 in
theorem ggJ0_charAt_5068e_J2_charAt_3b067 : GoodIn wsJ0_charAt_5068e wsJ2_charAt_3b067 := goodIn_r _ [24, 25, 26, 23, 27, 28, 29, 30, 31, 14, 5, 15, 16, 17, 18, 19, 20, 32, 33, 34, 35, 36, 37] (by decide +kernel) (by decide +kernel)
set_option maxRecDepth 20000 in
theorem gJ0_charAt_5068e_J2_charAt_3b067 : GoodIn wsJ0_charAt_5068e (va_wsS RJ0 498 yJ2_charAt_3b067 wsJ2_charAt_3b067) := goodIn_app (goodIn_of _ (by decide +kernel)) ggJ0_charAt_5068e_J2_charAt_3b067
theorem dJ0_charAt_5068e_0 : decode cJ0_charAt_5068e 0 = .ok (.aload_n 0, 1) := by decide +kernel
theorem dJ0_charAt_5068e_1 : decode cJ0_charAt_5068e 1 = .ok (.invokevirtual 492, 3) := by decide +kernel
theorem dJ0_charAt_5068e_4 : decode cJ0_charAt_5068e 4 = .ok (.ifCond .eq 12, 3) := by decide +kernel
theorem dJ0_charAt_5068e_7 : decode cJ0_charAt_5068e 7 = .ok (.aload_n 0, 1) := by decide +kernel
theorem dJ0_charAt_5068e_8 : decode cJ0_charAt_5068e 8 = .ok (.getfield 9, 3) := by decide +kernel
theorem dJ0_charAt_5068e_11 : decode cJ0_charAt_5068e 11 = .ok (.iload_n 1, 1) := by decide +kernel
theorem dJ0_charAt_5068e_12 : decode cJ0_charAt_5068e 12 = .ok (.invokestatic 495, 3) := by decide +kernel
theorem dJ0_charAt_5068e_15 : decode cJ0_charAt_5068e 15 = .ok (.ireturn, 1) := by decide +kernel
theorem dJ0_charAt_5068e_16 : decode cJ0_charAt_5068e 16 = .ok (.aload_n 0, 1) := by decide +kernel
theorem dJ0_charAt_5068e_17 : decode cJ0_charAt_5068e 17 = .ok (.getfield 9, 3) := by decide +kernel
theorem dJ0_charAt_5068e_20 : decode cJ0_charAt_5068e 20 = .ok (.iload_n 1, 1) := by decide +kernel
theorem dJ0_charAt_5068e_21 : decode cJ0_charAt_5068e 21 = .ok (.invokestatic 498, 3) := by decide +kernel
theorem dJ0_charAt_5068e_24 : decode cJ0_charAt_5068e 24 = .ok (.ireturn, 1) := by decide +kernel
theorem dJ0_coder_7d493_0 : decode cJ0_coder_7d493 0 = .ok (.getstatic 38, 3) := by decide +kernel
theorem dJ0_coder_7d493_3 : decode cJ0_coder_7d493 3 = .ok (.ifCond .eq 10, 3) := by decide +kernel
theorem dJ0_coder_7d493_6 : decode cJ0_coder_7d493 6 = .ok (.aload_n 0, 1) := by decide +kernel
theorem dJ0_coder_7d493_7 : decode cJ0_coder_7d493 7 = .ok (.getfield 15, 3) := by decide +kernel
theorem dJ0_coder_7d493_10 : decode cJ0_coder_7d493 10 = .ok (.goto 4, 3) := by decide +kernel
theorem dJ0_coder_7d493_13 : decode cJ0_coder_7d493 13 = .ok (.iconst 1, 1) := by decide +kernel
theorem dJ0_coder_7d493_14 : decode cJ0_coder_7d493 14 = .ok (.ireturn, 1) := by decide +kernel
theorem dJ0_isLatin1_aae02_0 : decode cJ0_isLatin1_aae02 0 = .ok (.getstatic 38, 3) := by decide +kernel
theorem dJ0_isLatin1_aae02_3 : decode cJ0_isLatin1_aae02 3 = .ok (.ifCond .eq 14, 3) := by decide +kernel
theorem dJ0_isLatin1_aae02_6 : decode cJ0_isLatin1_aae02 6 = .ok (.aload_n 0, 1) := by decide +kernel
theorem dJ0_isLatin1_aae02_7 : decode cJ0_isLatin1_aae02 7 = .ok (.getfield 15, 3) := by decide +kernel
theorem dJ0_isLatin1_aae02_10 : decode cJ0_isLatin1_aae02 10 = .ok (.ifCond .ne 7, 3) := by decide +kernel
theorem dJ0_isLatin1_aae02_13 : decode cJ0_isLatin1_aae02 13 = .ok (.iconst 1, 1) := by decide +kernel
theorem dJ0_isLatin1_aae02_14 : decode cJ0_isLatin1_aae02 14 = .ok (.goto 4, 3) := by decide +kernel
theorem dJ0_isLatin1_aae02_17 : decode cJ0_isLatin1_aae02 17 = .ok (.iconst 0, 1) := by decide +kernel
theorem dJ0_isLatin1_aae02_18 : decode cJ0_isLatin1_aae02 18 = .ok (.ireturn, 1) := by decide +kernel
set_option maxRecDepth 20000 in
theorem ggJ0_checkIndex_df160_J3_checkIndex_8e157 : GoodIn wsJ0_checkIndex_df160 wsJ3_checkIndex_8e157 := goodIn_r _ [5] (by decide +kernel) (by decide +kernel)
set_option maxRecDepth 20000 in
theorem gJ0_checkIndex_df160_J3_checkIndex_8e157 : GoodIn wsJ0_checkIndex_df160 (va_wsS RJ0 1059 yJ3_checkIndex_8e157 wsJ3_checkIndex_8e157) := goodIn_app (goodIn_of _ (by decide +kernel)) ggJ0_checkIndex_df160_J3_checkIndex_8e157
theorem dJ0_checkIndex_df160_0 : decode cJ0_checkIndex_df160 0 = .ok (.iload_n 0, 1) := by decide +kernel
theorem dJ0_checkIndex_df160_1 : decode cJ0_checkIndex_df160 1 = .ok (.iload_n 1, 1) := by decide +kernel
theorem dJ0_checkIndex_df160_2 : decode cJ0_checkIndex_df160 2 = .ok (.getstatic 1053, 3) := by decide +kernel
theorem dJ0_checkIndex_df160_5 : decode cJ0_checkIndex_df160 5 = .ok (.invokestatic 1059, 3) := by decide +kernel
theorem dJ0_checkIndex_df160_8 : decode cJ0_checkIndex_df160 8 = .ok (.pop, 1) := by decide +kernel
theorem dJ0_checkIndex_df160_9 : decode cJ0_checkIndex_df160 9 = .ok (.return_, 1) := by decide +kernel
set_option maxRecDepth 20000 in
theorem ggJ1_charAt_3b067_J0_checkIndex_df160 : GoodIn wsJ1_charAt_3b067 wsJ0_checkIndex_df160 := goodIn_r _ [4, 5, 6, 7, 8, 9] (by decide +kernel) (by decide +kernel)
set_option maxRecDepth 20000 in
theorem gJ1_charAt_3b067_J0_checkIndex_df160 : GoodIn wsJ1_charAt_3b067 (va_wsS RJ1 9 yJ0_checkIndex_df160 wsJ0_checkIndex_df160) := goodIn_app (goodIn_of _ (by decide +kernel)) ggJ1_charAt_3b067_J0_checkIndex_df160
theorem dJ1_charAt_3b067_0 : decode cJ1_charAt_3b067 0 = .ok (.iload_n 1, 1) := by decide +kernel
theorem dJ1_charAt_3b067_1 : decode cJ1_charAt_3b067 1 = .ok (.aload_n 0, 1) := by decide +kernel
theorem dJ1_charAt_3b067_2 : decode cJ1_charAt_3b067 2 = .ok (.arraylength, 1) := by decide +kernel
theorem dJ1_charAt_3b067_3 : decode cJ1_charAt_3b067 3 = .ok (.invokestatic 9, 3) := by decide +kernel
theorem dJ1_charAt_3b067_6 : decode cJ1_charAt_3b067 6 = .ok (.aload_n 0, 1) := by decide +kernel
theorem dJ1_charAt_3b067_7 : decode cJ1_charAt_3b067 7 = .ok (.iload_n 1, 1) := by decide +kernel
theorem dJ1_charAt_3b067_8 : decode cJ1_charAt_3b067 8 = .ok (.baload, 1) := by decide +kernel
theorem dJ1_charAt_3b067_9 : decode cJ1_charAt_3b067 9 = .ok (.sipush 255, 3) := by decide +kernel
theorem dJ1_charAt_3b067_12 : decode cJ1_charAt_3b067 12 = .ok (.iand, 1) := by decide +kernel
theorem dJ1_charAt_3b067_13 : decode cJ1_charAt_3b067 13 = .ok (.i2c, 1) := by decide +kernel
theorem dJ1_charAt_3b067_14 : decode cJ1_charAt_3b067 14 = .ok (.ireturn, 1) := by decide +kernel
set_option maxRecDepth 20000 in
theorem ggJ2_getChar_3b067_J2_length_9d52b : GoodIn wsJ2_getChar_3b067 wsJ2_length_9d52b := goodIn_r _ [7] (by decide +kernel) (by decide +kernel)
set_option maxRecDepth 20000 in
theorem gJ2_getChar_3b067_J2_length_9d52b : GoodIn wsJ2_getChar_3b067 (va_wsS RJ2 48 yJ2_length_9d52b wsJ2_length_9d52b) := goodIn_app (goodIn_of _ (by decide +kernel)) ggJ2_getChar_3b067_J2_length_9d52b
theorem dJ2_getChar_3b067_0 : decode cJ2_getChar_3b067 0 = .ok (.getstatic 44, 3) := by decide +kernel
theorem dJ2_getChar_3b067_3 : decode cJ2_getChar_3b067 3 = .ok (.ifCond .ne 25, 3) := by decide +kernel
theorem dJ2_getChar_3b067_6 : decode cJ2_getChar_3b067 6 = .ok (.iload_n 1, 1) := by decide +kernel
theorem dJ2_getChar_3b067_7 : decode cJ2_getChar_3b067 7 = .ok (.ifCond .lt 11, 3) := by decide +kernel
theorem dJ2_getChar_3b067_10 : decode cJ2_getChar_3b067 10 = .ok (.iload_n 1, 1) := by decide +kernel
theorem dJ2_getChar_3b067_11 : decode cJ2_getChar_3b067 11 = .ok (.aload_n 0, 1) := by decide +kernel
theorem dJ2_getChar_3b067_12 : decode cJ2_getChar_3b067 12 = .ok (.invokestatic 48, 3) := by decide +kernel
theorem dJ2_getChar_3b067_15 : decode cJ2_getChar_3b067 15 = .ok (.if_icmp .lt 13, 3) := by decide +kernel
theorem dJ2_getChar_3b067_18 : decode cJ2_getChar_3b067 18 = .ok (.new 52, 3) := by decide +kernel
theorem dJ2_getChar_3b067_21 : decode cJ2_getChar_3b067 21 = .ok (.dup, 1) := by decide +kernel
theorem dJ2_getChar_3b067_22 : decode cJ2_getChar_3b067 22 = .ok (.ldc 54, 2) := by decide +kernel
theorem dJ2_getChar_3b067_24 : decode cJ2_getChar_3b067 24 = .ok (.invokespecial 56, 3) := by decide +kernel
theorem dJ2_getChar_3b067_27 : decode cJ2_getChar_3b067 27 = .ok (.athrow, 1) := by decide +kernel
theorem dJ2_getChar_3b067_28 : decode cJ2_getChar_3b067 28 = .ok (.iload_n 1, 1) := by decide +kernel
theorem dJ2_getChar_3b067_29 : decode cJ2_getChar_3b067 29 = .ok (.iconst 1, 1) := by decide +kernel
theorem dJ2_getChar_3b067_30 : decode cJ2_getChar_3b067 30 = .ok (.ishl, 1) := by decide +kernel
theorem dJ2_getChar_3b067_31 : decode cJ2_getChar_3b067 31 = .ok (.istore_n 1, 1) := by decide +kernel
theorem dJ2_getChar_3b067_32 : decode cJ2_getChar_3b067 32 = .ok (.aload_n 0, 1) := by decide +kernel
theorem dJ2_getChar_3b067_33 : decode cJ2_getChar_3b067 33 = .ok (.iload_n 1, 1) := by decide +kernel
theorem dJ2_getChar_3b067_34 : decode cJ2_getChar_3b067 34 = .ok (.iinc 1 1, 3) := by decide +kernel
theorem dJ2_getChar_3b067_37 : decode cJ2_getChar_3b067 37 = .ok (.baload, 1) := by decide +kernel
theorem dJ2_getChar_3b067_38 : decode cJ2_getChar_3b067 38 = .ok (.sipush 255, 3) := by decide +kernel
theorem dJ2_getChar_3b067_41 : decode cJ2_getChar_3b067 41 = .ok (.iand, 1) := by decide +kernel
theorem dJ2_getChar_3b067_42 : decode cJ2_getChar_3b067 42 = .ok (.getstatic 59, 3) := by decide +kernel
theorem dJ2_getChar_3b067_45 : decode cJ2_getChar_3b067 45 = .ok (.ishl, 1) := by decide +kernel
theorem dJ2_getChar_3b067_46 : decode cJ2_getChar_3b067 46 = .ok (.aload_n 0, 1) := by decide +kernel
theorem dJ2_getChar_3b067_47 : decode cJ2_getChar_3b067 47 = .ok (.iload_n 1, 1) := by decide +kernel
theorem dJ2_getChar_3b067_48 : decode cJ2_getChar_3b067 48 = .ok (.baload, 1) := by decide +kernel
theorem dJ2_getChar_3b067_49 : decode cJ2_getChar_3b067 49 = .ok (.sipush 255, 3) := by decide +kernel
theorem dJ2_getChar_3b067_52 : decode cJ2_getChar_3b067 52 = .ok (.iand, 1) := by decide +kernel
theorem dJ2_getChar_3b067_53 : decode cJ2_getChar_3b067 53 = .ok (.getstatic 63, 3) := by decide +kernel
theorem dJ2_getChar_3b067_56 : decode cJ2_getChar_3b067 56 = .ok (.ishl, 1) := by decide +kernel
theorem dJ2_getChar_3b067_57 : decode cJ2_getChar_3b067 57 = .ok (.ior, 1) := by decide +kernel
theorem dJ2_getChar_3b067_58 : decode cJ2_getChar_3b067 58 = .ok (.i2c, 1) := by decide +kernel
theorem dJ2_getChar_3b067_59 : decode cJ2_getChar_3b067 59 = .ok (.ireturn, 1) := by decide +kernel
theorem dJ2_length_9d52b_0 : decode cJ2_length_9d52b 0 = .ok (.aload_n 0, 1) := by decide +kernel
theorem dJ2_length_9d52b_1 : decode cJ2_length_9d52b 1 = .ok (.arraylength, 1) := by decide +kernel
theorem dJ2_length_9d52b_2 : decode cJ2_length_9d52b 2 = .ok (.iconst 1, 1) := by decide +kernel
theorem dJ2_length_9d52b_3 : decode cJ2_length_9d52b 3 = .ok (.ishr, 1) := by decide +kernel
theorem dJ2_length_9d52b_4 : decode cJ2_length_9d52b 4 = .ok (.ireturn, 1) := by decide +kernel
set_option maxRecDepth 20000 in
theorem ggJ2_charAt_3b067_J2_checkIndex_2214a : GoodIn wsJ2_charAt_3b067 wsJ2_checkIndex_2214a := goodIn_r _ [4, 5, 6, 3, 7, 8, 9, 10, 11, 12, 13, 14, 15, 16] (by decide +kernel) (by decide +kernel)
set_option maxRecDepth 20000 in
theorem gJ2_charAt_3b067_J2_checkIndex_2214a : GoodIn wsJ2_charAt_3b067 (va_wsS RJ2 67 yJ2_checkIndex_2214a wsJ2_checkIndex_2214a) := goodIn_app (goodIn_of _ (by decide +kernel)) ggJ2_charAt_3b067_J2_checkIndex_2214a
set_option maxRecDepth 20000 in
theorem ggJ2_charAt_3b067_J2_getChar_3b067 : GoodIn wsJ2_charAt_3b067 wsJ2_getChar_3b067 := goodIn_r _ [19, 20, 21, 22, 5, 6, 3, 7] (by decide +kernel) (by decide +kernel)
set_option maxRecDepth 20000 in
theorem gJ2_charAt_3b067_J2_getChar_3b067 : GoodIn wsJ2_charAt_3b067 (va_wsS RJ2 71 yJ2_getChar_3b067 wsJ2_getChar_3b067) := goodIn_app (goodIn_of _ (by decide +kernel)) ggJ2_charAt_3b067_J2_getChar_3b067
theorem dJ2_charAt_3b067_0 : decode cJ2_charAt_3b067 0 = .ok (.iload_n 1, 1) := by decide +kernel
theorem dJ2_charAt_3b067_1 : decode cJ2_charAt_3b067 1 = .ok (.aload_n 0, 1) := by decide +kernel
theorem dJ2_charAt_3b067_2 : decode cJ2_charAt_3b067 2 = .ok (.invokestatic 67, 3) := by decide +kernel
theorem dJ2_charAt_3b067_5 : decode cJ2_charAt_3b067 5 = .ok (.aload_n 0, 1) := by decide +kernel
theorem dJ2_charAt_3b067_6 : decode cJ2_charAt_3b067 6 = .ok (.iload_n 1, 1) := by decide +kernel
theorem dJ2_charAt_3b067_7 : decode cJ2_charAt_3b067 7 = .ok (.invokestatic 71, 3) := by decide +kernel
theorem dJ2_charAt_3b067_10 : decode cJ2_charAt_3b067 10 = .ok (.ireturn, 1) := by decide +kernel
set_option maxRecDepth 20000 in
theorem ggJ2_checkIndex_2214a_J2_length_9d52b : GoodIn wsJ2_checkIndex_2214a wsJ2_length_9d52b := goodIn_r _ [4] (by decide +kernel) (by decide +kernel)
set_option maxRecDepth 20000 in
theorem gJ2_checkIndex_2214a_J2_length_9d52b : GoodIn wsJ2_checkIndex_2214a (va_wsS RJ2 48 yJ2_length_9d52b wsJ2_length_9d52b) := goodIn_app (goodIn_of _ (by decide +kernel)) ggJ2_checkIndex_2214a_J2_length_9d52b
set_option maxRecDepth 20000 in
theorem ggJ2_checkIndex_2214a_J0_checkIndex_df160 : GoodIn wsJ2_checkIndex_2214a wsJ0_checkIndex_df160 := goodIn_r _ [8, 9, 10, 11, 12, 13] (by decide +kernel) (by decide +kernel)
set_option maxRecDepth 20000 in
theorem gJ2_checkIndex_2214a_J0_checkIndex_df160 : GoodIn wsJ2_checkIndex_2214a (va_wsS RJ2 414 yJ0_checkIndex_df160 wsJ0_checkIndex_df160) := goodIn_app (goodIn_of _ (by decide +kernel)) ggJ2_checkIndex_2214a_J0_checkIndex_df160
theorem dJ2_checkIndex_2214a_0 : decode cJ2_checkIndex_2214a 0 = .ok (.iload_n 0, 1) := by decide +kernel
theorem dJ2_checkIndex_2214a_1 : decode cJ2_checkIndex_2214a 1 = .ok (.aload_n 1, 1) := by decide +kernel
theorem dJ2_checkIndex_2214a_2 : decode cJ2_checkIndex_2214a 2 = .ok (.invokestatic 48, 3) := by decide +kernel
theorem dJ2_checkIndex_2214a_5 : decode cJ2_checkIndex_2214a 5 = .ok (.invokestatic 414, 3) := by decide +kernel
theorem dJ2_checkIndex_2214a_8 : decode cJ2_checkIndex_2214a 8 = .ok (.return_, 1) := by decide +kernel
theorem dJ3_checkIndex_8e157_0 : decode cJ3_checkIndex_8e157 0 = .ok (.iload_n 0, 1) := by decide +kernel
theorem dJ3_checkIndex_8e157_1 : decode cJ3_checkIndex_8e157 1 = .ok (.ifCond .lt 8, 3) := by decide +kernel
theorem dJ3_checkIndex_8e157_4 : decode cJ3_checkIndex_8e157 4 = .ok (.iload_n 0, 1) := by decide +kernel
theorem dJ3_checkIndex_8e157_5 : decode cJ3_checkIndex_8e157 5 = .ok (.iload_n 1, 1) := by decide +kernel
theorem dJ3_checkIndex_8e157_6 : decode cJ3_checkIndex_8e157 6 = .ok (.if_icmp .lt 10, 3) := by decide +kernel
theorem dJ3_checkIndex_8e157_9 : decode cJ3_checkIndex_8e157 9 = .ok (.aload_n 2, 1) := by decide +kernel
theorem dJ3_checkIndex_8e157_10 : decode cJ3_checkIndex_8e157 10 = .ok (.iload_n 0, 1) := by decide +kernel
theorem dJ3_checkIndex_8e157_11 : decode cJ3_checkIndex_8e157 11 = .ok (.iload_n 1, 1) := by decide +kernel
theorem dJ3_checkIndex_8e157_12 : decode cJ3_checkIndex_8e157 12 = .ok (.invokestatic 95, 3) := by decide +kernel
theorem dJ3_checkIndex_8e157_15 : decode cJ3_checkIndex_8e157 15 = .ok (.athrow, 1) := by decide +kernel
theorem dJ3_checkIndex_8e157_16 : decode cJ3_checkIndex_8e157 16 = .ok (.iload_n 0, 1) := by decide +kernel
theorem dJ3_checkIndex_8e157_17 : decode cJ3_checkIndex_8e157 17 = .ok (.ireturn, 1) := by decide +kernel
