theorem dX9_lasts_41 : decode cX9_lasts 41 = .ok (.invokevirtual 115, 3) := by decide +kernel
theorem dX9_lasts_44 : decode cX9_lasts 44 = .ok (.aload_n 0, 1) := by decide +kernel
theorem dX9_lasts_45 : decode cX9_lasts 45 = .ok (.getfield 19, 3) := by decide +kernel
theorem dX9_lasts_48 : decode cX9_lasts 48 = .ok (.invokevirtual 230, 3) := by decide +kernel
theorem dX9_lasts_51 : decode cX9_lasts 51 = .ok (.iload_n 1, 1) := by decide +kernel
theorem dX9_lasts_52 : decode cX9_lasts 52 = .ok (.iload_n 2, 1) := by decide +kernel
theorem dX9_lasts_53 : decode cX9_lasts 53 = .ok (.invokevirtual 233, 3) := by decide +kernel
theorem dX9_lasts_56 : decode cX9_lasts 56 = .ok (.iload_n 3, 1) := by decide +kernel
theorem dX9_lasts_57 : decode cX9_lasts 57 = .ok (.ifCond .ne 13, 3) := by decide +kernel
theorem dX9_lasts_60 : decode cX9_lasts 60 = .ok (.aload_n 0, 1) := by decide +kernel
theorem dX9_lasts_61 : decode cX9_lasts 61 = .ok (.getfield 62, 3) := by decide +kernel
theorem dX9_lasts_64 : decode cX9_lasts 64 = .ok (.invokevirtual 237, 3) := by decide +kernel
theorem dX9_lasts_67 : decode cX9_lasts 67 = .ok (.goto 10, 3) := by decide +kernel
theorem dX9_lasts_70 : decode cX9_lasts 70 = .ok (.aload_n 0, 1) := by decide +kernel
theorem dX9_lasts_71 : decode cX9_lasts 71 = .ok (.getfield 62, 3) := by decide +kernel
theorem dX9_lasts_74 : decode cX9_lasts 74 = .ok (.invokevirtual 241, 3) := by decide +kernel
theorem dX9_lasts_77 : decode cX9_lasts 77 = .ok (.lreturn, 1) := by decide +kernel
set_option maxRecDepth 20000 in
theorem ggX9_year_X8_play : GoodIn wsX9_year wsX8_play := goodIn_r _ [8, 9, 10, 11, 12, 13, 14, 15, 16, 17, 18, 19, 20, 21, 22, 23, 24, 25, 26, 27, 28, 29, 30, 31, 32, 33, 34, 35, 36, 37, 38, 7, 39, 40, 41, 42, 43, 44, 45, 46, 47, 48, 49, 50, 51, 52, 53, 54, 55, 56, 57, 58, 59, 60, 61, 62, 63, 64, 65, 66, 67, 68, 69, 70, 71, 72, 73, 74, 75, 76, 77, 78, 79, 80, 81, 82, 83, 84, 85, 86, 87, 88, 89, 90, 91, 92, 93, 94, 95, 96, 97, 98, 99, 100, 101, 102, 103, 104, 105, 106, 107, 108, 109, 110, 111, 112, 113, 132, 133, 134, 135, 136, 137, 138, 139, 140, 141, 142, 143, 144, 145, 146, 147, 148, 149, 150, 151, 152, 153, 154, 155] (by decide +kernel) (by decide +kernel)
set_option maxRecDepth 20000 in
theorem gX9_year_X8_play : GoodIn wsX9_year (wsV RX9 244 RX8 yX8_play wsX8_play) := goodIn_app (goodIn_of _ (by decide +kernel)) ggX9_year_X8_play
set_option maxRecDepth 20000 in
theorem ggX9_year_X8_owner : GoodIn wsX9_year wsX8_owner := goodIn_r _ [117, 9, 98, 99, 100, 20, 101, 30, 132, 133, 142, 143, 144, 145, 146] (by decide +kernel) (by decide +kernel)
set_option maxRecDepth 20000 in
theorem gX9_year_X8_owner : GoodIn wsX9_year (wsV RX9 247 RX8 yX8_owner wsX8_owner) := goodIn_app (goodIn_of _ (by decide +kernel)) ggX9_year_X8_owner
set_option maxRecDepth 20000 in
theorem ggX9_year_X8_changes : GoodIn wsX9_year wsX8_changes := goodIn_r _ [121, 10, 132, 133] (by decide +kernel) (by decide +kernel)
set_option maxRecDepth 20000 in
theorem gX9_year_X8_changes : GoodIn wsX9_year (wsV RX9 248 RX8 yX8_changes wsX8_changes) := goodIn_app (goodIn_of _ (by decide +kernel)) ggX9_year_X8_changes
theorem dX9_year_0 : decode cX9_year 0 = .ok (.iload_n 1, 1) := by decide +kernel
theorem dX9_year_1 : decode cX9_year 1 = .ok (.ifCond .lt 30, 3) := by decide +kernel
theorem dX9_year_4 : decode cX9_year 4 = .ok (.iload_n 1, 1) := by decide +kernel
theorem dX9_year_5 : decode cX9_year 5 = .ok (.sipush 9999, 3) := by decide +kernel
theorem dX9_year_8 : decode cX9_year 8 = .ok (.if_icmp .gt 23, 3) := by decide +kernel
theorem dX9_year_11 : decode cX9_year 11 = .ok (.iload_n 2, 1) := by decide +kernel
theorem dX9_year_12 : decode cX9_year 12 = .ok (.iconst 1, 1) := by decide +kernel
theorem dX9_year_13 : decode cX9_year 13 = .ok (.if_icmp .lt 18, 3) := by decide +kernel
theorem dX9_year_16 : decode cX9_year 16 = .ok (.iload_n 2, 1) := by decide +kernel
theorem dX9_year_17 : decode cX9_year 17 = .ok (.bipush 99, 2) := by decide +kernel
theorem dX9_year_19 : decode cX9_year 19 = .ok (.if_icmp .gt 12, 3) := by decide +kernel
theorem dX9_year_22 : decode cX9_year 22 = .ok (.iload_n 3, 1) := by decide +kernel
theorem dX9_year_23 : decode cX9_year 23 = .ok (.ifCond .lt 8, 3) := by decide +kernel
theorem dX9_year_26 : decode cX9_year 26 = .ok (.iload_n 3, 1) := by decide +kernel
theorem dX9_year_27 : decode cX9_year 27 = .ok (.iconst 1, 1) := by decide +kernel
theorem dX9_year_28 : decode cX9_year 28 = .ok (.if_icmp .le 5, 3) := by decide +kernel
theorem dX9_year_31 : decode cX9_year 31 = .ok (.iconst (-1), 1) := by decide +kernel
theorem dX9_year_32 : decode cX9_year 32 = .ok (.ireturn, 1) := by decide +kernel
theorem dX9_year_33 : decode cX9_year 33 = .ok (.aload_n 0, 1) := by decide +kernel
theorem dX9_year_34 : decode cX9_year 34 = .ok (.getfield 69, 3) := by decide +kernel
theorem dX9_year_37 : decode cX9_year 37 = .ok (.aload_n 0, 1) := by decide +kernel
theorem dX9_year_38 : decode cX9_year 38 = .ok (.getfield 19, 3) := by decide +kernel
theorem dX9_year_41 : decode cX9_year 41 = .ok (.aload_n 0, 1) := by decide +kernel
theorem dX9_year_42 : decode cX9_year 42 = .ok (.getfield 29, 3) := by decide +kernel
theorem dX9_year_45 : decode cX9_year 45 = .ok (.iload_n 1, 1) := by decide +kernel
theorem dX9_year_46 : decode cX9_year 46 = .ok (.iload_n 2, 1) := by decide +kernel
theorem dX9_year_47 : decode cX9_year 47 = .ok (.invokevirtual 244, 3) := by decide +kernel
theorem dX9_year_50 : decode cX9_year 50 = .ok (.iload_n 3, 1) := by decide +kernel
theorem dX9_year_51 : decode cX9_year 51 = .ok (.ifCond .ne 13, 3) := by decide +kernel
theorem dX9_year_54 : decode cX9_year 54 = .ok (.aload_n 0, 1) := by decide +kernel
theorem dX9_year_55 : decode cX9_year 55 = .ok (.getfield 69, 3) := by decide +kernel
theorem dX9_year_58 : decode cX9_year 58 = .ok (.invokevirtual 247, 3) := by decide +kernel
theorem dX9_year_61 : decode cX9_year 61 = .ok (.goto 10, 3) := by decide +kernel
theorem dX9_year_64 : decode cX9_year 64 = .ok (.aload_n 0, 1) := by decide +kernel
theorem dX9_year_65 : decode cX9_year 65 = .ok (.getfield 69, 3) := by decide +kernel
theorem dX9_year_68 : decode cX9_year 68 = .ok (.invokevirtual 248, 3) := by decide +kernel
theorem dX9_year_71 : decode cX9_year 71 = .ok (.ireturn, 1) := by decide +kernel
set_option maxRecDepth 20000 in
theorem ggX9_keep_X3_held : GoodIn wsX9_keep wsX3_held := goodIn_r _ [7, 8, 61, 62, 63] (by decide +kernel) (by decide +kernel)
set_option maxRecDepth 20000 in
theorem gX9_keep_X3_held : GoodIn wsX9_keep (wsV RX9 173 RX3 yX3_held wsX3_held) := goodIn_app (goodIn_of _ (by decide +kernel)) ggX9_keep_X3_held
set_option maxRecDepth 20000 in
theorem ggX9_keep_X3_push : GoodIn wsX9_keep wsX3_push := goodIn_r _ [12, 13, 14, 8, 15, 16, 17, 18, 19, 20, 21, 6, 22, 23, 24, 25, 26, 27, 28, 29, 30, 31, 32, 33, 34, 35, 36, 37, 38, 39, 40, 41, 42, 43, 44, 45, 46, 47, 48, 49, 50, 61, 62, 63, 64, 65, 66, 67, 68, 69, 70, 71, 72, 73, 74, 75, 76] (by decide +kernel) (by decide +kernel)
set_option maxRecDepth 20000 in
theorem gX9_keep_X3_push : GoodIn wsX9_keep (wsV RX9 156 RX3 yX3_push wsX3_push) := goodIn_app (goodIn_of _ (by decide +kernel)) ggX9_keep_X3_push
theorem dX9_keep_0 : decode cX9_keep 0 = .ok (.aload_n 0, 1) := by decide +kernel
theorem dX9_keep_1 : decode cX9_keep 1 = .ok (.getfield 42, 3) := by decide +kernel
theorem dX9_keep_4 : decode cX9_keep 4 = .ok (.invokevirtual 173, 3) := by decide +kernel
theorem dX9_keep_7 : decode cX9_keep 7 = .ok (.iconst 2, 1) := by decide +kernel
theorem dX9_keep_8 : decode cX9_keep 8 = .ok (.if_icmp .lt 6, 3) := by decide +kernel
theorem dX9_keep_11 : decode cX9_keep 11 = .ok (.bipush (-3), 2) := by decide +kernel
theorem dX9_keep_13 : decode cX9_keep 13 = .ok (.ireturn, 1) := by decide +kernel
theorem dX9_keep_14 : decode cX9_keep 14 = .ok (.aload_n 0, 1) := by decide +kernel
theorem dX9_keep_15 : decode cX9_keep 15 = .ok (.getfield 42, 3) := by decide +kernel
theorem dX9_keep_18 : decode cX9_keep 18 = .ok (.aload_n 0, 1) := by decide +kernel
theorem dX9_keep_19 : decode cX9_keep 19 = .ok (.getfield 29, 3) := by decide +kernel
theorem dX9_keep_22 : decode cX9_keep 22 = .ok (.invokevirtual 156, 3) := by decide +kernel
theorem dX9_keep_25 : decode cX9_keep 25 = .ok (.aload_n 0, 1) := by decide +kernel
theorem dX9_keep_26 : decode cX9_keep 26 = .ok (.getfield 42, 3) := by decide +kernel
theorem dX9_keep_29 : decode cX9_keep 29 = .ok (.invokevirtual 173, 3) := by decide +kernel
theorem dX9_keep_32 : decode cX9_keep 32 = .ok (.ireturn, 1) := by decide +kernel
set_option maxRecDepth 20000 in
theorem ggX9_back_X3_held : GoodIn wsX9_back wsX3_held := goodIn_r _ [8, 9, 62, 63, 64] (by decide +kernel) (by decide +kernel)
set_option maxRecDepth 20000 in
theorem gX9_back_X3_held : GoodIn wsX9_back (wsV RX9 173 RX3 yX3_held wsX3_held) := goodIn_app (goodIn_of _ (by decide +kernel)) ggX9_back_X3_held
set_option maxRecDepth 20000 in
theorem ggX9_back_X3_pop : GoodIn wsX9_back wsX3_pop := goodIn_r _ [13, 9, 14, 15, 16, 17, 18, 7, 19, 20, 21, 22, 23, 24, 25, 26, 27, 28, 29, 30, 31, 32, 33, 34, 35, 36, 37, 38, 39, 40, 41, 42, 43, 44, 45, 46, 47, 62, 63, 64, 65, 66, 67, 68, 69, 70, 71, 72, 73, 74, 75, 76, 77] (by decide +kernel) (by decide +kernel)
set_option maxRecDepth 20000 in
theorem gX9_back_X3_pop : GoodIn wsX9_back (wsV RX9 176 RX3 yX3_pop wsX3_pop) := goodIn_app (goodIn_of _ (by decide +kernel)) ggX9_back_X3_pop
set_option maxRecDepth 20000 in
theorem ggX9_back_X3_clear : GoodIn wsX9_back wsX3_clear := goodIn_r _ [51, 9, 62, 63, 64] (by decide +kernel) (by decide +kernel)
set_option maxRecDepth 20000 in
theorem gX9_back_X3_clear : GoodIn wsX9_back (wsV RX9 251 RX3 yX3_clear wsX3_clear) := goodIn_app (goodIn_of _ (by decide +kernel)) ggX9_back_X3_clear
theorem dX9_back_0 : decode cX9_back 0 = .ok (.aload_n 0, 1) := by decide +kernel
theorem dX9_back_1 : decode cX9_back 1 = .ok (.getfield 42, 3) := by decide +kernel
theorem dX9_back_4 : decode cX9_back 4 = .ok (.invokevirtual 173, 3) := by decide +kernel
theorem dX9_back_7 : decode cX9_back 7 = .ok (.ifCond .ne 6, 3) := by decide +kernel
theorem dX9_back_10 : decode cX9_back 10 = .ok (.bipush (-2), 2) := by decide +kernel
theorem dX9_back_12 : decode cX9_back 12 = .ok (.ireturn, 1) := by decide +kernel
theorem dX9_back_13 : decode cX9_back 13 = .ok (.aload_n 0, 1) := by decide +kernel
theorem dX9_back_14 : decode cX9_back 14 = .ok (.getfield 42, 3) := by decide +kernel
theorem dX9_back_17 : decode cX9_back 17 = .ok (.aload_n 0, 1) := by decide +kernel
theorem dX9_back_18 : decode cX9_back 18 = .ok (.getfield 29, 3) := by decide +kernel
theorem dX9_back_21 : decode cX9_back 21 = .ok (.invokevirtual 176, 3) := by decide +kernel
theorem dX9_back_24 : decode cX9_back 24 = .ok (.aload_n 0, 1) := by decide +kernel
theorem dX9_back_25 : decode cX9_back 25 = .ok (.getfield 38, 3) := by decide +kernel
theorem dX9_back_28 : decode cX9_back 28 = .ok (.invokevirtual 251, 3) := by decide +kernel
theorem dX9_back_31 : decode cX9_back 31 = .ok (.aload_n 0, 1) := by decide +kernel
theorem dX9_back_32 : decode cX9_back 32 = .ok (.getfield 42, 3) := by decide +kernel
theorem dX9_back_35 : decode cX9_back 35 = .ok (.invokevirtual 173, 3) := by decide +kernel
theorem dX9_back_38 : decode cX9_back 38 = .ok (.ireturn, 1) := by decide +kernel
set_option maxRecDepth 20000 in
theorem ggX9_count_X2_relatives : GoodIn wsX9_count wsX2_relatives := goodIn_r _ [11, 12, 78, 79, 80, 81, 82, 83, 84, 85, 86] (by decide +kernel) (by decide +kernel)
set_option maxRecDepth 20000 in
theorem gX9_count_X2_relatives : GoodIn wsX9_count (wsV RX9 104 RX2 yX2_relatives wsX2_relatives) := goodIn_app (goodIn_of _ (by decide +kernel)) ggX9_count_X2_relatives
set_option maxRecDepth 20000 in
theorem ggX9_count_X2_sayings : GoodIn wsX9_count wsX2_sayings := goodIn_r _ [16, 17, 78, 79, 80, 81, 82, 83, 84, 85, 86] (by decide +kernel) (by decide +kernel)
set_option maxRecDepth 20000 in
theorem gX9_count_X2_sayings : GoodIn wsX9_count (wsV RX9 252 RX2 yX2_sayings wsX2_sayings) := goodIn_app (goodIn_of _ (by decide +kernel)) ggX9_count_X2_sayings
set_option maxRecDepth 20000 in
theorem ggX9_count_X1_deed : GoodIn wsX9_count wsX1_deed := goodIn_r _ [22, 23, 87, 88, 89, 90, 91, 92, 93, 94] (by decide +kernel) (by decide +kernel)
set_option maxRecDepth 20000 in
theorem gX9_count_X1_deed : GoodIn wsX9_count (wsV RX9 142 RX1 yX1_deed wsX1_deed) := goodIn_app (goodIn_of _ (by decide +kernel)) ggX9_count_X1_deed
set_option maxRecDepth 20000 in
theorem ggX9_count_X2_hint : GoodIn wsX9_count wsX2_hint := goodIn_r _ [27, 28, 78, 79, 80, 81, 82, 83, 84, 85, 86] (by decide +kernel) (by decide +kernel)
set_option maxRecDepth 20000 in
theorem gX9_count_X2_hint : GoodIn wsX9_count (wsV RX9 255 RX2 yX2_hint wsX2_hint) := goodIn_app (goodIn_of _ (by decide +kernel)) ggX9_count_X2_hint
set_option maxRecDepth 20000 in
theorem ggX9_count_X1_trust : GoodIn wsX9_count wsX1_trust := goodIn_r _ [32, 33, 87, 88, 89, 90, 91, 92, 93, 94] (by decide +kernel) (by decide +kernel)
set_option maxRecDepth 20000 in
theorem gX9_count_X1_trust : GoodIn wsX9_count (wsV RX9 115 RX1 yX1_trust wsX1_trust) := goodIn_app (goodIn_of _ (by decide +kernel)) ggX9_count_X1_trust
set_option maxRecDepth 20000 in
theorem ggX9_count_X6_day : GoodIn wsX9_count wsX6_day := goodIn_r _ [38, 39, 95, 96, 97, 98, 99] (by decide +kernel) (by decide +kernel)
set_option maxRecDepth 20000 in
theorem gX9_count_X6_day : GoodIn wsX9_count (wsV RX9 164 RX6 yX6_day wsX6_day) := goodIn_app (goodIn_of _ (by decide +kernel)) ggX9_count_X6_day
set_option maxRecDepth 20000 in
theorem ggX9_count_X6_owner : GoodIn wsX9_count wsX6_owner := goodIn_r _ [43, 44, 95, 96, 97, 98, 99] (by decide +kernel) (by decide +kernel)
set_option maxRecDepth 20000 in
theorem gX9_count_X6_owner : GoodIn wsX9_count (wsV RX9 127 RX6 yX6_owner wsX6_owner) := goodIn_app (goodIn_of _ (by decide +kernel)) ggX9_count_X6_owner
set_option maxRecDepth 20000 in
theorem ggX9_count_X5_size : GoodIn wsX9_count wsX5_size := goodIn_r _ [49, 50, 100, 101, 102, 103] (by decide +kernel) (by decide +kernel)
set_option maxRecDepth 20000 in
theorem gX9_count_X5_size : GoodIn wsX9_count (wsV RX9 204 RX5 yX5_size wsX5_size) := goodIn_app (goodIn_of _ (by decide +kernel)) ggX9_count_X5_size
set_option maxRecDepth 20000 in
theorem ggX9_count_X3_held : GoodIn wsX9_count wsX3_held := goodIn_r _ [55, 56, 104, 105, 106] (by decide +kernel) (by decide +kernel)
set_option maxRecDepth 20000 in
theorem gX9_count_X3_held : GoodIn wsX9_count (wsV RX9 173 RX3 yX3_held wsX3_held) := goodIn_app (goodIn_of _ (by decide +kernel)) ggX9_count_X3_held
set_option maxRecDepth 20000 in
theorem ggX9_count_X4_length : GoodIn wsX9_count wsX4_length := goodIn_r _ [61, 62, 107, 108, 109] (by decide +kernel) (by decide +kernel)
set_option maxRecDepth 20000 in
theorem gX9_count_X4_length : GoodIn wsX9_count (wsV RX9 95 RX4 yX4_length wsX4_length) := goodIn_app (goodIn_of _ (by decide +kernel)) ggX9_count_X4_length
set_option maxRecDepth 20000 in
theorem ggX9_count_X1_saidToday : GoodIn wsX9_count wsX1_saidToday := goodIn_r _ [66, 67, 87, 88, 89, 90, 91, 92, 93, 94] (by decide +kernel) (by decide +kernel)
set_option maxRecDepth 20000 in
theorem gX9_count_X1_saidToday : GoodIn wsX9_count (wsV RX9 153 RX1 yX1_saidToday wsX1_saidToday) := goodIn_app (goodIn_of _ (by decide +kernel)) ggX9_count_X1_saidToday
theorem dX9_count_0 : decode cX9_count 0 = .ok (.iload_n 1, 1) := by decide +kernel
theorem dX9_count_1 : decode cX9_count 1 = .ok (.tableswitch 174 0 10 #[59, 67, 75, 83, 91, 102, 134, 142, 150, 158, 166], 59) := by decide +kernel
theorem dX9_count_60 : decode cX9_count 60 = .ok (.aload_n 0, 1) := by decide +kernel
theorem dX9_count_61 : decode cX9_count 61 = .ok (.getfield 19, 3) := by decide +kernel
theorem dX9_count_64 : decode cX9_count 64 = .ok (.invokevirtual 104, 3) := by decide +kernel
theorem dX9_count_67 : decode cX9_count 67 = .ok (.ireturn, 1) := by decide +kernel
theorem dX9_count_68 : decode cX9_count 68 = .ok (.aload_n 0, 1) := by decide +kernel
theorem dX9_count_69 : decode cX9_count 69 = .ok (.getfield 19, 3) := by decide +kernel
theorem dX9_count_72 : decode cX9_count 72 = .ok (.invokevirtual 252, 3) := by decide +kernel
theorem dX9_count_75 : decode cX9_count 75 = .ok (.ireturn, 1) := by decide +kernel
theorem dX9_count_76 : decode cX9_count 76 = .ok (.aload_n 0, 1) := by decide +kernel
theorem dX9_count_77 : decode cX9_count 77 = .ok (.getfield 29, 3) := by decide +kernel
theorem dX9_count_80 : decode cX9_count 80 = .ok (.invokevirtual 142, 3) := by decide +kernel
theorem dX9_count_83 : decode cX9_count 83 = .ok (.ireturn, 1) := by decide +kernel
theorem dX9_count_84 : decode cX9_count 84 = .ok (.aload_n 0, 1) := by decide +kernel
theorem dX9_count_85 : decode cX9_count 85 = .ok (.getfield 19, 3) := by decide +kernel
theorem dX9_count_88 : decode cX9_count 88 = .ok (.invokevirtual 255, 3) := by decide +kernel
theorem dX9_count_91 : decode cX9_count 91 = .ok (.ireturn, 1) := by decide +kernel
theorem dX9_count_92 : decode cX9_count 92 = .ok (.aload_n 0, 1) := by decide +kernel
theorem dX9_count_93 : decode cX9_count 93 = .ok (.getfield 29, 3) := by decide +kernel
theorem dX9_count_96 : decode cX9_count 96 = .ok (.invokevirtual 115, 3) := by decide +kernel
theorem dX9_count_99 : decode cX9_count 99 = .ok (.invokevirtual 164, 3) := by decide +kernel
theorem dX9_count_102 : decode cX9_count 102 = .ok (.ireturn, 1) := by decide +kernel
theorem dX9_count_103 : decode cX9_count 103 = .ok (.aload_n 0, 1) := by decide +kernel
theorem dX9_count_104 : decode cX9_count 104 = .ok (.getfield 29, 3) := by decide +kernel
theorem dX9_count_107 : decode cX9_count 107 = .ok (.invokevirtual 115, 3) := by decide +kernel
theorem dX9_count_110 : decode cX9_count 110 = .ok (.invokevirtual 127, 3) := by decide +kernel
theorem dX9_count_113 : decode cX9_count 113 = .ok (.bipush (-4), 2) := by decide +kernel
theorem dX9_count_115 : decode cX9_count 115 = .ok (.if_icmp .ne 7, 3) := by decide +kernel
theorem dX9_count_118 : decode cX9_count 118 = .ok (.iconst 0, 1) := by decide +kernel
theorem dX9_count_119 : decode cX9_count 119 = .ok (.goto 15, 3) := by decide +kernel
theorem dX9_count_122 : decode cX9_count 122 = .ok (.aload_n 0, 1) := by decide +kernel
theorem dX9_count_123 : decode cX9_count 123 = .ok (.getfield 29, 3) := by decide +kernel
theorem dX9_count_126 : decode cX9_count 126 = .ok (.invokevirtual 115, 3) := by decide +kernel
theorem dX9_count_129 : decode cX9_count 129 = .ok (.invokevirtual 127, 3) := by decide +kernel
theorem dX9_count_132 : decode cX9_count 132 = .ok (.iconst 1, 1) := by decide +kernel
theorem dX9_count_133 : decode cX9_count 133 = .ok (.iadd, 1) := by decide +kernel
theorem dX9_count_134 : decode cX9_count 134 = .ok (.ireturn, 1) := by decide +kernel
theorem dX9_count_135 : decode cX9_count 135 = .ok (.aload_n 0, 1) := by decide +kernel
theorem dX9_count_136 : decode cX9_count 136 = .ok (.getfield 48, 3) := by decide +kernel
theorem dX9_count_139 : decode cX9_count 139 = .ok (.invokevirtual 204, 3) := by decide +kernel
theorem dX9_count_142 : decode cX9_count 142 = .ok (.ireturn, 1) := by decide +kernel
theorem dX9_count_143 : decode cX9_count 143 = .ok (.aload_n 0, 1) := by decide +kernel
theorem dX9_count_144 : decode cX9_count 144 = .ok (.getfield 38, 3) := by decide +kernel
theorem dX9_count_147 : decode cX9_count 147 = .ok (.invokevirtual 173, 3) := by decide +kernel
theorem dX9_count_150 : decode cX9_count 150 = .ok (.ireturn, 1) := by decide +kernel
theorem dX9_count_151 : decode cX9_count 151 = .ok (.aload_n 0, 1) := by decide +kernel
theorem dX9_count_152 : decode cX9_count 152 = .ok (.getfield 42, 3) := by decide +kernel
theorem dX9_count_155 : decode cX9_count 155 = .ok (.invokevirtual 173, 3) := by decide +kernel
theorem dX9_count_158 : decode cX9_count 158 = .ok (.ireturn, 1) := by decide +kernel
theorem dX9_count_159 : decode cX9_count 159 = .ok (.aload_n 0, 1) := by decide +kernel
theorem dX9_count_160 : decode cX9_count 160 = .ok (.getfield 10, 3) := by decide +kernel
theorem dX9_count_163 : decode cX9_count 163 = .ok (.invokevirtual 95, 3) := by decide +kernel
theorem dX9_count_166 : decode cX9_count 166 = .ok (.ireturn, 1) := by decide +kernel
theorem dX9_count_167 : decode cX9_count 167 = .ok (.aload_n 0, 1) := by decide +kernel
theorem dX9_count_168 : decode cX9_count 168 = .ok (.getfield 29, 3) := by decide +kernel
theorem dX9_count_171 : decode cX9_count 171 = .ok (.invokevirtual 153, 3) := by decide +kernel
theorem dX9_count_174 : decode cX9_count 174 = .ok (.ireturn, 1) := by decide +kernel
theorem dX9_count_175 : decode cX9_count 175 = .ok (.iconst (-1), 1) := by decide +kernel
theorem dX9_count_176 : decode cX9_count 176 = .ok (.ireturn, 1) := by decide +kernel
set_option maxRecDepth 20000 in
theorem ggX9_layText_X4_readInto : GoodIn wsX9_layText wsX4_readInto := goodIn_r _ [11, 12, 13, 14, 15, 16, 17, 18, 19, 20, 21, 22, 23, 24, 10, 25, 26, 27, 28, 29, 30, 31, 32, 33, 34, 35, 36, 37, 38, 39, 40, 41, 42, 43, 44, 45, 46, 47, 48, 49, 50, 51, 52, 53, 54, 55, 56, 57, 58, 59, 60, 61, 62, 63, 64, 65, 66, 67, 68, 133, 134, 135, 136, 137, 138, 139, 140, 141, 142, 143, 144] (by decide +kernel) (by decide +kernel)
set_option maxRecDepth 20000 in
theorem gX9_layText_X4_readInto : GoodIn wsX9_layText (wsV RX9 96 RX4 yX4_readInto wsX4_readInto) := goodIn_app (goodIn_of _ (by decide +kernel)) ggX9_layText_X4_readInto
set_option maxRecDepth 20000 in
theorem ggX9_layText_X1_begin : GoodIn wsX9_layText wsX1_begin := goodIn_r _ [73, 74, 75, 76, 77, 78, 79, 80, 81, 82, 83, 84, 85, 86, 87, 88, 89, 90, 91, 92, 93, 94, 95, 96, 16, 97, 18, 98, 99, 100, 101, 53, 102, 103, 104, 105, 106, 107, 108, 109, 110, 20, 145, 146, 147, 148, 149, 150, 151, 152, 153, 154, 155, 156, 157, 136, 137, 138, 139, 140, 141, 142, 143, 144] (by decide +kernel) (by decide +kernel)
set_option maxRecDepth 20000 in
theorem gX9_layText_X1_begin : GoodIn wsX9_layText (wsV RX9 258 RX1 yX1_begin wsX1_begin) := goodIn_app (goodIn_of _ (by decide +kernel)) ggX9_layText_X1_begin
set_option maxRecDepth 20000 in
theorem ggX9_layText_X3_clear : GoodIn wsX9_layText wsX3_clear := goodIn_r _ [115, 116, 158, 159, 160] (by decide +kernel) (by decide +kernel)
set_option maxRecDepth 20000 in
theorem gX9_layText_X3_clear : GoodIn wsX9_layText (wsV RX9 251 RX3 yX3_clear wsX3_clear) := goodIn_app (goodIn_of _ (by decide +kernel)) ggX9_layText_X3_clear
set_option maxRecDepth 20000 in
theorem ggX9_layText_X5_clear : GoodIn wsX9_layText wsX5_clear := goodIn_r _ [121, 122, 161, 162, 163, 164] (by decide +kernel) (by decide +kernel)
set_option maxRecDepth 20000 in
theorem gX9_layText_X5_clear : GoodIn wsX9_layText (wsV RX9 207 RX5 yX5_clear wsX5_clear) := goodIn_app (goodIn_of _ (by decide +kernel)) ggX9_layText_X5_clear
theorem dX9_layText_0 : decode cX9_layText 0 = .ok (.aload_n 0, 1) := by decide +kernel
theorem dX9_layText_1 : decode cX9_layText 1 = .ok (.getfield 10, 3) := by decide +kernel
theorem dX9_layText_4 : decode cX9_layText 4 = .ok (.aload_n 0, 1) := by decide +kernel
theorem dX9_layText_5 : decode cX9_layText 5 = .ok (.getfield 19, 3) := by decide +kernel
theorem dX9_layText_8 : decode cX9_layText 8 = .ok (.invokevirtual 96, 3) := by decide +kernel
theorem dX9_layText_11 : decode cX9_layText 11 = .ok (.pop, 1) := by decide +kernel
theorem dX9_layText_12 : decode cX9_layText 12 = .ok (.aload_n 0, 1) := by decide +kernel
theorem dX9_layText_13 : decode cX9_layText 13 = .ok (.getfield 29, 3) := by decide +kernel
theorem dX9_layText_16 : decode cX9_layText 16 = .ok (.aload_n 0, 1) := by decide +kernel
theorem dX9_layText_17 : decode cX9_layText 17 = .ok (.getfield 19, 3) := by decide +kernel
theorem dX9_layText_20 : decode cX9_layText 20 = .ok (.invokevirtual 258, 3) := by decide +kernel
theorem dX9_layText_23 : decode cX9_layText 23 = .ok (.aload_n 0, 1) := by decide +kernel
theorem dX9_layText_24 : decode cX9_layText 24 = .ok (.getfield 38, 3) := by decide +kernel
theorem dX9_layText_27 : decode cX9_layText 27 = .ok (.invokevirtual 251, 3) := by decide +kernel
theorem dX9_layText_30 : decode cX9_layText 30 = .ok (.aload_n 0, 1) := by decide +kernel
theorem dX9_layText_31 : decode cX9_layText 31 = .ok (.getfield 42, 3) := by decide +kernel
theorem dX9_layText_34 : decode cX9_layText 34 = .ok (.invokevirtual 251, 3) := by decide +kernel
theorem dX9_layText_37 : decode cX9_layText 37 = .ok (.aload_n 0, 1) := by decide +kernel
theorem dX9_layText_38 : decode cX9_layText 38 = .ok (.getfield 48, 3) := by decide +kernel
theorem dX9_layText_41 : decode cX9_layText 41 = .ok (.invokevirtual 207, 3) := by decide +kernel
theorem dX9_layText_44 : decode cX9_layText 44 = .ok (.return_, 1) := by decide +kernel
set_option maxRecDepth 20000 in
theorem ggX10_init_X10_clearTold : GoodIn wsX10_init wsX10_clearTold := goodIn_r _ [24, 25, 26, 18, 19, 48, 49, 50, 51, 52, 53, 54, 55, 56, 57, 58, 59, 60, 61, 62, 63, 64, 65, 66, 67, 68, 69, 70, 71, 72] (by decide +kernel) (by decide +kernel)
set_option maxRecDepth 20000 in
theorem gX10_init_X10_clearTold : GoodIn wsX10_init (wsV RX10 49 RX10 yX10_clearTold wsX10_clearTold) := goodIn_app (goodIn_of _ (by decide +kernel)) ggX10_init_X10_clearTold
set_option maxRecDepth 20000 in
theorem ggX10_init_X10_tellsRelative : GoodIn wsX10_init wsX10_tellsRelative := goodIn_r _ [30, 14, 25, 48, 49, 50, 51, 52, 53, 54, 55, 56, 57, 58, 59, 60, 61, 62, 63, 64, 65, 66, 67, 68, 69, 70, 71, 72] (by decide +kernel) (by decide +kernel)
set_option maxRecDepth 20000 in
theorem gX10_init_X10_tellsRelative : GoodIn wsX10_init (wsV RX10 52 RX10 yX10_tellsRelative wsX10_tellsRelative) := goodIn_app (goodIn_of _ (by decide +kernel)) ggX10_init_X10_tellsRelative
set_option maxRecDepth 20000 in
theorem ggX10_init_X10_tellsSaying : GoodIn wsX10_init wsX10_tellsSaying := goodIn_r _ [34, 15, 26, 48, 49, 50, 51, 52, 53, 54, 55, 56, 57, 58, 59, 60, 61, 62, 63, 64, 65, 66, 67, 68, 69, 70, 71, 72] (by decide +kernel) (by decide +kernel)
set_option maxRecDepth 20000 in
theorem gX10_init_X10_tellsSaying : GoodIn wsX10_init (wsV RX10 56 RX10 yX10_tellsSaying wsX10_tellsSaying) := goodIn_app (goodIn_of _ (by decide +kernel)) ggX10_init_X10_tellsSaying
set_option maxRecDepth 20000 in
theorem ggX10_init_X10_settles : GoodIn wsX10_init wsX10_settles := goodIn_r _ [38, 25, 39, 26, 40, 19, 41, 5, 14, 6, 15, 7, 18, 8, 42, 43, 44, 45, 46, 23, 47, 48, 49, 50, 51, 52, 53, 54, 55, 56, 57, 58, 59, 60, 61, 62, 63, 64, 65, 66, 67, 68, 69, 70, 71, 72] (by decide +kernel) (by decide +kernel)
set_option maxRecDepth 20000 in
theorem gX10_init_X10_settles : GoodIn wsX10_init (wsV RX10 67 RX10 yX10_settles wsX10_settles) := goodIn_app (goodIn_of _ (by decide +kernel)) ggX10_init_X10_settles
theorem dX10_init_0 : decode cX10_init 0 = .ok (.aload_n 0, 1) := by decide +kernel
theorem dX10_init_1 : decode cX10_init 1 = .ok (.invokespecial 1, 3) := by decide +kernel
theorem dX10_init_4 : decode cX10_init 4 = .ok (.aload_n 0, 1) := by decide +kernel
theorem dX10_init_5 : decode cX10_init 5 = .ok (.bipush 18, 2) := by decide +kernel
theorem dX10_init_7 : decode cX10_init 7 = .ok (.newarray .int, 2) := by decide +kernel
theorem dX10_init_9 : decode cX10_init 9 = .ok (.putfield 7, 3) := by decide +kernel
theorem dX10_init_12 : decode cX10_init 12 = .ok (.aload_n 0, 1) := by decide +kernel
theorem dX10_init_13 : decode cX10_init 13 = .ok (.bipush 16, 2) := by decide +kernel
theorem dX10_init_15 : decode cX10_init 15 = .ok (.newarray .int, 2) := by decide +kernel
theorem dX10_init_17 : decode cX10_init 17 = .ok (.putfield 13, 3) := by decide +kernel
theorem dX10_init_20 : decode cX10_init 20 = .ok (.aload_n 0, 1) := by decide +kernel
theorem dX10_init_21 : decode cX10_init 21 = .ok (.bipush 72, 2) := by decide +kernel
theorem dX10_init_23 : decode cX10_init 23 = .ok (.newarray .int, 2) := by decide +kernel
theorem dX10_init_25 : decode cX10_init 25 = .ok (.putfield 16, 3) := by decide +kernel
theorem dX10_init_28 : decode cX10_init 28 = .ok (.aload_n 0, 1) := by decide +kernel
theorem dX10_init_29 : decode cX10_init 29 = .ok (.bipush 72, 2) := by decide +kernel
theorem dX10_init_31 : decode cX10_init 31 = .ok (.newarray .int, 2) := by decide +kernel
theorem dX10_init_33 : decode cX10_init 33 = .ok (.putfield 19, 3) := by decide +kernel
theorem dX10_init_36 : decode cX10_init 36 = .ok (.aload_n 0, 1) := by decide +kernel
theorem dX10_init_37 : decode cX10_init 37 = .ok (.sipush 576, 3) := by decide +kernel
theorem dX10_init_40 : decode cX10_init 40 = .ok (.newarray .int, 2) := by decide +kernel
theorem dX10_init_42 : decode cX10_init 42 = .ok (.putfield 22, 3) := by decide +kernel
theorem dX10_init_45 : decode cX10_init 45 = .ok (.aload_n 0, 1) := by decide +kernel
theorem dX10_init_46 : decode cX10_init 46 = .ok (.sipush 144, 3) := by decide +kernel
theorem dX10_init_49 : decode cX10_init 49 = .ok (.newarray .int, 2) := by decide +kernel
theorem dX10_init_51 : decode cX10_init 51 = .ok (.putfield 25, 3) := by decide +kernel
theorem dX10_init_54 : decode cX10_init 54 = .ok (.aload_n 0, 1) := by decide +kernel
theorem dX10_init_55 : decode cX10_init 55 = .ok (.bipush 12, 2) := by decide +kernel
theorem dX10_init_57 : decode cX10_init 57 = .ok (.newarray .int, 2) := by decide +kernel
theorem dX10_init_59 : decode cX10_init 59 = .ok (.putfield 28, 3) := by decide +kernel
theorem dX10_init_62 : decode cX10_init 62 = .ok (.aload_n 0, 1) := by decide +kernel
theorem dX10_init_63 : decode cX10_init 63 = .ok (.sipush 200, 3) := by decide +kernel
theorem dX10_init_66 : decode cX10_init 66 = .ok (.newarray .int, 2) := by decide +kernel
theorem dX10_init_68 : decode cX10_init 68 = .ok (.putfield 31, 3) := by decide +kernel
theorem dX10_init_71 : decode cX10_init 71 = .ok (.aload_n 0, 1) := by decide +kernel
theorem dX10_init_72 : decode cX10_init 72 = .ok (.iconst 3, 1) := by decide +kernel
theorem dX10_init_73 : decode cX10_init 73 = .ok (.newarray .int, 2) := by decide +kernel
theorem dX10_init_75 : decode cX10_init 75 = .ok (.putfield 34, 3) := by decide +kernel
theorem dX10_init_78 : decode cX10_init 78 = .ok (.aload_n 0, 1) := by decide +kernel
theorem dX10_init_79 : decode cX10_init 79 = .ok (.bipush 18, 2) := by decide +kernel
theorem dX10_init_81 : decode cX10_init 81 = .ok (.newarray .int, 2) := by decide +kernel
theorem dX10_init_83 : decode cX10_init 83 = .ok (.putfield 37, 3) := by decide +kernel
theorem dX10_init_86 : decode cX10_init 86 = .ok (.aload_n 0, 1) := by decide +kernel
theorem dX10_init_87 : decode cX10_init 87 = .ok (.bipush 16, 2) := by decide +kernel
theorem dX10_init_89 : decode cX10_init 89 = .ok (.newarray .int, 2) := by decide +kernel
theorem dX10_init_91 : decode cX10_init 91 = .ok (.putfield 40, 3) := by decide +kernel
theorem dX10_init_94 : decode cX10_init 94 = .ok (.aload_n 0, 1) := by decide +kernel
theorem dX10_init_95 : decode cX10_init 95 = .ok (.bipush 72, 2) := by decide +kernel
theorem dX10_init_97 : decode cX10_init 97 = .ok (.newarray .int, 2) := by decide +kernel
theorem dX10_init_99 : decode cX10_init 99 = .ok (.putfield 43, 3) := by decide +kernel
theorem dX10_init_102 : decode cX10_init 102 = .ok (.aload_n 0, 1) := by decide +kernel
theorem dX10_init_103 : decode cX10_init 103 = .ok (.bipush 64, 2) := by decide +kernel
theorem dX10_init_105 : decode cX10_init 105 = .ok (.newarray .int, 2) := by decide +kernel
theorem dX10_init_107 : decode cX10_init 107 = .ok (.putfield 46, 3) := by decide +kernel
theorem dX10_init_110 : decode cX10_init 110 = .ok (.aload_n 0, 1) := by decide +kernel
theorem dX10_init_111 : decode cX10_init 111 = .ok (.invokevirtual 49, 3) := by decide +kernel
theorem dX10_init_114 : decode cX10_init 114 = .ok (.aload_n 0, 1) := by decide +kernel
theorem dX10_init_115 : decode cX10_init 115 = .ok (.iconst 0, 1) := by decide +kernel
theorem dX10_init_116 : decode cX10_init 116 = .ok (.bipush 40, 2) := by decide +kernel
theorem dX10_init_118 : decode cX10_init 118 = .ok (.iconst 1, 1) := by decide +kernel
theorem dX10_init_119 : decode cX10_init 119 = .ok (.invokevirtual 52, 3) := by decide +kernel
theorem dX10_init_122 : decode cX10_init 122 = .ok (.aload_n 0, 1) := by decide +kernel
theorem dX10_init_123 : decode cX10_init 123 = .ok (.iconst 1, 1) := by decide +kernel
theorem dX10_init_124 : decode cX10_init 124 = .ok (.bipush 12, 2) := by decide +kernel
theorem dX10_init_126 : decode cX10_init 126 = .ok (.iconst 2, 1) := by decide +kernel
theorem dX10_init_127 : decode cX10_init 127 = .ok (.invokevirtual 52, 3) := by decide +kernel
theorem dX10_init_130 : decode cX10_init 130 = .ok (.aload_n 0, 1) := by decide +kernel
theorem dX10_init_131 : decode cX10_init 131 = .ok (.iconst 2, 1) := by decide +kernel
theorem dX10_init_132 : decode cX10_init 132 = .ok (.bipush 55, 2) := by decide +kernel
theorem dX10_init_134 : decode cX10_init 134 = .ok (.iconst 0, 1) := by decide +kernel
theorem dX10_init_135 : decode cX10_init 135 = .ok (.invokevirtual 52, 3) := by decide +kernel
theorem dX10_init_138 : decode cX10_init 138 = .ok (.aload_n 0, 1) := by decide +kernel
theorem dX10_init_139 : decode cX10_init 139 = .ok (.iconst 3, 1) := by decide +kernel
theorem dX10_init_140 : decode cX10_init 140 = .ok (.iconst 3, 1) := by decide +kernel
theorem dX10_init_141 : decode cX10_init 141 = .ok (.iconst 1, 1) := by decide +kernel
theorem dX10_init_142 : decode cX10_init 142 = .ok (.invokevirtual 52, 3) := by decide +kernel
theorem dX10_init_145 : decode cX10_init 145 = .ok (.aload_n 0, 1) := by decide +kernel
theorem dX10_init_146 : decode cX10_init 146 = .ok (.iconst 4, 1) := by decide +kernel
theorem dX10_init_147 : decode cX10_init 147 = .ok (.bipush 70, 2) := by decide +kernel
theorem dX10_init_149 : decode cX10_init 149 = .ok (.bipush 9, 2) := by decide +kernel
theorem dX10_init_151 : decode cX10_init 151 = .ok (.invokevirtual 52, 3) := by decide +kernel
theorem dX10_init_154 : decode cX10_init 154 = .ok (.aload_n 0, 1) := by decide +kernel
theorem dX10_init_155 : decode cX10_init 155 = .ok (.iconst 1, 1) := by decide +kernel
theorem dX10_init_156 : decode cX10_init 156 = .ok (.iconst 1, 1) := by decide +kernel
theorem dX10_init_157 : decode cX10_init 157 = .ok (.invokevirtual 56, 3) := by decide +kernel
theorem dX10_init_160 : decode cX10_init 160 = .ok (.aload_n 0, 1) := by decide +kernel
theorem dX10_init_161 : decode cX10_init 161 = .ok (.bipush 6, 2) := by decide +kernel
theorem dX10_init_163 : decode cX10_init 163 = .ok (.iconst 0, 1) := by decide +kernel
theorem dX10_init_164 : decode cX10_init 164 = .ok (.invokevirtual 56, 3) := by decide +kernel
theorem dX10_init_167 : decode cX10_init 167 = .ok (.aload_n 0, 1) := by decide +kernel
theorem dX10_init_168 : decode cX10_init 168 = .ok (.iconst 5, 1) := by decide +kernel
theorem dX10_init_169 : decode cX10_init 169 = .ok (.iconst 1, 1) := by decide +kernel
theorem dX10_init_170 : decode cX10_init 170 = .ok (.invokevirtual 56, 3) := by decide +kernel
theorem dX10_init_173 : decode cX10_init 173 = .ok (.aload_n 0, 1) := by decide +kernel
theorem dX10_init_174 : decode cX10_init 174 = .ok (.bipush 14, 2) := by decide +kernel
theorem dX10_init_176 : decode cX10_init 176 = .ok (.iconst 0, 1) := by decide +kernel
theorem dX10_init_177 : decode cX10_init 177 = .ok (.invokevirtual 56, 3) := by decide +kernel
theorem dX10_init_180 : decode cX10_init 180 = .ok (.aload_n 0, 1) := by decide +kernel
theorem dX10_init_181 : decode cX10_init 181 = .ok (.bipush 8, 2) := by decide +kernel
theorem dX10_init_183 : decode cX10_init 183 = .ok (.iconst 1, 1) := by decide +kernel
theorem dX10_init_184 : decode cX10_init 184 = .ok (.invokevirtual 56, 3) := by decide +kernel
theorem dX10_init_187 : decode cX10_init 187 = .ok (.aload_n 0, 1) := by decide +kernel
theorem dX10_init_188 : decode cX10_init 188 = .ok (.iconst 3, 1) := by decide +kernel
theorem dX10_init_189 : decode cX10_init 189 = .ok (.iconst 0, 1) := by decide +kernel
theorem dX10_init_190 : decode cX10_init 190 = .ok (.invokevirtual 56, 3) := by decide +kernel
theorem dX10_init_193 : decode cX10_init 193 = .ok (.aload_n 0, 1) := by decide +kernel
theorem dX10_init_194 : decode cX10_init 194 = .ok (.iconst 5, 1) := by decide +kernel
theorem dX10_init_195 : decode cX10_init 195 = .ok (.putfield 60, 3) := by decide +kernel
theorem dX10_init_198 : decode cX10_init 198 = .ok (.aload_n 0, 1) := by decide +kernel
theorem dX10_init_199 : decode cX10_init 199 = .ok (.iconst 2, 1) := by decide +kernel
theorem dX10_init_200 : decode cX10_init 200 = .ok (.putfield 64, 3) := by decide +kernel
theorem dX10_init_203 : decode cX10_init 203 = .ok (.aload_n 0, 1) := by decide +kernel
theorem dX10_init_204 : decode cX10_init 204 = .ok (.invokevirtual 67, 3) := by decide +kernel
theorem dX10_init_207 : decode cX10_init 207 = .ok (.return_, 1) := by decide +kernel
theorem dX10_tellsRelative_0 : decode cX10_tellsRelative 0 = .ok (.aload_n 0, 1) := by decide +kernel
theorem dX10_tellsRelative_1 : decode cX10_tellsRelative 1 = .ok (.getfield 37, 3) := by decide +kernel
theorem dX10_tellsRelative_4 : decode cX10_tellsRelative 4 = .ok (.iconst 3, 1) := by decide +kernel
theorem dX10_tellsRelative_5 : decode cX10_tellsRelative 5 = .ok (.aload_n 0, 1) := by decide +kernel
theorem dX10_tellsRelative_6 : decode cX10_tellsRelative 6 = .ok (.getfield 70, 3) := by decide +kernel
theorem dX10_tellsRelative_9 : decode cX10_tellsRelative 9 = .ok (.imul, 1) := by decide +kernel
theorem dX10_tellsRelative_10 : decode cX10_tellsRelative 10 = .ok (.iload_n 1, 1) := by decide +kernel
theorem dX10_tellsRelative_11 : decode cX10_tellsRelative 11 = .ok (.iastore, 1) := by decide +kernel
theorem dX10_tellsRelative_12 : decode cX10_tellsRelative 12 = .ok (.aload_n 0, 1) := by decide +kernel
theorem dX10_tellsRelative_13 : decode cX10_tellsRelative 13 = .ok (.getfield 37, 3) := by decide +kernel
theorem dX10_tellsRelative_16 : decode cX10_tellsRelative 16 = .ok (.iconst 3, 1) := by decide +kernel
theorem dX10_tellsRelative_17 : decode cX10_tellsRelative 17 = .ok (.aload_n 0, 1) := by decide +kernel
theorem dX10_tellsRelative_18 : decode cX10_tellsRelative 18 = .ok (.getfield 70, 3) := by decide +kernel
theorem dX10_tellsRelative_21 : decode cX10_tellsRelative 21 = .ok (.imul, 1) := by decide +kernel
theorem dX10_tellsRelative_22 : decode cX10_tellsRelative 22 = .ok (.iconst 1, 1) := by decide +kernel
theorem dX10_tellsRelative_23 : decode cX10_tellsRelative 23 = .ok (.iadd, 1) := by decide +kernel
theorem dX10_tellsRelative_24 : decode cX10_tellsRelative 24 = .ok (.iload_n 2, 1) := by decide +kernel
theorem dX10_tellsRelative_25 : decode cX10_tellsRelative 25 = .ok (.iastore, 1) := by decide +kernel
theorem dX10_tellsRelative_26 : decode cX10_tellsRelative 26 = .ok (.aload_n 0, 1) := by decide +kernel
theorem dX10_tellsRelative_27 : decode cX10_tellsRelative 27 = .ok (.getfield 37, 3) := by decide +kernel
theorem dX10_tellsRelative_30 : decode cX10_tellsRelative 30 = .ok (.iconst 3, 1) := by decide +kernel
theorem dX10_tellsRelative_31 : decode cX10_tellsRelative 31 = .ok (.aload_n 0, 1) := by decide +kernel
theorem dX10_tellsRelative_32 : decode cX10_tellsRelative 32 = .ok (.getfield 70, 3) := by decide +kernel
theorem dX10_tellsRelative_35 : decode cX10_tellsRelative 35 = .ok (.imul, 1) := by decide +kernel
theorem dX10_tellsRelative_36 : decode cX10_tellsRelative 36 = .ok (.iconst 2, 1) := by decide +kernel
theorem dX10_tellsRelative_37 : decode cX10_tellsRelative 37 = .ok (.iadd, 1) := by decide +kernel
theorem dX10_tellsRelative_38 : decode cX10_tellsRelative 38 = .ok (.iload_n 3, 1) := by decide +kernel
theorem dX10_tellsRelative_39 : decode cX10_tellsRelative 39 = .ok (.iastore, 1) := by decide +kernel
theorem dX10_tellsRelative_40 : decode cX10_tellsRelative 40 = .ok (.aload_n 0, 1) := by decide +kernel
theorem dX10_tellsRelative_41 : decode cX10_tellsRelative 41 = .ok (.dup, 1) := by decide +kernel
theorem dX10_tellsRelative_42 : decode cX10_tellsRelative 42 = .ok (.getfield 70, 3) := by decide +kernel
theorem dX10_tellsRelative_45 : decode cX10_tellsRelative 45 = .ok (.iconst 1, 1) := by decide +kernel
theorem dX10_tellsRelative_46 : decode cX10_tellsRelative 46 = .ok (.iadd, 1) := by decide +kernel
theorem dX10_tellsRelative_47 : decode cX10_tellsRelative 47 = .ok (.putfield 70, 3) := by decide +kernel
theorem dX10_tellsRelative_50 : decode cX10_tellsRelative 50 = .ok (.return_, 1) := by decide +kernel
theorem dX10_tellsSaying_0 : decode cX10_tellsSaying 0 = .ok (.aload_n 0, 1) := by decide +kernel
theorem dX10_tellsSaying_1 : decode cX10_tellsSaying 1 = .ok (.getfield 40, 3) := by decide +kernel
theorem dX10_tellsSaying_4 : decode cX10_tellsSaying 4 = .ok (.iconst 2, 1) := by decide +kernel
theorem dX10_tellsSaying_5 : decode cX10_tellsSaying 5 = .ok (.aload_n 0, 1) := by decide +kernel
theorem dX10_tellsSaying_6 : decode cX10_tellsSaying 6 = .ok (.getfield 73, 3) := by decide +kernel
theorem dX10_tellsSaying_9 : decode cX10_tellsSaying 9 = .ok (.imul, 1) := by decide +kernel
theorem dX10_tellsSaying_10 : decode cX10_tellsSaying 10 = .ok (.iload_n 1, 1) := by decide +kernel
theorem dX10_tellsSaying_11 : decode cX10_tellsSaying 11 = .ok (.iastore, 1) := by decide +kernel
theorem dX10_tellsSaying_12 : decode cX10_tellsSaying 12 = .ok (.aload_n 0, 1) := by decide +kernel
theorem dX10_tellsSaying_13 : decode cX10_tellsSaying 13 = .ok (.getfield 40, 3) := by decide +kernel
theorem dX10_tellsSaying_16 : decode cX10_tellsSaying 16 = .ok (.iconst 2, 1) := by decide +kernel
theorem dX10_tellsSaying_17 : decode cX10_tellsSaying 17 = .ok (.aload_n 0, 1) := by decide +kernel
theorem dX10_tellsSaying_18 : decode cX10_tellsSaying 18 = .ok (.getfield 73, 3) := by decide +kernel
theorem dX10_tellsSaying_21 : decode cX10_tellsSaying 21 = .ok (.imul, 1) := by decide +kernel
theorem dX10_tellsSaying_22 : decode cX10_tellsSaying 22 = .ok (.iconst 1, 1) := by decide +kernel
theorem dX10_tellsSaying_23 : decode cX10_tellsSaying 23 = .ok (.iadd, 1) := by decide +kernel
theorem dX10_tellsSaying_24 : decode cX10_tellsSaying 24 = .ok (.iload_n 2, 1) := by decide +kernel
theorem dX10_tellsSaying_25 : decode cX10_tellsSaying 25 = .ok (.iastore, 1) := by decide +kernel
theorem dX10_tellsSaying_26 : decode cX10_tellsSaying 26 = .ok (.aload_n 0, 1) := by decide +kernel
theorem dX10_tellsSaying_27 : decode cX10_tellsSaying 27 = .ok (.dup, 1) := by decide +kernel
theorem dX10_tellsSaying_28 : decode cX10_tellsSaying 28 = .ok (.getfield 73, 3) := by decide +kernel
theorem dX10_tellsSaying_31 : decode cX10_tellsSaying 31 = .ok (.iconst 1, 1) := by decide +kernel
theorem dX10_tellsSaying_32 : decode cX10_tellsSaying 32 = .ok (.iadd, 1) := by decide +kernel
theorem dX10_tellsSaying_33 : decode cX10_tellsSaying 33 = .ok (.putfield 73, 3) := by decide +kernel
theorem dX10_tellsSaying_36 : decode cX10_tellsSaying 36 = .ok (.return_, 1) := by decide +kernel
theorem dX10_in_0 : decode cX10_in 0 = .ok (.iload_n 0, 1) := by decide +kernel
theorem dX10_in_1 : decode cX10_in 1 = .ok (.iload_n 1, 1) := by decide +kernel
theorem dX10_in_2 : decode cX10_in 2 = .ok (.if_icmp .lt 12, 3) := by decide +kernel
theorem dX10_in_5 : decode cX10_in 5 = .ok (.iload_n 0, 1) := by decide +kernel
theorem dX10_in_6 : decode cX10_in 6 = .ok (.iload_n 2, 1) := by decide +kernel
theorem dX10_in_7 : decode cX10_in 7 = .ok (.if_icmp .gt 7, 3) := by decide +kernel
theorem dX10_in_10 : decode cX10_in 10 = .ok (.iconst 1, 1) := by decide +kernel
theorem dX10_in_11 : decode cX10_in 11 = .ok (.goto 4, 3) := by decide +kernel
theorem dX10_in_14 : decode cX10_in 14 = .ok (.iconst 0, 1) := by decide +kernel
theorem dX10_in_15 : decode cX10_in 15 = .ok (.ireturn, 1) := by decide +kernel
set_option maxRecDepth 20000 in
theorem ggX10_isRelative_X10_in : GoodIn wsX10_isRelative wsX10_in := goodIn_r _ [5] (by decide +kernel) (by decide +kernel)
set_option maxRecDepth 20000 in
theorem gX10_isRelative_X10_in : GoodIn wsX10_isRelative (va_wsS RX10 79 yX10_in wsX10_in) := goodIn_app (goodIn_of _ (by decide +kernel)) ggX10_isRelative_X10_in
theorem dX10_isRelative_0 : decode cX10_isRelative 0 = .ok (.iload_n 1, 1) := by decide +kernel
theorem dX10_isRelative_1 : decode cX10_isRelative 1 = .ok (.iconst 0, 1) := by decide +kernel
theorem dX10_isRelative_2 : decode cX10_isRelative 2 = .ok (.aload_n 0, 1) := by decide +kernel
theorem dX10_isRelative_3 : decode cX10_isRelative 3 = .ok (.getfield 76, 3) := by decide +kernel
theorem dX10_isRelative_6 : decode cX10_isRelative 6 = .ok (.iconst 1, 1) := by decide +kernel
theorem dX10_isRelative_7 : decode cX10_isRelative 7 = .ok (.isub, 1) := by decide +kernel
theorem dX10_isRelative_8 : decode cX10_isRelative 8 = .ok (.invokestatic 79, 3) := by decide +kernel
theorem dX10_isRelative_11 : decode cX10_isRelative 11 = .ok (.ireturn, 1) := by decide +kernel
theorem dX10_bits_0 : decode cX10_bits 0 = .ok (.iconst 0, 1) := by decide +kernel
theorem dX10_bits_1 : decode cX10_bits 1 = .ok (.istore_n 1, 1) := by decide +kernel
theorem dX10_bits_2 : decode cX10_bits 2 = .ok (.iconst 0, 1) := by decide +kernel
theorem dX10_bits_3 : decode cX10_bits 3 = .ok (.istore_n 2, 1) := by decide +kernel
theorem dX10_bits_4 : decode cX10_bits 4 = .ok (.iload_n 2, 1) := by decide +kernel
theorem dX10_bits_5 : decode cX10_bits 5 = .ok (.bipush 6, 2) := by decide +kernel
theorem dX10_bits_7 : decode cX10_bits 7 = .ok (.if_icmp .ge 17, 3) := by decide +kernel
theorem dX10_bits_10 : decode cX10_bits 10 = .ok (.iload_n 1, 1) := by decide +kernel
theorem dX10_bits_11 : decode cX10_bits 11 = .ok (.iload_n 0, 1) := by decide +kernel
theorem dX10_bits_12 : decode cX10_bits 12 = .ok (.iload_n 2, 1) := by decide +kernel
theorem dX10_bits_13 : decode cX10_bits 13 = .ok (.ishr, 1) := by decide +kernel
theorem dX10_bits_14 : decode cX10_bits 14 = .ok (.iconst 1, 1) := by decide +kernel
theorem dX10_bits_15 : decode cX10_bits 15 = .ok (.iand, 1) := by decide +kernel
theorem dX10_bits_16 : decode cX10_bits 16 = .ok (.iadd, 1) := by decide +kernel
theorem dX10_bits_17 : decode cX10_bits 17 = .ok (.istore_n 1, 1) := by decide +kernel
theorem dX10_bits_18 : decode cX10_bits 18 = .ok (.iinc 2 1, 3) := by decide +kernel
theorem dX10_bits_21 : decode cX10_bits 21 = .ok (.goto (-17), 3) := by decide +kernel
theorem dX10_bits_24 : decode cX10_bits 24 = .ok (.iload_n 1, 1) := by decide +kernel
theorem dX10_bits_25 : decode cX10_bits 25 = .ok (.ireturn, 1) := by decide +kernel
set_option maxRecDepth 20000 in
theorem ggX10_write_X10_in : GoodIn wsX10_write wsX10_in := goodIn_r _ [6] (by decide +kernel) (by decide +kernel)
set_option maxRecDepth 20000 in
theorem gX10_write_X10_in : GoodIn wsX10_write (va_wsS RX10 79 yX10_in wsX10_in) := goodIn_app (goodIn_of _ (by decide +kernel)) ggX10_write_X10_in
theorem dX10_write_0 : decode cX10_write 0 = .ok (.iload_n 1, 1) := by decide +kernel
theorem dX10_write_1 : decode cX10_write 1 = .ok (.bipush 32, 2) := by decide +kernel
theorem dX10_write_3 : decode cX10_write 3 = .ok (.bipush 126, 2) := by decide +kernel
theorem dX10_write_5 : decode cX10_write 5 = .ok (.invokestatic 79, 3) := by decide +kernel
theorem dX10_write_8 : decode cX10_write 8 = .ok (.ifCond .ne 5, 3) := by decide +kernel
theorem dX10_write_11 : decode cX10_write 11 = .ok (.iconst (-1), 1) := by decide +kernel
theorem dX10_write_12 : decode cX10_write 12 = .ok (.ireturn, 1) := by decide +kernel
theorem dX10_write_13 : decode cX10_write 13 = .ok (.aload_n 0, 1) := by decide +kernel
theorem dX10_write_14 : decode cX10_write 14 = .ok (.getfield 83, 3) := by decide +kernel
theorem dX10_write_17 : decode cX10_write 17 = .ok (.sipush 200, 3) := by decide +kernel
theorem dX10_write_20 : decode cX10_write 20 = .ok (.if_icmp .ne 6, 3) := by decide +kernel
theorem dX10_write_23 : decode cX10_write 23 = .ok (.bipush (-3), 2) := by decide +kernel
theorem dX10_write_25 : decode cX10_write 25 = .ok (.ireturn, 1) := by decide +kernel
theorem dX10_write_26 : decode cX10_write 26 = .ok (.aload_n 0, 1) := by decide +kernel
theorem dX10_write_27 : decode cX10_write 27 = .ok (.getfield 31, 3) := by decide +kernel
theorem dX10_write_30 : decode cX10_write 30 = .ok (.aload_n 0, 1) := by decide +kernel
theorem dX10_write_31 : decode cX10_write 31 = .ok (.getfield 83, 3) := by decide +kernel
theorem dX10_write_34 : decode cX10_write 34 = .ok (.iload_n 1, 1) := by decide +kernel
theorem dX10_write_35 : decode cX10_write 35 = .ok (.iastore, 1) := by decide +kernel
theorem dX10_write_36 : decode cX10_write 36 = .ok (.aload_n 0, 1) := by decide +kernel
theorem dX10_write_37 : decode cX10_write 37 = .ok (.dup, 1) := by decide +kernel
theorem dX10_write_38 : decode cX10_write 38 = .ok (.getfield 83, 3) := by decide +kernel
theorem dX10_write_41 : decode cX10_write 41 = .ok (.iconst 1, 1) := by decide +kernel
theorem dX10_write_42 : decode cX10_write 42 = .ok (.iadd, 1) := by decide +kernel
theorem dX10_write_43 : decode cX10_write 43 = .ok (.putfield 83, 3) := by decide +kernel
theorem dX10_write_46 : decode cX10_write 46 = .ok (.aload_n 0, 1) := by decide +kernel
theorem dX10_write_47 : decode cX10_write 47 = .ok (.getfield 83, 3) := by decide +kernel
theorem dX10_write_50 : decode cX10_write 50 = .ok (.ireturn, 1) := by decide +kernel
theorem dX10_wipe_0 : decode cX10_wipe 0 = .ok (.aload_n 0, 1) := by decide +kernel
theorem dX10_wipe_1 : decode cX10_wipe 1 = .ok (.getfield 83, 3) := by decide +kernel
theorem dX10_wipe_4 : decode cX10_wipe 4 = .ok (.istore_n 1, 1) := by decide +kernel
theorem dX10_wipe_5 : decode cX10_wipe 5 = .ok (.aload_n 0, 1) := by decide +kernel
theorem dX10_wipe_6 : decode cX10_wipe 6 = .ok (.iconst 0, 1) := by decide +kernel
theorem dX10_wipe_7 : decode cX10_wipe 7 = .ok (.putfield 83, 3) := by decide +kernel
theorem dX10_wipe_10 : decode cX10_wipe 10 = .ok (.iload_n 1, 1) := by decide +kernel
theorem dX10_wipe_11 : decode cX10_wipe 11 = .ok (.ireturn, 1) := by decide +kernel
theorem dX10_letterAt_0 : decode cX10_letterAt 0 = .ok (.iload_n 1, 1) := by decide +kernel
theorem dX10_letterAt_1 : decode cX10_letterAt 1 = .ok (.aload_n 0, 1) := by decide +kernel
theorem dX10_letterAt_2 : decode cX10_letterAt 2 = .ok (.getfield 83, 3) := by decide +kernel
theorem dX10_letterAt_5 : decode cX10_letterAt 5 = .ok (.if_icmp .ge 12, 3) := by decide +kernel
theorem dX10_letterAt_8 : decode cX10_letterAt 8 = .ok (.aload_n 0, 1) := by decide +kernel
theorem dX10_letterAt_9 : decode cX10_letterAt 9 = .ok (.getfield 31, 3) := by decide +kernel
theorem dX10_letterAt_12 : decode cX10_letterAt 12 = .ok (.iload_n 1, 1) := by decide +kernel
theorem dX10_letterAt_13 : decode cX10_letterAt 13 = .ok (.iaload, 1) := by decide +kernel
theorem dX10_letterAt_14 : decode cX10_letterAt 14 = .ok (.goto 4, 3) := by decide +kernel
theorem dX10_letterAt_17 : decode cX10_letterAt 17 = .ok (.iconst (-1), 1) := by decide +kernel
theorem dX10_letterAt_18 : decode cX10_letterAt 18 = .ok (.ireturn, 1) := by decide +kernel
set_option maxRecDepth 20000 in
theorem ggX10_isFigure_X10_in : GoodIn wsX10_isFigure wsX10_in := goodIn_r _ [4] (by decide +kernel) (by decide +kernel)
set_option maxRecDepth 20000 in
theorem gX10_isFigure_X10_in : GoodIn wsX10_isFigure (va_wsS RX10 79 yX10_in wsX10_in) := goodIn_app (goodIn_of _ (by decide +kernel)) ggX10_isFigure_X10_in
theorem dX10_isFigure_0 : decode cX10_isFigure 0 = .ok (.iload_n 0, 1) := by decide +kernel
theorem dX10_isFigure_1 : decode cX10_isFigure 1 = .ok (.bipush 48, 2) := by decide +kernel
theorem dX10_isFigure_3 : decode cX10_isFigure 3 = .ok (.bipush 57, 2) := by decide +kernel
theorem dX10_isFigure_5 : decode cX10_isFigure 5 = .ok (.invokestatic 79, 3) := by decide +kernel
theorem dX10_isFigure_8 : decode cX10_isFigure 8 = .ok (.ireturn, 1) := by decide +kernel
set_option maxRecDepth 20000 in
theorem ggX10_readNumbers_X10_letterAt : GoodIn wsX10_readNumbers wsX10_letterAt := goodIn_r _ [7, 8, 9, 16, 17, 18, 19, 20, 21, 22, 23, 24, 25, 26, 27, 28, 29, 30, 31, 32, 33, 34, 35, 36, 37, 38, 39, 40] (by decide +kernel) (by decide +kernel)
set_option maxRecDepth 20000 in
theorem gX10_readNumbers_X10_letterAt : GoodIn wsX10_readNumbers (wsV RX10 89 RX10 yX10_letterAt wsX10_letterAt) := goodIn_app (goodIn_of _ (by decide +kernel)) ggX10_readNumbers_X10_letterAt
set_option maxRecDepth 20000 in
theorem ggX10_readNumbers_X10_isFigure : GoodIn wsX10_readNumbers wsX10_isFigure := goodIn_r _ [12, 13, 14, 6, 15] (by decide +kernel) (by decide +kernel)
set_option maxRecDepth 20000 in
theorem gX10_readNumbers_X10_isFigure : GoodIn wsX10_readNumbers (va_wsS RX10 93 yX10_isFigure wsX10_isFigure) := goodIn_app (goodIn_of _ (by decide +kernel)) ggX10_readNumbers_X10_isFigure
theorem dX10_readNumbers_0 : decode cX10_readNumbers 0 = .ok (.iconst 0, 1) := by decide +kernel
theorem dX10_readNumbers_1 : decode cX10_readNumbers 1 = .ok (.istore_n 2, 1) := by decide +kernel
theorem dX10_readNumbers_2 : decode cX10_readNumbers 2 = .ok (.iload_n 2, 1) := by decide +kernel
theorem dX10_readNumbers_3 : decode cX10_readNumbers 3 = .ok (.iload_n 1, 1) := by decide +kernel
theorem dX10_readNumbers_4 : decode cX10_readNumbers 4 = .ok (.if_icmp .ge 140, 3) := by decide +kernel
theorem dX10_readNumbers_7 : decode cX10_readNumbers 7 = .ok (.aload_n 0, 1) := by decide +kernel
theorem dX10_readNumbers_8 : decode cX10_readNumbers 8 = .ok (.aload_n 0, 1) := by decide +kernel
theorem dX10_readNumbers_9 : decode cX10_readNumbers 9 = .ok (.getfield 86, 3) := by decide +kernel
theorem dX10_readNumbers_12 : decode cX10_readNumbers 12 = .ok (.invokevirtual 89, 3) := by decide +kernel
theorem dX10_readNumbers_15 : decode cX10_readNumbers 15 = .ok (.invokestatic 93, 3) := by decide +kernel
theorem dX10_readNumbers_18 : decode cX10_readNumbers 18 = .ok (.ifCond .ne 5, 3) := by decide +kernel
theorem dX10_readNumbers_21 : decode cX10_readNumbers 21 = .ok (.iconst 0, 1) := by decide +kernel
theorem dX10_readNumbers_22 : decode cX10_readNumbers 22 = .ok (.ireturn, 1) := by decide +kernel
theorem dX10_readNumbers_23 : decode cX10_readNumbers 23 = .ok (.aload_n 0, 1) := by decide +kernel
theorem dX10_readNumbers_24 : decode cX10_readNumbers 24 = .ok (.getfield 34, 3) := by decide +kernel
theorem dX10_readNumbers_27 : decode cX10_readNumbers 27 = .ok (.iload_n 2, 1) := by decide +kernel
theorem dX10_readNumbers_28 : decode cX10_readNumbers 28 = .ok (.aload_n 0, 1) := by decide +kernel
theorem dX10_readNumbers_29 : decode cX10_readNumbers 29 = .ok (.aload_n 0, 1) := by decide +kernel
theorem dX10_readNumbers_30 : decode cX10_readNumbers 30 = .ok (.getfield 86, 3) := by decide +kernel
theorem dX10_readNumbers_33 : decode cX10_readNumbers 33 = .ok (.invokevirtual 89, 3) := by decide +kernel
theorem dX10_readNumbers_36 : decode cX10_readNumbers 36 = .ok (.bipush 48, 2) := by decide +kernel
theorem dX10_readNumbers_38 : decode cX10_readNumbers 38 = .ok (.isub, 1) := by decide +kernel
theorem dX10_readNumbers_39 : decode cX10_readNumbers 39 = .ok (.iastore, 1) := by decide +kernel
theorem dX10_readNumbers_40 : decode cX10_readNumbers 40 = .ok (.aload_n 0, 1) := by decide +kernel
theorem dX10_readNumbers_41 : decode cX10_readNumbers 41 = .ok (.dup, 1) := by decide +kernel
theorem dX10_readNumbers_42 : decode cX10_readNumbers 42 = .ok (.getfield 86, 3) := by decide +kernel
theorem dX10_readNumbers_45 : decode cX10_readNumbers 45 = .ok (.iconst 1, 1) := by decide +kernel
theorem dX10_readNumbers_46 : decode cX10_readNumbers 46 = .ok (.iadd, 1) := by decide +kernel
theorem dX10_readNumbers_47 : decode cX10_readNumbers 47 = .ok (.putfield 86, 3) := by decide +kernel
theorem dX10_readNumbers_50 : decode cX10_readNumbers 50 = .ok (.aload_n 0, 1) := by decide +kernel
theorem dX10_readNumbers_51 : decode cX10_readNumbers 51 = .ok (.aload_n 0, 1) := by decide +kernel
theorem dX10_readNumbers_52 : decode cX10_readNumbers 52 = .ok (.getfield 86, 3) := by decide +kernel
theorem dX10_readNumbers_55 : decode cX10_readNumbers 55 = .ok (.invokevirtual 89, 3) := by decide +kernel
theorem dX10_readNumbers_58 : decode cX10_readNumbers 58 = .ok (.invokestatic 93, 3) := by decide +kernel
theorem dX10_readNumbers_61 : decode cX10_readNumbers 61 = .ok (.ifCond .eq 40, 3) := by decide +kernel
theorem dX10_readNumbers_64 : decode cX10_readNumbers 64 = .ok (.aload_n 0, 1) := by decide +kernel
theorem dX10_readNumbers_65 : decode cX10_readNumbers 65 = .ok (.getfield 34, 3) := by decide +kernel
theorem dX10_readNumbers_68 : decode cX10_readNumbers 68 = .ok (.iload_n 2, 1) := by decide +kernel
theorem dX10_readNumbers_69 : decode cX10_readNumbers 69 = .ok (.bipush 10, 2) := by decide +kernel
theorem dX10_readNumbers_71 : decode cX10_readNumbers 71 = .ok (.aload_n 0, 1) := by decide +kernel
theorem dX10_readNumbers_72 : decode cX10_readNumbers 72 = .ok (.getfield 34, 3) := by decide +kernel
theorem dX10_readNumbers_75 : decode cX10_readNumbers 75 = .ok (.iload_n 2, 1) := by decide +kernel
theorem dX10_readNumbers_76 : decode cX10_readNumbers 76 = .ok (.iaload, 1) := by decide +kernel
theorem dX10_readNumbers_77 : decode cX10_readNumbers 77 = .ok (.imul, 1) := by decide +kernel
theorem dX10_readNumbers_78 : decode cX10_readNumbers 78 = .ok (.aload_n 0, 1) := by decide +kernel
theorem dX10_readNumbers_79 : decode cX10_readNumbers 79 = .ok (.aload_n 0, 1) := by decide +kernel
theorem dX10_readNumbers_80 : decode cX10_readNumbers 80 = .ok (.getfield 86, 3) := by decide +kernel
theorem dX10_readNumbers_83 : decode cX10_readNumbers 83 = .ok (.invokevirtual 89, 3) := by decide +kernel
theorem dX10_readNumbers_86 : decode cX10_readNumbers 86 = .ok (.iadd, 1) := by decide +kernel
theorem dX10_readNumbers_87 : decode cX10_readNumbers 87 = .ok (.bipush 48, 2) := by decide +kernel
theorem dX10_readNumbers_89 : decode cX10_readNumbers 89 = .ok (.isub, 1) := by decide +kernel
theorem dX10_readNumbers_90 : decode cX10_readNumbers 90 = .ok (.iastore, 1) := by decide +kernel
theorem dX10_readNumbers_91 : decode cX10_readNumbers 91 = .ok (.aload_n 0, 1) := by decide +kernel
theorem dX10_readNumbers_92 : decode cX10_readNumbers 92 = .ok (.dup, 1) := by decide +kernel
theorem dX10_readNumbers_93 : decode cX10_readNumbers 93 = .ok (.getfield 86, 3) := by decide +kernel
theorem dX10_readNumbers_96 : decode cX10_readNumbers 96 = .ok (.iconst 1, 1) := by decide +kernel
theorem dX10_readNumbers_97 : decode cX10_readNumbers 97 = .ok (.iadd, 1) := by decide +kernel
theorem dX10_readNumbers_98 : decode cX10_readNumbers 98 = .ok (.putfield 86, 3) := by decide +kernel
theorem dX10_readNumbers_101 : decode cX10_readNumbers 101 = .ok (.aload_n 0, 1) := by decide +kernel
theorem dX10_readNumbers_102 : decode cX10_readNumbers 102 = .ok (.aload_n 0, 1) := by decide +kernel
theorem dX10_readNumbers_103 : decode cX10_readNumbers 103 = .ok (.getfield 86, 3) := by decide +kernel
theorem dX10_readNumbers_106 : decode cX10_readNumbers 106 = .ok (.invokevirtual 89, 3) := by decide +kernel
theorem dX10_readNumbers_109 : decode cX10_readNumbers 109 = .ok (.iload_n 2, 1) := by decide +kernel
theorem dX10_readNumbers_110 : decode cX10_readNumbers 110 = .ok (.iload_n 1, 1) := by decide +kernel
theorem dX10_readNumbers_111 : decode cX10_readNumbers 111 = .ok (.iconst 1, 1) := by decide +kernel
theorem dX10_readNumbers_112 : decode cX10_readNumbers 112 = .ok (.isub, 1) := by decide +kernel
theorem dX10_readNumbers_113 : decode cX10_readNumbers 113 = .ok (.if_icmp .ge 8, 3) := by decide +kernel
theorem dX10_readNumbers_116 : decode cX10_readNumbers 116 = .ok (.bipush 44, 2) := by decide +kernel
theorem dX10_readNumbers_118 : decode cX10_readNumbers 118 = .ok (.goto 5, 3) := by decide +kernel
theorem dX10_readNumbers_121 : decode cX10_readNumbers 121 = .ok (.bipush 59, 2) := by decide +kernel
theorem dX10_readNumbers_123 : decode cX10_readNumbers 123 = .ok (.if_icmp .eq 5, 3) := by decide +kernel
theorem dX10_readNumbers_126 : decode cX10_readNumbers 126 = .ok (.iconst 0, 1) := by decide +kernel
theorem dX10_readNumbers_127 : decode cX10_readNumbers 127 = .ok (.ireturn, 1) := by decide +kernel
theorem dX10_readNumbers_128 : decode cX10_readNumbers 128 = .ok (.aload_n 0, 1) := by decide +kernel
theorem dX10_readNumbers_129 : decode cX10_readNumbers 129 = .ok (.dup, 1) := by decide +kernel
theorem dX10_readNumbers_130 : decode cX10_readNumbers 130 = .ok (.getfield 86, 3) := by decide +kernel
theorem dX10_readNumbers_133 : decode cX10_readNumbers 133 = .ok (.iconst 1, 1) := by decide +kernel
theorem dX10_readNumbers_134 : decode cX10_readNumbers 134 = .ok (.iadd, 1) := by decide +kernel
theorem dX10_readNumbers_135 : decode cX10_readNumbers 135 = .ok (.putfield 86, 3) := by decide +kernel
theorem dX10_readNumbers_138 : decode cX10_readNumbers 138 = .ok (.iinc 2 1, 3) := by decide +kernel
theorem dX10_readNumbers_141 : decode cX10_readNumbers 141 = .ok (.goto (-139), 3) := by decide +kernel
theorem dX10_readNumbers_144 : decode cX10_readNumbers 144 = .ok (.iconst 1, 1) := by decide +kernel
theorem dX10_readNumbers_145 : decode cX10_readNumbers 145 = .ok (.ireturn, 1) := by decide +kernel
set_option maxRecDepth 20000 in
theorem ggX10_isTold_X10_in : GoodIn wsX10_isTold wsX10_in := goodIn_r _ [5] (by decide +kernel) (by decide +kernel)
set_option maxRecDepth 20000 in
theorem gX10_isTold_X10_in : GoodIn wsX10_isTold (va_wsS RX10 79 yX10_in wsX10_in) := goodIn_app (goodIn_of _ (by decide +kernel)) ggX10_isTold_X10_in
theorem dX10_isTold_0 : decode cX10_isTold 0 = .ok (.aload_n 0, 1) := by decide +kernel
theorem dX10_isTold_1 : decode cX10_isTold 1 = .ok (.getfield 34, 3) := by decide +kernel
theorem dX10_isTold_4 : decode cX10_isTold 4 = .ok (.iload_n 1, 1) := by decide +kernel
theorem dX10_isTold_5 : decode cX10_isTold 5 = .ok (.iaload, 1) := by decide +kernel
theorem dX10_isTold_6 : decode cX10_isTold 6 = .ok (.iload_n 2, 1) := by decide +kernel
theorem dX10_isTold_7 : decode cX10_isTold 7 = .ok (.iload_n 3, 1) := by decide +kernel
theorem dX10_isTold_8 : decode cX10_isTold 8 = .ok (.invokestatic 79, 3) := by decide +kernel
theorem dX10_isTold_11 : decode cX10_isTold 11 = .ok (.ireturn, 1) := by decide +kernel
theorem dX10_put_0 : decode cX10_put 0 = .ok (.iconst 0, 1) := by decide +kernel
theorem dX10_put_1 : decode cX10_put 1 = .ok (.istore 4, 2) := by decide +kernel
theorem dX10_put_3 : decode cX10_put 3 = .ok (.iload 4, 2) := by decide +kernel
theorem dX10_put_5 : decode cX10_put 5 = .ok (.iload_n 3, 1) := by decide +kernel
theorem dX10_put_6 : decode cX10_put 6 = .ok (.if_icmp .ge 19, 3) := by decide +kernel
theorem dX10_put_9 : decode cX10_put 9 = .ok (.aload_n 0, 1) := by decide +kernel
theorem dX10_put_10 : decode cX10_put 10 = .ok (.iload_n 1, 1) := by decide +kernel
theorem dX10_put_11 : decode cX10_put 11 = .ok (.iload 4, 2) := by decide +kernel
theorem dX10_put_13 : decode cX10_put 13 = .ok (.iadd, 1) := by decide +kernel
theorem dX10_put_14 : decode cX10_put 14 = .ok (.aload_n 2, 1) := by decide +kernel
theorem dX10_put_15 : decode cX10_put 15 = .ok (.iload 4, 2) := by decide +kernel
theorem dX10_put_17 : decode cX10_put 17 = .ok (.iaload, 1) := by decide +kernel
theorem dX10_put_18 : decode cX10_put 18 = .ok (.iastore, 1) := by decide +kernel
theorem dX10_put_19 : decode cX10_put 19 = .ok (.iinc 4 1, 3) := by decide +kernel
theorem dX10_put_22 : decode cX10_put 22 = .ok (.goto (-19), 3) := by decide +kernel
theorem dX10_put_25 : decode cX10_put 25 = .ok (.return_, 1) := by decide +kernel
theorem dX10_clearTold_0 : decode cX10_clearTold 0 = .ok (.aload_n 0, 1) := by decide +kernel
theorem dX10_clearTold_1 : decode cX10_clearTold 1 = .ok (.iconst 0, 1) := by decide +kernel
theorem dX10_clearTold_2 : decode cX10_clearTold 2 = .ok (.putfield 70, 3) := by decide +kernel
theorem dX10_clearTold_5 : decode cX10_clearTold 5 = .ok (.aload_n 0, 1) := by decide +kernel
theorem dX10_clearTold_6 : decode cX10_clearTold 6 = .ok (.iconst 0, 1) := by decide +kernel
theorem dX10_clearTold_7 : decode cX10_clearTold 7 = .ok (.putfield 73, 3) := by decide +kernel
theorem dX10_clearTold_10 : decode cX10_clearTold 10 = .ok (.aload_n 0, 1) := by decide +kernel
theorem dX10_clearTold_11 : decode cX10_clearTold 11 = .ok (.iconst 1, 1) := by decide +kernel
theorem dX10_clearTold_12 : decode cX10_clearTold 12 = .ok (.putfield 60, 3) := by decide +kernel
theorem dX10_clearTold_15 : decode cX10_clearTold 15 = .ok (.aload_n 0, 1) := by decide +kernel
theorem dX10_clearTold_16 : decode cX10_clearTold 16 = .ok (.iconst 3, 1) := by decide +kernel
theorem dX10_clearTold_17 : decode cX10_clearTold 17 = .ok (.putfield 64, 3) := by decide +kernel
theorem dX10_clearTold_20 : decode cX10_clearTold 20 = .ok (.return_, 1) := by decide +kernel
set_option maxRecDepth 20000 in
theorem ggX10_readRelativeOf_X10_readNumbers : GoodIn wsX10_readRelativeOf wsX10_readNumbers := goodIn_r _ [7, 8, 2, 9, 10, 11, 6, 12, 13, 14, 15, 16, 17, 18, 19, 20, 30, 31, 32, 33, 34, 35, 36, 37, 38, 39, 40, 41, 42, 43, 44, 45, 46, 47, 48, 49, 50, 51, 52, 53, 54] (by decide +kernel) (by decide +kernel)
set_option maxRecDepth 20000 in
theorem gX10_readRelativeOf_X10_readNumbers : GoodIn wsX10_readRelativeOf (wsV RX10 97 RX10 yX10_readNumbers wsX10_readNumbers) := goodIn_app (goodIn_of _ (by decide +kernel)) ggX10_readRelativeOf_X10_readNumbers
set_option maxRecDepth 20000 in
theorem ggX10_readRelativeOf_X10_isTold : GoodIn wsX10_readRelativeOf wsX10_isTold := goodIn_r _ [24, 2, 18, 19, 6, 20, 30, 31, 32, 33, 34, 35, 36, 37, 38, 39, 40, 41, 42, 43, 44, 45, 46, 47, 48, 49, 50, 51, 52, 53, 54] (by decide +kernel) (by decide +kernel)
set_option maxRecDepth 20000 in
theorem gX10_readRelativeOf_X10_isTold : GoodIn wsX10_readRelativeOf (wsV RX10 100 RX10 yX10_isTold wsX10_isTold) := goodIn_app (goodIn_of _ (by decide +kernel)) ggX10_readRelativeOf_X10_isTold
set_option maxRecDepth 20000 in
theorem ggX10_readRelativeOf_X10_tellsRelative : GoodIn wsX10_readRelativeOf wsX10_tellsRelative := goodIn_r _ [28, 29, 1, 30, 31, 32, 33, 34, 35, 36, 37, 38, 39, 40, 41, 42, 43, 44, 45, 46, 47, 48, 49, 50, 51, 52, 53, 54] (by decide +kernel) (by decide +kernel)
set_option maxRecDepth 20000 in
theorem gX10_readRelativeOf_X10_tellsRelative : GoodIn wsX10_readRelativeOf (wsV RX10 52 RX10 yX10_tellsRelative wsX10_tellsRelative) := goodIn_app (goodIn_of _ (by decide +kernel)) ggX10_readRelativeOf_X10_tellsRelative
theorem dX10_readRelativeOf_0 : decode cX10_readRelativeOf 0 = .ok (.aload_n 0, 1) := by decide +kernel
theorem dX10_readRelativeOf_1 : decode cX10_readRelativeOf 1 = .ok (.getfield 70, 3) := by decide +kernel
theorem dX10_readRelativeOf_4 : decode cX10_readRelativeOf 4 = .ok (.bipush 6, 2) := by decide +kernel
theorem dX10_readRelativeOf_6 : decode cX10_readRelativeOf 6 = .ok (.if_icmp .eq 43, 3) := by decide +kernel
theorem dX10_readRelativeOf_9 : decode cX10_readRelativeOf 9 = .ok (.aload_n 0, 1) := by decide +kernel
theorem dX10_readRelativeOf_10 : decode cX10_readRelativeOf 10 = .ok (.iconst 3, 1) := by decide +kernel
theorem dX10_readRelativeOf_11 : decode cX10_readRelativeOf 11 = .ok (.invokevirtual 97, 3) := by decide +kernel
theorem dX10_readRelativeOf_14 : decode cX10_readRelativeOf 14 = .ok (.ifCond .eq 35, 3) := by decide +kernel
theorem dX10_readRelativeOf_17 : decode cX10_readRelativeOf 17 = .ok (.aload_n 0, 1) := by decide +kernel
theorem dX10_readRelativeOf_18 : decode cX10_readRelativeOf 18 = .ok (.iconst 0, 1) := by decide +kernel
theorem dX10_readRelativeOf_19 : decode cX10_readRelativeOf 19 = .ok (.iconst 0, 1) := by decide +kernel
theorem dX10_readRelativeOf_20 : decode cX10_readRelativeOf 20 = .ok (.iconst 4, 1) := by decide +kernel
theorem dX10_readRelativeOf_21 : decode cX10_readRelativeOf 21 = .ok (.invokevirtual 100, 3) := by decide +kernel
theorem dX10_readRelativeOf_24 : decode cX10_readRelativeOf 24 = .ok (.ifCond .eq 25, 3) := by decide +kernel
theorem dX10_readRelativeOf_27 : decode cX10_readRelativeOf 27 = .ok (.aload_n 0, 1) := by decide +kernel
theorem dX10_readRelativeOf_28 : decode cX10_readRelativeOf 28 = .ok (.iconst 1, 1) := by decide +kernel
theorem dX10_readRelativeOf_29 : decode cX10_readRelativeOf 29 = .ok (.iconst 0, 1) := by decide +kernel
theorem dX10_readRelativeOf_30 : decode cX10_readRelativeOf 30 = .ok (.bipush 99, 2) := by decide +kernel
theorem dX10_readRelativeOf_32 : decode cX10_readRelativeOf 32 = .ok (.invokevirtual 100, 3) := by decide +kernel
theorem dX10_readRelativeOf_35 : decode cX10_readRelativeOf 35 = .ok (.ifCond .eq 14, 3) := by decide +kernel
theorem dX10_readRelativeOf_38 : decode cX10_readRelativeOf 38 = .ok (.aload_n 0, 1) := by decide +kernel
theorem dX10_readRelativeOf_39 : decode cX10_readRelativeOf 39 = .ok (.iconst 2, 1) := by decide +kernel
theorem dX10_readRelativeOf_40 : decode cX10_readRelativeOf 40 = .ok (.iconst 0, 1) := by decide +kernel
theorem dX10_readRelativeOf_41 : decode cX10_readRelativeOf 41 = .ok (.bipush 9, 2) := by decide +kernel
theorem dX10_readRelativeOf_43 : decode cX10_readRelativeOf 43 = .ok (.invokevirtual 100, 3) := by decide +kernel
theorem dX10_readRelativeOf_46 : decode cX10_readRelativeOf 46 = .ok (.ifCond .ne 5, 3) := by decide +kernel
theorem dX10_readRelativeOf_49 : decode cX10_readRelativeOf 49 = .ok (.iconst 0, 1) := by decide +kernel
theorem dX10_readRelativeOf_50 : decode cX10_readRelativeOf 50 = .ok (.ireturn, 1) := by decide +kernel
theorem dX10_readRelativeOf_51 : decode cX10_readRelativeOf 51 = .ok (.aload_n 0, 1) := by decide +kernel
theorem dX10_readRelativeOf_52 : decode cX10_readRelativeOf 52 = .ok (.aload_n 0, 1) := by decide +kernel
theorem dX10_readRelativeOf_53 : decode cX10_readRelativeOf 53 = .ok (.getfield 34, 3) := by decide +kernel
theorem dX10_readRelativeOf_56 : decode cX10_readRelativeOf 56 = .ok (.iconst 0, 1) := by decide +kernel
theorem dX10_readRelativeOf_57 : decode cX10_readRelativeOf 57 = .ok (.iaload, 1) := by decide +kernel
theorem dX10_readRelativeOf_58 : decode cX10_readRelativeOf 58 = .ok (.aload_n 0, 1) := by decide +kernel
theorem dX10_readRelativeOf_59 : decode cX10_readRelativeOf 59 = .ok (.getfield 34, 3) := by decide +kernel
theorem dX10_readRelativeOf_62 : decode cX10_readRelativeOf 62 = .ok (.iconst 1, 1) := by decide +kernel
theorem dX10_readRelativeOf_63 : decode cX10_readRelativeOf 63 = .ok (.iaload, 1) := by decide +kernel
theorem dX10_readRelativeOf_64 : decode cX10_readRelativeOf 64 = .ok (.aload_n 0, 1) := by decide +kernel
theorem dX10_readRelativeOf_65 : decode cX10_readRelativeOf 65 = .ok (.getfield 34, 3) := by decide +kernel
theorem dX10_readRelativeOf_68 : decode cX10_readRelativeOf 68 = .ok (.iconst 2, 1) := by decide +kernel
theorem dX10_readRelativeOf_69 : decode cX10_readRelativeOf 69 = .ok (.iaload, 1) := by decide +kernel
theorem dX10_readRelativeOf_70 : decode cX10_readRelativeOf 70 = .ok (.invokevirtual 52, 3) := by decide +kernel
theorem dX10_readRelativeOf_73 : decode cX10_readRelativeOf 73 = .ok (.iconst 1, 1) := by decide +kernel
theorem dX10_readRelativeOf_74 : decode cX10_readRelativeOf 74 = .ok (.ireturn, 1) := by decide +kernel
set_option maxRecDepth 20000 in
theorem ggX10_readSayingOf_X10_readNumbers : GoodIn wsX10_readSayingOf wsX10_readNumbers := goodIn_r _ [7, 8, 2, 9, 10, 11, 6, 12, 13, 14, 15, 16, 17, 18, 19, 20, 30, 31, 32, 33, 34, 35, 36, 37, 38, 39, 40, 41, 42, 43, 44, 45, 46, 47, 48, 49, 50, 51, 52, 53, 54] (by decide +kernel) (by decide +kernel)
set_option maxRecDepth 20000 in
theorem gX10_readSayingOf_X10_readNumbers : GoodIn wsX10_readSayingOf (wsV RX10 97 RX10 yX10_readNumbers wsX10_readNumbers) := goodIn_app (goodIn_of _ (by decide +kernel)) ggX10_readSayingOf_X10_readNumbers
set_option maxRecDepth 20000 in
theorem ggX10_readSayingOf_X10_isTold : GoodIn wsX10_readSayingOf wsX10_isTold := goodIn_r _ [24, 2, 18, 19, 6, 20, 30, 31, 32, 33, 34, 35, 36, 37, 38, 39, 40, 41, 42, 43, 44, 45, 46, 47, 48, 49, 50, 51, 52, 53, 54] (by decide +kernel) (by decide +kernel)
set_option maxRecDepth 20000 in
theorem gX10_readSayingOf_X10_isTold : GoodIn wsX10_readSayingOf (wsV RX10 100 RX10 yX10_isTold wsX10_isTold) := goodIn_app (goodIn_of _ (by decide +kernel)) ggX10_readSayingOf_X10_isTold
set_option maxRecDepth 20000 in
theorem ggX10_readSayingOf_X10_tellsSaying : GoodIn wsX10_readSayingOf wsX10_tellsSaying := goodIn_r _ [28, 29, 1, 30, 31, 32, 33, 34, 35, 36, 37, 38, 39, 40, 41, 42, 43, 44, 45, 46, 47, 48, 49, 50, 51, 52, 53, 54] (by decide +kernel) (by decide +kernel)
set_option maxRecDepth 20000 in
theorem gX10_readSayingOf_X10_tellsSaying : GoodIn wsX10_readSayingOf (wsV RX10 56 RX10 yX10_tellsSaying wsX10_tellsSaying) := goodIn_app (goodIn_of _ (by decide +kernel)) ggX10_readSayingOf_X10_tellsSaying
theorem dX10_readSayingOf_0 : decode cX10_readSayingOf 0 = .ok (.aload_n 0, 1) := by decide +kernel
theorem dX10_readSayingOf_1 : decode cX10_readSayingOf 1 = .ok (.getfield 73, 3) := by decide +kernel
theorem dX10_readSayingOf_4 : decode cX10_readSayingOf 4 = .ok (.bipush 8, 2) := by decide +kernel
theorem dX10_readSayingOf_6 : decode cX10_readSayingOf 6 = .ok (.if_icmp .eq 32, 3) := by decide +kernel
theorem dX10_readSayingOf_9 : decode cX10_readSayingOf 9 = .ok (.aload_n 0, 1) := by decide +kernel
theorem dX10_readSayingOf_10 : decode cX10_readSayingOf 10 = .ok (.iconst 2, 1) := by decide +kernel
theorem dX10_readSayingOf_11 : decode cX10_readSayingOf 11 = .ok (.invokevirtual 97, 3) := by decide +kernel
theorem dX10_readSayingOf_14 : decode cX10_readSayingOf 14 = .ok (.ifCond .eq 24, 3) := by decide +kernel
theorem dX10_readSayingOf_17 : decode cX10_readSayingOf 17 = .ok (.aload_n 0, 1) := by decide +kernel
theorem dX10_readSayingOf_18 : decode cX10_readSayingOf 18 = .ok (.iconst 0, 1) := by decide +kernel
theorem dX10_readSayingOf_19 : decode cX10_readSayingOf 19 = .ok (.iconst 0, 1) := by decide +kernel
theorem dX10_readSayingOf_20 : decode cX10_readSayingOf 20 = .ok (.bipush 63, 2) := by decide +kernel
theorem dX10_readSayingOf_22 : decode cX10_readSayingOf 22 = .ok (.invokevirtual 100, 3) := by decide +kernel
theorem dX10_readSayingOf_25 : decode cX10_readSayingOf 25 = .ok (.ifCond .eq 13, 3) := by decide +kernel
theorem dX10_readSayingOf_28 : decode cX10_readSayingOf 28 = .ok (.aload_n 0, 1) := by decide +kernel
theorem dX10_readSayingOf_29 : decode cX10_readSayingOf 29 = .ok (.iconst 1, 1) := by decide +kernel
theorem dX10_readSayingOf_30 : decode cX10_readSayingOf 30 = .ok (.iconst 0, 1) := by decide +kernel
theorem dX10_readSayingOf_31 : decode cX10_readSayingOf 31 = .ok (.iconst 1, 1) := by decide +kernel
theorem dX10_readSayingOf_32 : decode cX10_readSayingOf 32 = .ok (.invokevirtual 100, 3) := by decide +kernel
theorem dX10_readSayingOf_35 : decode cX10_readSayingOf 35 = .ok (.ifCond .ne 5, 3) := by decide +kernel
theorem dX10_readSayingOf_38 : decode cX10_readSayingOf 38 = .ok (.iconst 0, 1) := by decide +kernel
theorem dX10_readSayingOf_39 : decode cX10_readSayingOf 39 = .ok (.ireturn, 1) := by decide +kernel
theorem dX10_readSayingOf_40 : decode cX10_readSayingOf 40 = .ok (.aload_n 0, 1) := by decide +kernel
theorem dX10_readSayingOf_41 : decode cX10_readSayingOf 41 = .ok (.aload_n 0, 1) := by decide +kernel
theorem dX10_readSayingOf_42 : decode cX10_readSayingOf 42 = .ok (.getfield 34, 3) := by decide +kernel
theorem dX10_readSayingOf_45 : decode cX10_readSayingOf 45 = .ok (.iconst 0, 1) := by decide +kernel
theorem dX10_readSayingOf_46 : decode cX10_readSayingOf 46 = .ok (.iaload, 1) := by decide +kernel
theorem dX10_readSayingOf_47 : decode cX10_readSayingOf 47 = .ok (.aload_n 0, 1) := by decide +kernel
theorem dX10_readSayingOf_48 : decode cX10_readSayingOf 48 = .ok (.getfield 34, 3) := by decide +kernel
theorem dX10_readSayingOf_51 : decode cX10_readSayingOf 51 = .ok (.iconst 1, 1) := by decide +kernel
theorem dX10_readSayingOf_52 : decode cX10_readSayingOf 52 = .ok (.iaload, 1) := by decide +kernel
theorem dX10_readSayingOf_53 : decode cX10_readSayingOf 53 = .ok (.invokevirtual 56, 3) := by decide +kernel
theorem dX10_readSayingOf_56 : decode cX10_readSayingOf 56 = .ok (.iconst 1, 1) := by decide +kernel
theorem dX10_readSayingOf_57 : decode cX10_readSayingOf 57 = .ok (.ireturn, 1) := by decide +kernel
set_option maxRecDepth 20000 in
theorem ggX10_readDeedOf_X10_readNumbers : GoodIn wsX10_readDeedOf wsX10_readNumbers := goodIn_r _ [7, 8, 1, 9, 10, 11, 6, 12, 13, 14, 15, 16, 17, 18, 19, 20, 25, 26, 27, 28, 29, 30, 31, 32, 33, 34, 35, 36, 37, 38, 39, 40, 41, 42, 43, 44, 45, 46, 47, 48, 49] (by decide +kernel) (by decide +kernel)
set_option maxRecDepth 20000 in
theorem gX10_readDeedOf_X10_readNumbers : GoodIn wsX10_readDeedOf (wsV RX10 97 RX10 yX10_readNumbers wsX10_readNumbers) := goodIn_app (goodIn_of _ (by decide +kernel)) ggX10_readDeedOf_X10_readNumbers
set_option maxRecDepth 20000 in
theorem ggX10_readDeedOf_X10_isTold : GoodIn wsX10_readDeedOf wsX10_isTold := goodIn_r _ [24, 1, 18, 19, 6, 20, 25, 26, 27, 28, 29, 30, 31, 32, 33, 34, 35, 36, 37, 38, 39, 40, 41, 42, 43, 44, 45, 46, 47, 48, 49] (by decide +kernel) (by decide +kernel)
set_option maxRecDepth 20000 in
theorem gX10_readDeedOf_X10_isTold : GoodIn wsX10_readDeedOf (wsV RX10 100 RX10 yX10_isTold wsX10_isTold) := goodIn_app (goodIn_of _ (by decide +kernel)) ggX10_readDeedOf_X10_isTold
theorem dX10_readDeedOf_0 : decode cX10_readDeedOf 0 = .ok (.aload_n 0, 1) := by decide +kernel
theorem dX10_readDeedOf_1 : decode cX10_readDeedOf 1 = .ok (.iconst 1, 1) := by decide +kernel
theorem dX10_readDeedOf_2 : decode cX10_readDeedOf 2 = .ok (.invokevirtual 97, 3) := by decide +kernel
theorem dX10_readDeedOf_5 : decode cX10_readDeedOf 5 = .ok (.ifCond .eq 18, 3) := by decide +kernel
theorem dX10_readDeedOf_8 : decode cX10_readDeedOf 8 = .ok (.aload_n 0, 1) := by decide +kernel
theorem dX10_readDeedOf_9 : decode cX10_readDeedOf 9 = .ok (.iconst 0, 1) := by decide +kernel
theorem dX10_readDeedOf_10 : decode cX10_readDeedOf 10 = .ok (.iconst 0, 1) := by decide +kernel
theorem dX10_readDeedOf_11 : decode cX10_readDeedOf 11 = .ok (.bipush 63, 2) := by decide +kernel
theorem dX10_readDeedOf_13 : decode cX10_readDeedOf 13 = .ok (.invokevirtual 100, 3) := by decide +kernel
theorem dX10_readDeedOf_16 : decode cX10_readDeedOf 16 = .ok (.ifCond .eq 7, 3) := by decide +kernel
theorem dX10_readDeedOf_19 : decode cX10_readDeedOf 19 = .ok (.iconst 1, 1) := by decide +kernel
theorem dX10_readDeedOf_20 : decode cX10_readDeedOf 20 = .ok (.goto 4, 3) := by decide +kernel
theorem dX10_readDeedOf_23 : decode cX10_readDeedOf 23 = .ok (.iconst 0, 1) := by decide +kernel
theorem dX10_readDeedOf_24 : decode cX10_readDeedOf 24 = .ok (.istore_n 1, 1) := by decide +kernel
theorem dX10_readDeedOf_25 : decode cX10_readDeedOf 25 = .ok (.aload_n 0, 1) := by decide +kernel
theorem dX10_readDeedOf_26 : decode cX10_readDeedOf 26 = .ok (.iload_n 1, 1) := by decide +kernel
theorem dX10_readDeedOf_27 : decode cX10_readDeedOf 27 = .ok (.ifCond .eq 12, 3) := by decide +kernel
theorem dX10_readDeedOf_30 : decode cX10_readDeedOf 30 = .ok (.aload_n 0, 1) := by decide +kernel
theorem dX10_readDeedOf_31 : decode cX10_readDeedOf 31 = .ok (.getfield 34, 3) := by decide +kernel
theorem dX10_readDeedOf_34 : decode cX10_readDeedOf 34 = .ok (.iconst 0, 1) := by decide +kernel
theorem dX10_readDeedOf_35 : decode cX10_readDeedOf 35 = .ok (.iaload, 1) := by decide +kernel
theorem dX10_readDeedOf_36 : decode cX10_readDeedOf 36 = .ok (.goto 7, 3) := by decide +kernel
theorem dX10_readDeedOf_39 : decode cX10_readDeedOf 39 = .ok (.aload_n 0, 1) := by decide +kernel
theorem dX10_readDeedOf_40 : decode cX10_readDeedOf 40 = .ok (.getfield 60, 3) := by decide +kernel
theorem dX10_readDeedOf_43 : decode cX10_readDeedOf 43 = .ok (.putfield 60, 3) := by decide +kernel
theorem dX10_readDeedOf_46 : decode cX10_readDeedOf 46 = .ok (.iload_n 1, 1) := by decide +kernel
theorem dX10_readDeedOf_47 : decode cX10_readDeedOf 47 = .ok (.ireturn, 1) := by decide +kernel
set_option maxRecDepth 20000 in
theorem ggX10_readHintOf_X10_readNumbers : GoodIn wsX10_readHintOf wsX10_readNumbers := goodIn_r _ [7, 8, 1, 9, 10, 11, 6, 12, 13, 14, 15, 16, 17, 18, 19, 20, 25, 26, 27, 28, 29, 30, 31, 32, 33, 34, 35, 36, 37, 38, 39, 40, 41, 42, 43, 44, 45, 46, 47, 48, 49] (by decide +kernel) (by decide +kernel)
set_option maxRecDepth 20000 in
theorem gX10_readHintOf_X10_readNumbers : GoodIn wsX10_readHintOf (wsV RX10 97 RX10 yX10_readNumbers wsX10_readNumbers) := goodIn_app (goodIn_of _ (by decide +kernel)) ggX10_readHintOf_X10_readNumbers
set_option maxRecDepth 20000 in
theorem ggX10_readHintOf_X10_isTold : GoodIn wsX10_readHintOf wsX10_isTold := goodIn_r _ [24, 1, 18, 19, 6, 20, 25, 26, 27, 28, 29, 30, 31, 32, 33, 34, 35, 36, 37, 38, 39, 40, 41, 42, 43, 44, 45, 46, 47, 48, 49] (by decide +kernel) (by decide +kernel)
set_option maxRecDepth 20000 in
theorem gX10_readHintOf_X10_isTold : GoodIn wsX10_readHintOf (wsV RX10 100 RX10 yX10_isTold wsX10_isTold) := goodIn_app (goodIn_of _ (by decide +kernel)) ggX10_readHintOf_X10_isTold
theorem dX10_readHintOf_0 : decode cX10_readHintOf 0 = .ok (.aload_n 0, 1) := by decide +kernel
theorem dX10_readHintOf_1 : decode cX10_readHintOf 1 = .ok (.iconst 1, 1) := by decide +kernel
theorem dX10_readHintOf_2 : decode cX10_readHintOf 2 = .ok (.invokevirtual 97, 3) := by decide +kernel
theorem dX10_readHintOf_5 : decode cX10_readHintOf 5 = .ok (.ifCond .eq 18, 3) := by decide +kernel
theorem dX10_readHintOf_8 : decode cX10_readHintOf 8 = .ok (.aload_n 0, 1) := by decide +kernel
theorem dX10_readHintOf_9 : decode cX10_readHintOf 9 = .ok (.iconst 0, 1) := by decide +kernel
theorem dX10_readHintOf_10 : decode cX10_readHintOf 10 = .ok (.iconst 1, 1) := by decide +kernel
theorem dX10_readHintOf_11 : decode cX10_readHintOf 11 = .ok (.bipush 6, 2) := by decide +kernel
theorem dX10_readHintOf_13 : decode cX10_readHintOf 13 = .ok (.invokevirtual 100, 3) := by decide +kernel
theorem dX10_readHintOf_16 : decode cX10_readHintOf 16 = .ok (.ifCond .eq 7, 3) := by decide +kernel
theorem dX10_readHintOf_19 : decode cX10_readHintOf 19 = .ok (.iconst 1, 1) := by decide +kernel
theorem dX10_readHintOf_20 : decode cX10_readHintOf 20 = .ok (.goto 4, 3) := by decide +kernel
theorem dX10_readHintOf_23 : decode cX10_readHintOf 23 = .ok (.iconst 0, 1) := by decide +kernel
theorem dX10_readHintOf_24 : decode cX10_readHintOf 24 = .ok (.istore_n 1, 1) := by decide +kernel
theorem dX10_readHintOf_25 : decode cX10_readHintOf 25 = .ok (.aload_n 0, 1) := by decide +kernel
theorem dX10_readHintOf_26 : decode cX10_readHintOf 26 = .ok (.iload_n 1, 1) := by decide +kernel
theorem dX10_readHintOf_27 : decode cX10_readHintOf 27 = .ok (.ifCond .eq 12, 3) := by decide +kernel
theorem dX10_readHintOf_30 : decode cX10_readHintOf 30 = .ok (.aload_n 0, 1) := by decide +kernel
theorem dX10_readHintOf_31 : decode cX10_readHintOf 31 = .ok (.getfield 34, 3) := by decide +kernel
theorem dX10_readHintOf_34 : decode cX10_readHintOf 34 = .ok (.iconst 0, 1) := by decide +kernel
theorem dX10_readHintOf_35 : decode cX10_readHintOf 35 = .ok (.iaload, 1) := by decide +kernel
theorem dX10_readHintOf_36 : decode cX10_readHintOf 36 = .ok (.goto 7, 3) := by decide +kernel
theorem dX10_readHintOf_39 : decode cX10_readHintOf 39 = .ok (.aload_n 0, 1) := by decide +kernel
theorem dX10_readHintOf_40 : decode cX10_readHintOf 40 = .ok (.getfield 64, 3) := by decide +kernel
theorem dX10_readHintOf_43 : decode cX10_readHintOf 43 = .ok (.putfield 64, 3) := by decide +kernel
theorem dX10_readHintOf_46 : decode cX10_readHintOf 46 = .ok (.iload_n 1, 1) := by decide +kernel
theorem dX10_readHintOf_47 : decode cX10_readHintOf 47 = .ok (.ireturn, 1) := by decide +kernel
set_option maxRecDepth 20000 in
theorem ggX10_readItem_X10_letterAt : GoodIn wsX10_readItem wsX10_letterAt := goodIn_r _ [6, 7, 8, 54, 55, 56, 57, 58, 59, 60, 61, 62, 63, 64, 65, 66, 67, 68, 69, 70, 71, 72, 73, 74, 75, 76, 77, 78] (by decide +kernel) (by decide +kernel)
set_option maxRecDepth 20000 in
theorem gX10_readItem_X10_letterAt : GoodIn wsX10_readItem (wsV RX10 89 RX10 yX10_letterAt wsX10_letterAt) := goodIn_app (goodIn_of _ (by decide +kernel)) ggX10_readItem_X10_letterAt
set_option maxRecDepth 20000 in
theorem ggX10_readItem_X10_readRelativeOf : GoodIn wsX10_readItem wsX10_readRelativeOf := goodIn_r _ [12, 13, 14, 15, 16, 17, 5, 18, 1, 2, 3, 4, 6, 7, 8, 19, 20, 21, 22, 23, 24, 25, 26, 27, 28, 29, 30, 31, 32, 33, 54, 55, 56, 57, 58, 59, 60, 61, 62, 63, 64, 65, 66, 67, 68, 69, 70, 71, 72, 73, 74, 75, 76, 77, 78] (by decide +kernel) (by decide +kernel)
set_option maxRecDepth 20000 in
theorem gX10_readItem_X10_readRelativeOf : GoodIn wsX10_readItem (wsV RX10 103 RX10 yX10_readRelativeOf wsX10_readRelativeOf) := goodIn_app (goodIn_of _ (by decide +kernel)) ggX10_readItem_X10_readRelativeOf
set_option maxRecDepth 20000 in
theorem ggX10_readItem_X10_readSayingOf : GoodIn wsX10_readItem wsX10_readSayingOf := goodIn_r _ [37, 38, 14, 15, 16, 17, 5, 18, 1, 2, 3, 4, 6, 7, 8, 19, 20, 21, 22, 23, 24, 25, 26, 27, 28, 39, 40, 41, 42, 43, 54, 55, 56, 57, 58, 59, 60, 61, 62, 63, 64, 65, 66, 67, 68, 69, 70, 71, 72, 73, 74, 75, 76, 77, 78] (by decide +kernel) (by decide +kernel)
set_option maxRecDepth 20000 in
theorem gX10_readItem_X10_readSayingOf : GoodIn wsX10_readItem (wsV RX10 107 RX10 yX10_readSayingOf wsX10_readSayingOf) := goodIn_app (goodIn_of _ (by decide +kernel)) ggX10_readItem_X10_readSayingOf
set_option maxRecDepth 20000 in
theorem ggX10_readItem_X10_readDeedOf : GoodIn wsX10_readItem wsX10_readDeedOf := goodIn_r _ [47, 14, 48, 15, 16, 17, 5, 18, 1, 2, 3, 4, 6, 7, 8, 19, 20, 21, 22, 23, 24, 25, 26, 27, 28, 54, 55, 56, 57, 58, 59, 60, 61, 62, 63, 64, 65, 66, 67, 68, 69, 70, 71, 72, 73, 74, 75, 76, 77, 78] (by decide +kernel) (by decide +kernel)
set_option maxRecDepth 20000 in
theorem gX10_readItem_X10_readDeedOf : GoodIn wsX10_readItem (wsV RX10 110 RX10 yX10_readDeedOf wsX10_readDeedOf) := goodIn_app (goodIn_of _ (by decide +kernel)) ggX10_readItem_X10_readDeedOf
set_option maxRecDepth 20000 in
theorem ggX10_readItem_X10_readHintOf : GoodIn wsX10_readItem wsX10_readHintOf := goodIn_r _ [52, 14, 53, 15, 16, 17, 5, 18, 1, 2, 3, 4, 6, 7, 8, 19, 20, 21, 22, 23, 24, 25, 26, 27, 28, 54, 55, 56, 57, 58, 59, 60, 61, 62, 63, 64, 65, 66, 67, 68, 69, 70, 71, 72, 73, 74, 75, 76, 77, 78] (by decide +kernel) (by decide +kernel)
set_option maxRecDepth 20000 in
theorem gX10_readItem_X10_readHintOf : GoodIn wsX10_readItem (wsV RX10 113 RX10 yX10_readHintOf wsX10_readHintOf) := goodIn_app (goodIn_of _ (by decide +kernel)) ggX10_readItem_X10_readHintOf
theorem dX10_readItem_0 : decode cX10_readItem 0 = .ok (.aload_n 0, 1) := by decide +kernel
theorem dX10_readItem_1 : decode cX10_readItem 1 = .ok (.aload_n 0, 1) := by decide +kernel
theorem dX10_readItem_2 : decode cX10_readItem 2 = .ok (.getfield 86, 3) := by decide +kernel
theorem dX10_readItem_5 : decode cX10_readItem 5 = .ok (.invokevirtual 89, 3) := by decide +kernel
theorem dX10_readItem_8 : decode cX10_readItem 8 = .ok (.istore_n 1, 1) := by decide +kernel
theorem dX10_readItem_9 : decode cX10_readItem 9 = .ok (.aload_n 0, 1) := by decide +kernel
theorem dX10_readItem_10 : decode cX10_readItem 10 = .ok (.dup, 1) := by decide +kernel
theorem dX10_readItem_11 : decode cX10_readItem 11 = .ok (.getfield 86, 3) := by decide +kernel
theorem dX10_readItem_14 : decode cX10_readItem 14 = .ok (.iconst 1, 1) := by decide +kernel
theorem dX10_readItem_15 : decode cX10_readItem 15 = .ok (.iadd, 1) := by decide +kernel
theorem dX10_readItem_16 : decode cX10_readItem 16 = .ok (.putfield 86, 3) := by decide +kernel
theorem dX10_readItem_19 : decode cX10_readItem 19 = .ok (.iload_n 1, 1) := by decide +kernel
theorem dX10_readItem_20 : decode cX10_readItem 20 = .ok (.lookupswitch 64 #[(100, 54), (104, 59), (114, 44), (115, 49)], 44) := by decide +kernel
theorem dX10_readItem_64 : decode cX10_readItem 64 = .ok (.aload_n 0, 1) := by decide +kernel
theorem dX10_readItem_65 : decode cX10_readItem 65 = .ok (.invokevirtual 103, 3) := by decide +kernel
theorem dX10_readItem_68 : decode cX10_readItem 68 = .ok (.ireturn, 1) := by decide +kernel
theorem dX10_readItem_69 : decode cX10_readItem 69 = .ok (.aload_n 0, 1) := by decide +kernel
theorem dX10_readItem_70 : decode cX10_readItem 70 = .ok (.invokevirtual 107, 3) := by decide +kernel
theorem dX10_readItem_73 : decode cX10_readItem 73 = .ok (.ireturn, 1) := by decide +kernel
theorem dX10_readItem_74 : decode cX10_readItem 74 = .ok (.aload_n 0, 1) := by decide +kernel
theorem dX10_readItem_75 : decode cX10_readItem 75 = .ok (.invokevirtual 110, 3) := by decide +kernel
theorem dX10_readItem_78 : decode cX10_readItem 78 = .ok (.ireturn, 1) := by decide +kernel
theorem dX10_readItem_79 : decode cX10_readItem 79 = .ok (.aload_n 0, 1) := by decide +kernel
theorem dX10_readItem_80 : decode cX10_readItem 80 = .ok (.invokevirtual 113, 3) := by decide +kernel
theorem dX10_readItem_83 : decode cX10_readItem 83 = .ok (.ireturn, 1) := by decide +kernel
theorem dX10_readItem_84 : decode cX10_readItem 84 = .ok (.iconst 0, 1) := by decide +kernel
theorem dX10_readItem_85 : decode cX10_readItem 85 = .ok (.ireturn, 1) := by decide +kernel
set_option maxRecDepth 20000 in
theorem ggX10_fault_X10_clearTold : GoodIn wsX10_fault wsX10_clearTold := goodIn_r _ [7, 8, 9, 10, 11, 62, 63, 64, 65, 66, 67, 68, 69, 70, 71, 72, 73, 74, 75, 76, 77, 78, 79, 80, 81, 82, 83, 84, 85, 86] (by decide +kernel) (by decide +kernel)
set_option maxRecDepth 20000 in
theorem gX10_fault_X10_clearTold : GoodIn wsX10_fault (wsV RX10 49 RX10 yX10_clearTold wsX10_clearTold) := goodIn_app (goodIn_of _ (by decide +kernel)) ggX10_fault_X10_clearTold
set_option maxRecDepth 20000 in
theorem ggX10_fault_X10_readItem : GoodIn wsX10_fault wsX10_readItem := goodIn_r _ [15, 1, 16, 17, 18, 6, 19, 2, 20, 21, 22, 23, 24, 8, 25, 26, 27, 28, 29, 30, 31, 32, 33, 34, 35, 36, 37, 38, 39, 40, 41, 42, 43, 44, 45, 46, 47, 48, 9, 49, 50, 51, 52, 53, 54, 55, 56, 57, 10, 58, 59, 60, 61, 11, 62, 63, 64, 65, 66, 67, 68, 69, 70, 71, 72, 73, 74, 75, 76, 77, 78, 79, 80, 81, 82, 83, 84, 85, 86] (by decide +kernel) (by decide +kernel)
set_option maxRecDepth 20000 in
theorem gX10_fault_X10_readItem : GoodIn wsX10_fault (wsV RX10 116 RX10 yX10_readItem wsX10_readItem) := goodIn_app (goodIn_of _ (by decide +kernel)) ggX10_fault_X10_readItem
theorem dX10_fault_0 : decode cX10_fault 0 = .ok (.aload_n 0, 1) := by decide +kernel
theorem dX10_fault_1 : decode cX10_fault 1 = .ok (.iconst 0, 1) := by decide +kernel
theorem dX10_fault_2 : decode cX10_fault 2 = .ok (.putfield 86, 3) := by decide +kernel
theorem dX10_fault_5 : decode cX10_fault 5 = .ok (.aload_n 0, 1) := by decide +kernel
theorem dX10_fault_6 : decode cX10_fault 6 = .ok (.invokevirtual 49, 3) := by decide +kernel
theorem dX10_fault_9 : decode cX10_fault 9 = .ok (.aload_n 0, 1) := by decide +kernel
theorem dX10_fault_10 : decode cX10_fault 10 = .ok (.getfield 86, 3) := by decide +kernel
theorem dX10_fault_13 : decode cX10_fault 13 = .ok (.aload_n 0, 1) := by decide +kernel
theorem dX10_fault_14 : decode cX10_fault 14 = .ok (.getfield 83, 3) := by decide +kernel
theorem dX10_fault_17 : decode cX10_fault 17 = .ok (.if_icmp .ge 20, 3) := by decide +kernel
theorem dX10_fault_20 : decode cX10_fault 20 = .ok (.aload_n 0, 1) := by decide +kernel
theorem dX10_fault_21 : decode cX10_fault 21 = .ok (.getfield 86, 3) := by decide +kernel
theorem dX10_fault_24 : decode cX10_fault 24 = .ok (.istore_n 1, 1) := by decide +kernel
theorem dX10_fault_25 : decode cX10_fault 25 = .ok (.aload_n 0, 1) := by decide +kernel
theorem dX10_fault_26 : decode cX10_fault 26 = .ok (.invokevirtual 116, 3) := by decide +kernel
theorem dX10_fault_29 : decode cX10_fault 29 = .ok (.ifCond .ne 5, 3) := by decide +kernel
theorem dX10_fault_32 : decode cX10_fault 32 = .ok (.iload_n 1, 1) := by decide +kernel
theorem dX10_fault_33 : decode cX10_fault 33 = .ok (.ireturn, 1) := by decide +kernel
theorem dX10_fault_34 : decode cX10_fault 34 = .ok (.goto (-25), 3) := by decide +kernel
theorem dX10_fault_37 : decode cX10_fault 37 = .ok (.bipush (-4), 2) := by decide +kernel
theorem dX10_fault_39 : decode cX10_fault 39 = .ok (.ireturn, 1) := by decide +kernel
set_option maxRecDepth 20000 in
theorem ggX10_lay_X10_fault : GoodIn wsX10_lay wsX10_fault := goodIn_r _ [8, 9, 10, 11, 12, 13, 7, 14, 1, 2, 15, 16, 17, 18, 19, 20, 21, 22, 23, 24, 25, 26, 27, 28, 29, 30, 31, 32, 33, 34, 35, 36, 37, 38, 39, 40, 41, 42, 43, 44, 45, 46, 47, 48, 49, 50, 51, 52, 53, 54, 55, 56, 57, 58, 59, 60, 61, 62, 63, 64, 65, 66, 83, 84, 85, 86, 87, 88, 89, 90, 91, 92, 93, 94, 95, 96, 97, 98, 99, 100, 101, 102, 103, 104, 105, 106, 107] (by decide +kernel) (by decide +kernel)
set_option maxRecDepth 20000 in
theorem gX10_lay_X10_fault : GoodIn wsX10_lay (wsV RX10 119 RX10 yX10_fault wsX10_fault) := goodIn_app (goodIn_of _ (by decide +kernel)) ggX10_lay_X10_fault
set_option maxRecDepth 20000 in
theorem ggX10_lay_X10_settles : GoodIn wsX10_lay wsX10_settles := goodIn_r _ [70, 1, 3, 2, 71, 16, 72, 73, 49, 74, 58, 75, 15, 76, 77, 78, 79, 80, 81, 7, 82, 83, 84, 85, 86, 87, 88, 89, 90, 91, 92, 93, 94, 95, 96, 97, 98, 99, 100, 101, 102, 103, 104, 105, 106, 107] (by decide +kernel) (by decide +kernel)
set_option maxRecDepth 20000 in
theorem gX10_lay_X10_settles : GoodIn wsX10_lay (wsV RX10 67 RX10 yX10_settles wsX10_settles) := goodIn_app (goodIn_of _ (by decide +kernel)) ggX10_lay_X10_settles
theorem dX10_lay_0 : decode cX10_lay 0 = .ok (.aload_n 0, 1) := by decide +kernel
theorem dX10_lay_1 : decode cX10_lay 1 = .ok (.invokevirtual 119, 3) := by decide +kernel
theorem dX10_lay_4 : decode cX10_lay 4 = .ok (.bipush (-4), 2) := by decide +kernel
theorem dX10_lay_6 : decode cX10_lay 6 = .ok (.if_icmp .ne 18, 3) := by decide +kernel
theorem dX10_lay_9 : decode cX10_lay 9 = .ok (.aload_n 0, 1) := by decide +kernel
theorem dX10_lay_10 : decode cX10_lay 10 = .ok (.getfield 70, 3) := by decide +kernel
theorem dX10_lay_13 : decode cX10_lay 13 = .ok (.iconst 2, 1) := by decide +kernel
theorem dX10_lay_14 : decode cX10_lay 14 = .ok (.if_icmp .lt 10, 3) := by decide +kernel
theorem dX10_lay_17 : decode cX10_lay 17 = .ok (.aload_n 0, 1) := by decide +kernel
theorem dX10_lay_18 : decode cX10_lay 18 = .ok (.getfield 73, 3) := by decide +kernel
theorem dX10_lay_21 : decode cX10_lay 21 = .ok (.ifCond .ne 6, 3) := by decide +kernel
theorem dX10_lay_24 : decode cX10_lay 24 = .ok (.bipush (-2), 2) := by decide +kernel
theorem dX10_lay_26 : decode cX10_lay 26 = .ok (.ireturn, 1) := by decide +kernel
theorem dX10_lay_27 : decode cX10_lay 27 = .ok (.aload_n 0, 1) := by decide +kernel
theorem dX10_lay_28 : decode cX10_lay 28 = .ok (.invokevirtual 67, 3) := by decide +kernel
theorem dX10_lay_31 : decode cX10_lay 31 = .ok (.aload_n 0, 1) := by decide +kernel
theorem dX10_lay_32 : decode cX10_lay 32 = .ok (.getfield 76, 3) := by decide +kernel
theorem dX10_lay_35 : decode cX10_lay 35 = .ok (.ireturn, 1) := by decide +kernel
set_option maxRecDepth 20000 in
theorem ggX10_settles_X10_put : GoodIn wsX10_settles wsX10_put := goodIn_r _ [20] (by decide +kernel) (by decide +kernel)
set_option maxRecDepth 20000 in
theorem gX10_settles_X10_put : GoodIn wsX10_settles (va_wsS RX10 129 yX10_put wsX10_put) := goodIn_app (goodIn_of _ (by decide +kernel)) ggX10_settles_X10_put
theorem dX10_settles_0 : decode cX10_settles 0 = .ok (.aload_n 0, 1) := by decide +kernel
theorem dX10_settles_1 : decode cX10_settles 1 = .ok (.aload_n 0, 1) := by decide +kernel
theorem dX10_settles_2 : decode cX10_settles 2 = .ok (.getfield 70, 3) := by decide +kernel
theorem dX10_settles_5 : decode cX10_settles 5 = .ok (.putfield 76, 3) := by decide +kernel
theorem dX10_settles_8 : decode cX10_settles 8 = .ok (.aload_n 0, 1) := by decide +kernel
theorem dX10_settles_9 : decode cX10_settles 9 = .ok (.aload_n 0, 1) := by decide +kernel
theorem dX10_settles_10 : decode cX10_settles 10 = .ok (.getfield 73, 3) := by decide +kernel
theorem dX10_settles_13 : decode cX10_settles 13 = .ok (.putfield 123, 3) := by decide +kernel
theorem dX10_settles_16 : decode cX10_settles 16 = .ok (.aload_n 0, 1) := by decide +kernel
theorem dX10_settles_17 : decode cX10_settles 17 = .ok (.aload_n 0, 1) := by decide +kernel
theorem dX10_settles_18 : decode cX10_settles 18 = .ok (.getfield 64, 3) := by decide +kernel
theorem dX10_settles_21 : decode cX10_settles 21 = .ok (.putfield 126, 3) := by decide +kernel
theorem dX10_settles_24 : decode cX10_settles 24 = .ok (.aload_n 0, 1) := by decide +kernel
theorem dX10_settles_25 : decode cX10_settles 25 = .ok (.getfield 7, 3) := by decide +kernel
theorem dX10_settles_28 : decode cX10_settles 28 = .ok (.iconst 0, 1) := by decide +kernel
theorem dX10_settles_29 : decode cX10_settles 29 = .ok (.aload_n 0, 1) := by decide +kernel
theorem dX10_settles_30 : decode cX10_settles 30 = .ok (.getfield 37, 3) := by decide +kernel
theorem dX10_settles_33 : decode cX10_settles 33 = .ok (.bipush 18, 2) := by decide +kernel
theorem dX10_settles_35 : decode cX10_settles 35 = .ok (.invokestatic 129, 3) := by decide +kernel
theorem dX10_settles_38 : decode cX10_settles 38 = .ok (.aload_n 0, 1) := by decide +kernel
theorem dX10_settles_39 : decode cX10_settles 39 = .ok (.getfield 13, 3) := by decide +kernel
theorem dX10_settles_42 : decode cX10_settles 42 = .ok (.iconst 0, 1) := by decide +kernel
theorem dX10_settles_43 : decode cX10_settles 43 = .ok (.aload_n 0, 1) := by decide +kernel
theorem dX10_settles_44 : decode cX10_settles 44 = .ok (.getfield 40, 3) := by decide +kernel
theorem dX10_settles_47 : decode cX10_settles 47 = .ok (.bipush 16, 2) := by decide +kernel
theorem dX10_settles_49 : decode cX10_settles 49 = .ok (.invokestatic 129, 3) := by decide +kernel
theorem dX10_settles_52 : decode cX10_settles 52 = .ok (.iconst 0, 1) := by decide +kernel
theorem dX10_settles_53 : decode cX10_settles 53 = .ok (.istore_n 1, 1) := by decide +kernel
theorem dX10_settles_54 : decode cX10_settles 54 = .ok (.iload_n 1, 1) := by decide +kernel
theorem dX10_settles_55 : decode cX10_settles 55 = .ok (.bipush 72, 2) := by decide +kernel
theorem dX10_settles_57 : decode cX10_settles 57 = .ok (.if_icmp .ge 16, 3) := by decide +kernel
theorem dX10_settles_60 : decode cX10_settles 60 = .ok (.aload_n 0, 1) := by decide +kernel
theorem dX10_settles_61 : decode cX10_settles 61 = .ok (.getfield 16, 3) := by decide +kernel
theorem dX10_settles_64 : decode cX10_settles 64 = .ok (.iload_n 1, 1) := by decide +kernel
theorem dX10_settles_65 : decode cX10_settles 65 = .ok (.iconst 0, 1) := by decide +kernel
theorem dX10_settles_66 : decode cX10_settles 66 = .ok (.iastore, 1) := by decide +kernel
theorem dX10_settles_67 : decode cX10_settles 67 = .ok (.iinc 1 1, 3) := by decide +kernel
theorem dX10_settles_70 : decode cX10_settles 70 = .ok (.goto (-16), 3) := by decide +kernel
theorem dX10_settles_73 : decode cX10_settles 73 = .ok (.aload_n 0, 1) := by decide +kernel
theorem dX10_settles_74 : decode cX10_settles 74 = .ok (.getfield 16, 3) := by decide +kernel
theorem dX10_settles_77 : decode cX10_settles 77 = .ok (.iconst 1, 1) := by decide +kernel
theorem dX10_settles_78 : decode cX10_settles 78 = .ok (.iconst (-1), 1) := by decide +kernel
theorem dX10_settles_79 : decode cX10_settles 79 = .ok (.iastore, 1) := by decide +kernel
theorem dX10_settles_80 : decode cX10_settles 80 = .ok (.aload_n 0, 1) := by decide +kernel
theorem dX10_settles_81 : decode cX10_settles 81 = .ok (.getfield 16, 3) := by decide +kernel
theorem dX10_settles_84 : decode cX10_settles 84 = .ok (.iconst 2, 1) := by decide +kernel
theorem dX10_settles_85 : decode cX10_settles 85 = .ok (.aload_n 0, 1) := by decide +kernel
theorem dX10_settles_86 : decode cX10_settles 86 = .ok (.getfield 60, 3) := by decide +kernel
theorem dX10_settles_89 : decode cX10_settles 89 = .ok (.iastore, 1) := by decide +kernel
theorem dX10_settles_90 : decode cX10_settles 90 = .ok (.iconst 0, 1) := by decide +kernel
theorem dX10_settles_91 : decode cX10_settles 91 = .ok (.istore_n 1, 1) := by decide +kernel
theorem dX10_settles_92 : decode cX10_settles 92 = .ok (.iload_n 1, 1) := by decide +kernel
theorem dX10_settles_93 : decode cX10_settles 93 = .ok (.aload_n 0, 1) := by decide +kernel
theorem dX10_settles_94 : decode cX10_settles 94 = .ok (.getfield 76, 3) := by decide +kernel
theorem dX10_settles_97 : decode cX10_settles 97 = .ok (.if_icmp .ge 29, 3) := by decide +kernel
theorem dX10_settles_100 : decode cX10_settles 100 = .ok (.aload_n 0, 1) := by decide +kernel
theorem dX10_settles_101 : decode cX10_settles 101 = .ok (.getfield 16, 3) := by decide +kernel
theorem dX10_settles_104 : decode cX10_settles 104 = .ok (.bipush 16, 2) := by decide +kernel
theorem dX10_settles_106 : decode cX10_settles 106 = .ok (.iload_n 1, 1) := by decide +kernel
theorem dX10_settles_107 : decode cX10_settles 107 = .ok (.iadd, 1) := by decide +kernel
theorem dX10_settles_108 : decode cX10_settles 108 = .ok (.aload_n 0, 1) := by decide +kernel
theorem dX10_settles_109 : decode cX10_settles 109 = .ok (.getfield 7, 3) := by decide +kernel
theorem dX10_settles_112 : decode cX10_settles 112 = .ok (.iconst 3, 1) := by decide +kernel
theorem dX10_settles_113 : decode cX10_settles 113 = .ok (.iload_n 1, 1) := by decide +kernel
theorem dX10_settles_114 : decode cX10_settles 114 = .ok (.imul, 1) := by decide +kernel
theorem dX10_settles_115 : decode cX10_settles 115 = .ok (.iconst 1, 1) := by decide +kernel
theorem dX10_settles_116 : decode cX10_settles 116 = .ok (.iadd, 1) := by decide +kernel
theorem dX10_settles_117 : decode cX10_settles 117 = .ok (.iaload, 1) := by decide +kernel
theorem dX10_settles_118 : decode cX10_settles 118 = .ok (.ineg, 1) := by decide +kernel
theorem dX10_settles_119 : decode cX10_settles 119 = .ok (.iastore, 1) := by decide +kernel
theorem dX10_settles_120 : decode cX10_settles 120 = .ok (.iinc 1 1, 3) := by decide +kernel
theorem dX10_settles_123 : decode cX10_settles 123 = .ok (.goto (-31), 3) := by decide +kernel
theorem dX10_settles_126 : decode cX10_settles 126 = .ok (.aload_n 0, 1) := by decide +kernel
theorem dX10_settles_127 : decode cX10_settles 127 = .ok (.getfield 19, 3) := by decide +kernel
theorem dX10_settles_130 : decode cX10_settles 130 = .ok (.iconst 0, 1) := by decide +kernel
theorem dX10_settles_131 : decode cX10_settles 131 = .ok (.aload_n 0, 1) := by decide +kernel
theorem dX10_settles_132 : decode cX10_settles 132 = .ok (.getfield 16, 3) := by decide +kernel
theorem dX10_settles_135 : decode cX10_settles 135 = .ok (.bipush 72, 2) := by decide +kernel
theorem dX10_settles_137 : decode cX10_settles 137 = .ok (.invokestatic 129, 3) := by decide +kernel
theorem dX10_settles_140 : decode cX10_settles 140 = .ok (.aload_n 0, 1) := by decide +kernel
theorem dX10_settles_141 : decode cX10_settles 141 = .ok (.iconst 0, 1) := by decide +kernel
theorem dX10_settles_142 : decode cX10_settles 142 = .ok (.putfield 133, 3) := by decide +kernel
theorem dX10_settles_145 : decode cX10_settles 145 = .ok (.aload_n 0, 1) := by decide +kernel
theorem dX10_settles_146 : decode cX10_settles 146 = .ok (.iconst 0, 1) := by decide +kernel
theorem dX10_settles_147 : decode cX10_settles 147 = .ok (.putfield 136, 3) := by decide +kernel
theorem dX10_settles_150 : decode cX10_settles 150 = .ok (.aload_n 0, 1) := by decide +kernel
theorem dX10_settles_151 : decode cX10_settles 151 = .ok (.iconst 0, 1) := by decide +kernel
theorem dX10_settles_152 : decode cX10_settles 152 = .ok (.putfield 139, 3) := by decide +kernel
theorem dX10_settles_155 : decode cX10_settles 155 = .ok (.return_, 1) := by decide +kernel
set_option maxRecDepth 20000 in
theorem ggX10_from_X10_put : GoodIn wsX10_from wsX10_put := goodIn_r _ [5] (by decide +kernel) (by decide +kernel)
set_option maxRecDepth 20000 in
theorem gX10_from_X10_put : GoodIn wsX10_from (va_wsS RX10 129 yX10_put wsX10_put) := goodIn_app (goodIn_of _ (by decide +kernel)) ggX10_from_X10_put
theorem dX10_from_0 : decode cX10_from 0 = .ok (.aload_n 0, 1) := by decide +kernel
theorem dX10_from_1 : decode cX10_from 1 = .ok (.getfield 43, 3) := by decide +kernel
theorem dX10_from_4 : decode cX10_from 4 = .ok (.iconst 0, 1) := by decide +kernel
theorem dX10_from_5 : decode cX10_from 5 = .ok (.aload_n 1, 1) := by decide +kernel
theorem dX10_from_6 : decode cX10_from 6 = .ok (.bipush 72, 2) := by decide +kernel
theorem dX10_from_8 : decode cX10_from 8 = .ok (.invokestatic 129, 3) := by decide +kernel
theorem dX10_from_11 : decode cX10_from 11 = .ok (.return_, 1) := by decide +kernel
set_option maxRecDepth 20000 in
theorem ggX10_isAsking_X10_bits : GoodIn wsX10_isAsking wsX10_bits := goodIn_r _ [8] (by decide +kernel) (by decide +kernel)
set_option maxRecDepth 20000 in
theorem gX10_isAsking_X10_bits : GoodIn wsX10_isAsking (va_wsS RX10 142 yX10_bits wsX10_bits) := goodIn_app (goodIn_of _ (by decide +kernel)) ggX10_isAsking_X10_bits
theorem dX10_isAsking_0 : decode cX10_isAsking 0 = .ok (.aload_n 0, 1) := by decide +kernel
theorem dX10_isAsking_1 : decode cX10_isAsking 1 = .ok (.getfield 13, 3) := by decide +kernel
theorem dX10_isAsking_4 : decode cX10_isAsking 4 = .ok (.iconst 2, 1) := by decide +kernel
theorem dX10_isAsking_5 : decode cX10_isAsking 5 = .ok (.iload_n 1, 1) := by decide +kernel
theorem dX10_isAsking_6 : decode cX10_isAsking 6 = .ok (.imul, 1) := by decide +kernel
theorem dX10_isAsking_7 : decode cX10_isAsking 7 = .ok (.iaload, 1) := by decide +kernel
theorem dX10_isAsking_8 : decode cX10_isAsking 8 = .ok (.istore_n 3, 1) := by decide +kernel
theorem dX10_isAsking_9 : decode cX10_isAsking 9 = .ok (.aload_n 0, 1) := by decide +kernel
theorem dX10_isAsking_10 : decode cX10_isAsking 10 = .ok (.getfield 13, 3) := by decide +kernel
theorem dX10_isAsking_13 : decode cX10_isAsking 13 = .ok (.iconst 2, 1) := by decide +kernel
theorem dX10_isAsking_14 : decode cX10_isAsking 14 = .ok (.iload_n 1, 1) := by decide +kernel
theorem dX10_isAsking_15 : decode cX10_isAsking 15 = .ok (.imul, 1) := by decide +kernel
theorem dX10_isAsking_16 : decode cX10_isAsking 16 = .ok (.iconst 1, 1) := by decide +kernel
theorem dX10_isAsking_17 : decode cX10_isAsking 17 = .ok (.iadd, 1) := by decide +kernel
theorem dX10_isAsking_18 : decode cX10_isAsking 18 = .ok (.iaload, 1) := by decide +kernel
theorem dX10_isAsking_19 : decode cX10_isAsking 19 = .ok (.iconst 1, 1) := by decide +kernel
theorem dX10_isAsking_20 : decode cX10_isAsking 20 = .ok (.if_icmp .ne 7, 3) := by decide +kernel
theorem dX10_isAsking_23 : decode cX10_isAsking 23 = .ok (.iconst 1, 1) := by decide +kernel
theorem dX10_isAsking_24 : decode cX10_isAsking 24 = .ok (.goto 4, 3) := by decide +kernel
theorem dX10_isAsking_27 : decode cX10_isAsking 27 = .ok (.iconst 0, 1) := by decide +kernel
theorem dX10_isAsking_28 : decode cX10_isAsking 28 = .ok (.istore 4, 2) := by decide +kernel
theorem dX10_isAsking_30 : decode cX10_isAsking 30 = .ok (.iload_n 3, 1) := by decide +kernel
theorem dX10_isAsking_31 : decode cX10_isAsking 31 = .ok (.aload_n 0, 1) := by decide +kernel
theorem dX10_isAsking_32 : decode cX10_isAsking 32 = .ok (.getfield 43, 3) := by decide +kernel
theorem dX10_isAsking_35 : decode cX10_isAsking 35 = .ok (.iconst 2, 1) := by decide +kernel
theorem dX10_isAsking_36 : decode cX10_isAsking 36 = .ok (.iaload, 1) := by decide +kernel
theorem dX10_isAsking_37 : decode cX10_isAsking 37 = .ok (.iand, 1) := by decide +kernel
theorem dX10_isAsking_38 : decode cX10_isAsking 38 = .ok (.ifCond .eq 7, 3) := by decide +kernel
theorem dX10_isAsking_41 : decode cX10_isAsking 41 = .ok (.iconst 1, 1) := by decide +kernel
theorem dX10_isAsking_42 : decode cX10_isAsking 42 = .ok (.goto 4, 3) := by decide +kernel
theorem dX10_isAsking_45 : decode cX10_isAsking 45 = .ok (.iconst 0, 1) := by decide +kernel
theorem dX10_isAsking_46 : decode cX10_isAsking 46 = .ok (.istore 5, 2) := by decide +kernel
theorem dX10_isAsking_48 : decode cX10_isAsking 48 = .ok (.aload_n 0, 1) := by decide +kernel
theorem dX10_isAsking_49 : decode cX10_isAsking 49 = .ok (.getfield 7, 3) := by decide +kernel
theorem dX10_isAsking_52 : decode cX10_isAsking 52 = .ok (.iconst 3, 1) := by decide +kernel
theorem dX10_isAsking_53 : decode cX10_isAsking 53 = .ok (.iload_n 2, 1) := by decide +kernel
theorem dX10_isAsking_54 : decode cX10_isAsking 54 = .ok (.imul, 1) := by decide +kernel
theorem dX10_isAsking_55 : decode cX10_isAsking 55 = .ok (.iaload, 1) := by decide +kernel
theorem dX10_isAsking_56 : decode cX10_isAsking 56 = .ok (.tableswitch 81 0 3 #[32, 48, 75, 78], 32) := by decide +kernel
theorem dX10_isAsking_88 : decode cX10_isAsking 88 = .ok (.iload 4, 2) := by decide +kernel
theorem dX10_isAsking_90 : decode cX10_isAsking 90 = .ok (.ifCond .eq 12, 3) := by decide +kernel
theorem dX10_isAsking_93 : decode cX10_isAsking 93 = .ok (.iload 5, 2) := by decide +kernel
theorem dX10_isAsking_95 : decode cX10_isAsking 95 = .ok (.ifCond .eq 7, 3) := by decide +kernel
theorem dX10_isAsking_98 : decode cX10_isAsking 98 = .ok (.iconst 1, 1) := by decide +kernel
theorem dX10_isAsking_99 : decode cX10_isAsking 99 = .ok (.goto 4, 3) := by decide +kernel
theorem dX10_isAsking_102 : decode cX10_isAsking 102 = .ok (.iconst 0, 1) := by decide +kernel
theorem dX10_isAsking_103 : decode cX10_isAsking 103 = .ok (.ireturn, 1) := by decide +kernel
theorem dX10_isAsking_104 : decode cX10_isAsking 104 = .ok (.iload 5, 2) := by decide +kernel
theorem dX10_isAsking_106 : decode cX10_isAsking 106 = .ok (.ifCond .eq 23, 3) := by decide +kernel
theorem dX10_isAsking_109 : decode cX10_isAsking 109 = .ok (.iload 4, 2) := by decide +kernel
theorem dX10_isAsking_111 : decode cX10_isAsking 111 = .ok (.ifCond .ne 14, 3) := by decide +kernel
theorem dX10_isAsking_114 : decode cX10_isAsking 114 = .ok (.iload_n 3, 1) := by decide +kernel
theorem dX10_isAsking_115 : decode cX10_isAsking 115 = .ok (.invokestatic 142, 3) := by decide +kernel
theorem dX10_isAsking_118 : decode cX10_isAsking 118 = .ok (.aload_n 0, 1) := by decide +kernel
theorem dX10_isAsking_119 : decode cX10_isAsking 119 = .ok (.getfield 126, 3) := by decide +kernel
theorem dX10_isAsking_122 : decode cX10_isAsking 122 = .ok (.if_icmp .lt 7, 3) := by decide +kernel
theorem dX10_isAsking_125 : decode cX10_isAsking 125 = .ok (.iconst 1, 1) := by decide +kernel
theorem dX10_isAsking_126 : decode cX10_isAsking 126 = .ok (.goto 4, 3) := by decide +kernel
theorem dX10_isAsking_129 : decode cX10_isAsking 129 = .ok (.iconst 0, 1) := by decide +kernel
theorem dX10_isAsking_130 : decode cX10_isAsking 130 = .ok (.ireturn, 1) := by decide +kernel
theorem dX10_isAsking_131 : decode cX10_isAsking 131 = .ok (.iload 5, 2) := by decide +kernel
theorem dX10_isAsking_133 : decode cX10_isAsking 133 = .ok (.ireturn, 1) := by decide +kernel
theorem dX10_isAsking_134 : decode cX10_isAsking 134 = .ok (.iload 4, 2) := by decide +kernel
theorem dX10_isAsking_136 : decode cX10_isAsking 136 = .ok (.ireturn, 1) := by decide +kernel
theorem dX10_isAsking_137 : decode cX10_isAsking 137 = .ok (.iconst 0, 1) := by decide +kernel
theorem dX10_isAsking_138 : decode cX10_isAsking 138 = .ok (.ireturn, 1) := by decide +kernel
theorem dX10_agoBy_0 : decode cX10_agoBy 0 = .ok (.iload_n 2, 1) := by decide +kernel
theorem dX10_agoBy_1 : decode cX10_agoBy 1 = .ok (.istore_n 3, 1) := by decide +kernel
theorem dX10_agoBy_2 : decode cX10_agoBy 2 = .ok (.iload_n 3, 1) := by decide +kernel
theorem dX10_agoBy_3 : decode cX10_agoBy 3 = .ok (.bipush 10, 2) := by decide +kernel
theorem dX10_agoBy_5 : decode cX10_agoBy 5 = .ok (.if_icmp .ge 28, 3) := by decide +kernel
theorem dX10_agoBy_8 : decode cX10_agoBy 8 = .ok (.aload_n 0, 1) := by decide +kernel
theorem dX10_agoBy_9 : decode cX10_agoBy 9 = .ok (.getfield 43, 3) := by decide +kernel
theorem dX10_agoBy_12 : decode cX10_agoBy 12 = .ok (.bipush 10, 2) := by decide +kernel
theorem dX10_agoBy_14 : decode cX10_agoBy 14 = .ok (.iload_n 1, 1) := by decide +kernel
theorem dX10_agoBy_15 : decode cX10_agoBy 15 = .ok (.iadd, 1) := by decide +kernel
theorem dX10_agoBy_16 : decode cX10_agoBy 16 = .ok (.iaload, 1) := by decide +kernel
theorem dX10_agoBy_17 : decode cX10_agoBy 17 = .ok (.iload_n 3, 1) := by decide +kernel
theorem dX10_agoBy_18 : decode cX10_agoBy 18 = .ok (.ishr, 1) := by decide +kernel
theorem dX10_agoBy_19 : decode cX10_agoBy 19 = .ok (.iconst 1, 1) := by decide +kernel
theorem dX10_agoBy_20 : decode cX10_agoBy 20 = .ok (.iand, 1) := by decide +kernel
theorem dX10_agoBy_21 : decode cX10_agoBy 21 = .ok (.iconst 1, 1) := by decide +kernel
theorem dX10_agoBy_22 : decode cX10_agoBy 22 = .ok (.if_icmp .ne 5, 3) := by decide +kernel
theorem dX10_agoBy_25 : decode cX10_agoBy 25 = .ok (.iload_n 3, 1) := by decide +kernel
theorem dX10_agoBy_26 : decode cX10_agoBy 26 = .ok (.ireturn, 1) := by decide +kernel
theorem dX10_agoBy_27 : decode cX10_agoBy 27 = .ok (.iinc 3 1, 3) := by decide +kernel
theorem dX10_agoBy_30 : decode cX10_agoBy 30 = .ok (.goto (-28), 3) := by decide +kernel
theorem dX10_agoBy_33 : decode cX10_agoBy 33 = .ok (.aload_n 0, 1) := by decide +kernel
theorem dX10_agoBy_34 : decode cX10_agoBy 34 = .ok (.getfield 43, 3) := by decide +kernel
theorem dX10_agoBy_37 : decode cX10_agoBy 37 = .ok (.iconst 0, 1) := by decide +kernel
theorem dX10_agoBy_38 : decode cX10_agoBy 38 = .ok (.iaload, 1) := by decide +kernel
theorem dX10_agoBy_39 : decode cX10_agoBy 39 = .ok (.aload_n 0, 1) := by decide +kernel
theorem dX10_agoBy_40 : decode cX10_agoBy 40 = .ok (.getfield 43, 3) := by decide +kernel
theorem dX10_agoBy_43 : decode cX10_agoBy 43 = .ok (.bipush 16, 2) := by decide +kernel
theorem dX10_agoBy_45 : decode cX10_agoBy 45 = .ok (.iload_n 1, 1) := by decide +kernel
theorem dX10_agoBy_46 : decode cX10_agoBy 46 = .ok (.iadd, 1) := by decide +kernel
theorem dX10_agoBy_47 : decode cX10_agoBy 47 = .ok (.iaload, 1) := by decide +kernel
theorem dX10_agoBy_48 : decode cX10_agoBy 48 = .ok (.isub, 1) := by decide +kernel
theorem dX10_agoBy_49 : decode cX10_agoBy 49 = .ok (.ireturn, 1) := by decide +kernel
set_option maxRecDepth 20000 in
theorem ggX10_heirBy_X10_agoBy : GoodIn wsX10_heirBy wsX10_agoBy := goodIn_r _ [6, 7, 8, 9, 10, 11, 12, 13, 14, 15, 16, 17, 18, 19, 20, 21, 22, 23, 24, 25, 26, 27, 28, 29, 30, 31, 32] (by decide +kernel) (by decide +kernel)
set_option maxRecDepth 20000 in
theorem gX10_heirBy_X10_agoBy : GoodIn wsX10_heirBy (wsV RX10 145 RX10 yX10_agoBy wsX10_agoBy) := goodIn_app (goodIn_of _ (by decide +kernel)) ggX10_heirBy_X10_agoBy
theorem dX10_heirBy_0 : decode cX10_heirBy 0 = .ok (.iconst 0, 1) := by decide +kernel
theorem dX10_heirBy_1 : decode cX10_heirBy 1 = .ok (.istore_n 2, 1) := by decide +kernel
theorem dX10_heirBy_2 : decode cX10_heirBy 2 = .ok (.iconst (-1), 1) := by decide +kernel
theorem dX10_heirBy_3 : decode cX10_heirBy 3 = .ok (.istore_n 3, 1) := by decide +kernel
theorem dX10_heirBy_4 : decode cX10_heirBy 4 = .ok (.iconst 0, 1) := by decide +kernel
theorem dX10_heirBy_5 : decode cX10_heirBy 5 = .ok (.istore 4, 2) := by decide +kernel
theorem dX10_heirBy_7 : decode cX10_heirBy 7 = .ok (.iload 4, 2) := by decide +kernel
theorem dX10_heirBy_9 : decode cX10_heirBy 9 = .ok (.aload_n 0, 1) := by decide +kernel
theorem dX10_heirBy_10 : decode cX10_heirBy 10 = .ok (.getfield 76, 3) := by decide +kernel
theorem dX10_heirBy_13 : decode cX10_heirBy 13 = .ok (.if_icmp .ge 58, 3) := by decide +kernel
theorem dX10_heirBy_16 : decode cX10_heirBy 16 = .ok (.iload_n 1, 1) := by decide +kernel
theorem dX10_heirBy_17 : decode cX10_heirBy 17 = .ok (.iload 4, 2) := by decide +kernel
theorem dX10_heirBy_19 : decode cX10_heirBy 19 = .ok (.ishr, 1) := by decide +kernel
theorem dX10_heirBy_20 : decode cX10_heirBy 20 = .ok (.iconst 1, 1) := by decide +kernel
theorem dX10_heirBy_21 : decode cX10_heirBy 21 = .ok (.iand, 1) := by decide +kernel
theorem dX10_heirBy_22 : decode cX10_heirBy 22 = .ok (.iconst 1, 1) := by decide +kernel
theorem dX10_heirBy_23 : decode cX10_heirBy 23 = .ok (.if_icmp .ne 7, 3) := by decide +kernel
theorem dX10_heirBy_26 : decode cX10_heirBy 26 = .ok (.iconst 0, 1) := by decide +kernel
theorem dX10_heirBy_27 : decode cX10_heirBy 27 = .ok (.goto 10, 3) := by decide +kernel
theorem dX10_heirBy_30 : decode cX10_heirBy 30 = .ok (.aload_n 0, 1) := by decide +kernel
theorem dX10_heirBy_31 : decode cX10_heirBy 31 = .ok (.iload 4, 2) := by decide +kernel
theorem dX10_heirBy_33 : decode cX10_heirBy 33 = .ok (.iconst 0, 1) := by decide +kernel
theorem dX10_heirBy_34 : decode cX10_heirBy 34 = .ok (.invokevirtual 145, 3) := by decide +kernel
theorem dX10_heirBy_37 : decode cX10_heirBy 37 = .ok (.istore 5, 2) := by decide +kernel
theorem dX10_heirBy_39 : decode cX10_heirBy 39 = .ok (.iload 5, 2) := by decide +kernel
theorem dX10_heirBy_41 : decode cX10_heirBy 41 = .ok (.iload_n 3, 1) := by decide +kernel
theorem dX10_heirBy_42 : decode cX10_heirBy 42 = .ok (.if_icmp .le 8, 3) := by decide +kernel
theorem dX10_heirBy_45 : decode cX10_heirBy 45 = .ok (.iload 4, 2) := by decide +kernel
theorem dX10_heirBy_47 : decode cX10_heirBy 47 = .ok (.goto 4, 3) := by decide +kernel
theorem dX10_heirBy_50 : decode cX10_heirBy 50 = .ok (.iload_n 2, 1) := by decide +kernel
theorem dX10_heirBy_51 : decode cX10_heirBy 51 = .ok (.istore_n 2, 1) := by decide +kernel
theorem dX10_heirBy_52 : decode cX10_heirBy 52 = .ok (.iload 5, 2) := by decide +kernel
theorem dX10_heirBy_54 : decode cX10_heirBy 54 = .ok (.iload_n 3, 1) := by decide +kernel
theorem dX10_heirBy_55 : decode cX10_heirBy 55 = .ok (.if_icmp .le 8, 3) := by decide +kernel
theorem dX10_heirBy_58 : decode cX10_heirBy 58 = .ok (.iload 5, 2) := by decide +kernel
theorem dX10_heirBy_60 : decode cX10_heirBy 60 = .ok (.goto 4, 3) := by decide +kernel
theorem dX10_heirBy_63 : decode cX10_heirBy 63 = .ok (.iload_n 3, 1) := by decide +kernel
theorem dX10_heirBy_64 : decode cX10_heirBy 64 = .ok (.istore_n 3, 1) := by decide +kernel
theorem dX10_heirBy_65 : decode cX10_heirBy 65 = .ok (.iinc 4 1, 3) := by decide +kernel
theorem dX10_heirBy_68 : decode cX10_heirBy 68 = .ok (.goto (-61), 3) := by decide +kernel
theorem dX10_heirBy_71 : decode cX10_heirBy 71 = .ok (.iload_n 2, 1) := by decide +kernel
theorem dX10_heirBy_72 : decode cX10_heirBy 72 = .ok (.ireturn, 1) := by decide +kernel
theorem dX10_askedToday_0 : decode cX10_askedToday 0 = .ok (.iconst 0, 1) := by decide +kernel
theorem dX10_askedToday_1 : decode cX10_askedToday 1 = .ok (.istore_n 1, 1) := by decide +kernel
theorem dX10_askedToday_2 : decode cX10_askedToday 2 = .ok (.iconst 0, 1) := by decide +kernel
theorem dX10_askedToday_3 : decode cX10_askedToday 3 = .ok (.istore_n 2, 1) := by decide +kernel
theorem dX10_askedToday_4 : decode cX10_askedToday 4 = .ok (.iload_n 2, 1) := by decide +kernel
theorem dX10_askedToday_5 : decode cX10_askedToday 5 = .ok (.aload_n 0, 1) := by decide +kernel
theorem dX10_askedToday_6 : decode cX10_askedToday 6 = .ok (.getfield 76, 3) := by decide +kernel
theorem dX10_askedToday_9 : decode cX10_askedToday 9 = .ok (.if_icmp .ge 25, 3) := by decide +kernel
theorem dX10_askedToday_12 : decode cX10_askedToday 12 = .ok (.iload_n 1, 1) := by decide +kernel
theorem dX10_askedToday_13 : decode cX10_askedToday 13 = .ok (.aload_n 0, 1) := by decide +kernel
theorem dX10_askedToday_14 : decode cX10_askedToday 14 = .ok (.getfield 43, 3) := by decide +kernel
theorem dX10_askedToday_17 : decode cX10_askedToday 17 = .ok (.bipush 10, 2) := by decide +kernel
theorem dX10_askedToday_19 : decode cX10_askedToday 19 = .ok (.iload_n 2, 1) := by decide +kernel
theorem dX10_askedToday_20 : decode cX10_askedToday 20 = .ok (.iadd, 1) := by decide +kernel
theorem dX10_askedToday_21 : decode cX10_askedToday 21 = .ok (.iaload, 1) := by decide +kernel
theorem dX10_askedToday_22 : decode cX10_askedToday 22 = .ok (.iconst 1, 1) := by decide +kernel
theorem dX10_askedToday_23 : decode cX10_askedToday 23 = .ok (.iand, 1) := by decide +kernel
theorem dX10_askedToday_24 : decode cX10_askedToday 24 = .ok (.iload_n 2, 1) := by decide +kernel
theorem dX10_askedToday_25 : decode cX10_askedToday 25 = .ok (.ishl, 1) := by decide +kernel
theorem dX10_askedToday_26 : decode cX10_askedToday 26 = .ok (.ior, 1) := by decide +kernel
theorem dX10_askedToday_27 : decode cX10_askedToday 27 = .ok (.istore_n 1, 1) := by decide +kernel
theorem dX10_askedToday_28 : decode cX10_askedToday 28 = .ok (.iinc 2 1, 3) := by decide +kernel
theorem dX10_askedToday_31 : decode cX10_askedToday 31 = .ok (.goto (-27), 3) := by decide +kernel
theorem dX10_askedToday_34 : decode cX10_askedToday 34 = .ok (.iload_n 1, 1) := by decide +kernel
theorem dX10_askedToday_35 : decode cX10_askedToday 35 = .ok (.ireturn, 1) := by decide +kernel
theorem dX10_asks_0 : decode cX10_asks 0 = .ok (.aload_n 0, 1) := by decide +kernel
theorem dX10_asks_1 : decode cX10_asks 1 = .ok (.getfield 43, 3) := by decide +kernel
theorem dX10_asks_4 : decode cX10_asks 4 = .ok (.bipush 10, 2) := by decide +kernel
theorem dX10_asks_6 : decode cX10_asks 6 = .ok (.iload_n 1, 1) := by decide +kernel
theorem dX10_asks_7 : decode cX10_asks 7 = .ok (.iadd, 1) := by decide +kernel
theorem dX10_asks_8 : decode cX10_asks 8 = .ok (.dup2, 1) := by decide +kernel
theorem dX10_asks_9 : decode cX10_asks 9 = .ok (.iaload, 1) := by decide +kernel
theorem dX10_asks_10 : decode cX10_asks 10 = .ok (.iconst 1, 1) := by decide +kernel
theorem dX10_asks_11 : decode cX10_asks 11 = .ok (.ior, 1) := by decide +kernel
theorem dX10_asks_12 : decode cX10_asks 12 = .ok (.iastore, 1) := by decide +kernel
theorem dX10_asks_13 : decode cX10_asks 13 = .ok (.return_, 1) := by decide +kernel
set_option maxRecDepth 20000 in
theorem ggX10_goesToNoon_X10_askedToday : GoodIn wsX10_goesToNoon wsX10_askedToday := goodIn_r _ [7, 2, 1, 16, 17, 18, 19, 20, 21, 22, 23, 24, 25, 26, 27, 28, 29, 30, 31, 32, 33, 34, 35, 36, 37, 38, 39, 40] (by decide +kernel) (by decide +kernel)
set_option maxRecDepth 20000 in
theorem gX10_goesToNoon_X10_askedToday : GoodIn wsX10_goesToNoon (wsV RX10 149 RX10 yX10_askedToday wsX10_askedToday) := goodIn_app (goodIn_of _ (by decide +kernel)) ggX10_goesToNoon_X10_askedToday
set_option maxRecDepth 20000 in
theorem ggX10_goesToNoon_X10_heirBy : GoodIn wsX10_goesToNoon wsX10_heirBy := goodIn_r _ [11, 2, 12, 13, 14, 6, 15, 1, 16, 17, 18, 19, 20, 21, 22, 23, 24, 25, 26, 27, 28, 29, 30, 31, 32, 33, 34, 35, 36, 37, 38, 39, 40] (by decide +kernel) (by decide +kernel)
set_option maxRecDepth 20000 in
theorem gX10_goesToNoon_X10_heirBy : GoodIn wsX10_goesToNoon (wsV RX10 152 RX10 yX10_heirBy wsX10_heirBy) := goodIn_app (goodIn_of _ (by decide +kernel)) ggX10_goesToNoon_X10_heirBy
theorem dX10_goesToNoon_0 : decode cX10_goesToNoon 0 = .ok (.aload_n 0, 1) := by decide +kernel
theorem dX10_goesToNoon_1 : decode cX10_goesToNoon 1 = .ok (.invokevirtual 149, 3) := by decide +kernel
theorem dX10_goesToNoon_4 : decode cX10_goesToNoon 4 = .ok (.ifCond .eq 14, 3) := by decide +kernel
theorem dX10_goesToNoon_7 : decode cX10_goesToNoon 7 = .ok (.aload_n 0, 1) := by decide +kernel
theorem dX10_goesToNoon_8 : decode cX10_goesToNoon 8 = .ok (.getfield 43, 3) := by decide +kernel
theorem dX10_goesToNoon_11 : decode cX10_goesToNoon 11 = .ok (.iconst 1, 1) := by decide +kernel
theorem dX10_goesToNoon_12 : decode cX10_goesToNoon 12 = .ok (.aload_n 0, 1) := by decide +kernel
theorem dX10_goesToNoon_13 : decode cX10_goesToNoon 13 = .ok (.iconst 0, 1) := by decide +kernel
theorem dX10_goesToNoon_14 : decode cX10_goesToNoon 14 = .ok (.invokevirtual 152, 3) := by decide +kernel
theorem dX10_goesToNoon_17 : decode cX10_goesToNoon 17 = .ok (.iastore, 1) := by decide +kernel
theorem dX10_goesToNoon_18 : decode cX10_goesToNoon 18 = .ok (.aload_n 0, 1) := by decide +kernel
theorem dX10_goesToNoon_19 : decode cX10_goesToNoon 19 = .ok (.getfield 43, 3) := by decide +kernel
theorem dX10_goesToNoon_22 : decode cX10_goesToNoon 22 = .ok (.iconst 0, 1) := by decide +kernel
theorem dX10_goesToNoon_23 : decode cX10_goesToNoon 23 = .ok (.dup2, 1) := by decide +kernel
theorem dX10_goesToNoon_24 : decode cX10_goesToNoon 24 = .ok (.iaload, 1) := by decide +kernel
theorem dX10_goesToNoon_25 : decode cX10_goesToNoon 25 = .ok (.iconst 1, 1) := by decide +kernel
theorem dX10_goesToNoon_26 : decode cX10_goesToNoon 26 = .ok (.iadd, 1) := by decide +kernel
theorem dX10_goesToNoon_27 : decode cX10_goesToNoon 27 = .ok (.iastore, 1) := by decide +kernel
theorem dX10_goesToNoon_28 : decode cX10_goesToNoon 28 = .ok (.aload_n 0, 1) := by decide +kernel
theorem dX10_goesToNoon_29 : decode cX10_goesToNoon 29 = .ok (.getfield 43, 3) := by decide +kernel
theorem dX10_goesToNoon_32 : decode cX10_goesToNoon 32 = .ok (.iconst 3, 1) := by decide +kernel
theorem dX10_goesToNoon_33 : decode cX10_goesToNoon 33 = .ok (.iconst 0, 1) := by decide +kernel
theorem dX10_goesToNoon_34 : decode cX10_goesToNoon 34 = .ok (.iastore, 1) := by decide +kernel
theorem dX10_goesToNoon_35 : decode cX10_goesToNoon 35 = .ok (.iconst 0, 1) := by decide +kernel
theorem dX10_goesToNoon_36 : decode cX10_goesToNoon 36 = .ok (.istore_n 1, 1) := by decide +kernel
theorem dX10_goesToNoon_37 : decode cX10_goesToNoon 37 = .ok (.iload_n 1, 1) := by decide +kernel
theorem dX10_goesToNoon_38 : decode cX10_goesToNoon 38 = .ok (.aload_n 0, 1) := by decide +kernel
theorem dX10_goesToNoon_39 : decode cX10_goesToNoon 39 = .ok (.getfield 76, 3) := by decide +kernel
theorem dX10_goesToNoon_42 : decode cX10_goesToNoon 42 = .ok (.if_icmp .ge 63, 3) := by decide +kernel
theorem dX10_goesToNoon_45 : decode cX10_goesToNoon 45 = .ok (.aload_n 0, 1) := by decide +kernel
theorem dX10_goesToNoon_46 : decode cX10_goesToNoon 46 = .ok (.getfield 43, 3) := by decide +kernel
theorem dX10_goesToNoon_49 : decode cX10_goesToNoon 49 = .ok (.bipush 10, 2) := by decide +kernel
theorem dX10_goesToNoon_51 : decode cX10_goesToNoon 51 = .ok (.iload_n 1, 1) := by decide +kernel
theorem dX10_goesToNoon_52 : decode cX10_goesToNoon 52 = .ok (.iadd, 1) := by decide +kernel
theorem dX10_goesToNoon_53 : decode cX10_goesToNoon 53 = .ok (.iaload, 1) := by decide +kernel
theorem dX10_goesToNoon_54 : decode cX10_goesToNoon 54 = .ok (.iconst 1, 1) := by decide +kernel
theorem dX10_goesToNoon_55 : decode cX10_goesToNoon 55 = .ok (.ishl, 1) := by decide +kernel
theorem dX10_goesToNoon_56 : decode cX10_goesToNoon 56 = .ok (.istore_n 2, 1) := by decide +kernel
theorem dX10_goesToNoon_57 : decode cX10_goesToNoon 57 = .ok (.iload_n 2, 1) := by decide +kernel
theorem dX10_goesToNoon_58 : decode cX10_goesToNoon 58 = .ok (.bipush 10, 2) := by decide +kernel
theorem dX10_goesToNoon_60 : decode cX10_goesToNoon 60 = .ok (.ishr, 1) := by decide +kernel
theorem dX10_goesToNoon_61 : decode cX10_goesToNoon 61 = .ok (.iconst 1, 1) := by decide +kernel
theorem dX10_goesToNoon_62 : decode cX10_goesToNoon 62 = .ok (.iand, 1) := by decide +kernel
theorem dX10_goesToNoon_63 : decode cX10_goesToNoon 63 = .ok (.iconst 1, 1) := by decide +kernel
theorem dX10_goesToNoon_64 : decode cX10_goesToNoon 64 = .ok (.if_icmp .ne 21, 3) := by decide +kernel
theorem dX10_goesToNoon_67 : decode cX10_goesToNoon 67 = .ok (.aload_n 0, 1) := by decide +kernel
theorem dX10_goesToNoon_68 : decode cX10_goesToNoon 68 = .ok (.getfield 43, 3) := by decide +kernel
theorem dX10_goesToNoon_71 : decode cX10_goesToNoon 71 = .ok (.bipush 16, 2) := by decide +kernel
theorem dX10_goesToNoon_73 : decode cX10_goesToNoon 73 = .ok (.iload_n 1, 1) := by decide +kernel
theorem dX10_goesToNoon_74 : decode cX10_goesToNoon 74 = .ok (.iadd, 1) := by decide +kernel
theorem dX10_goesToNoon_75 : decode cX10_goesToNoon 75 = .ok (.aload_n 0, 1) := by decide +kernel
theorem dX10_goesToNoon_76 : decode cX10_goesToNoon 76 = .ok (.getfield 43, 3) := by decide +kernel
theorem dX10_goesToNoon_79 : decode cX10_goesToNoon 79 = .ok (.iconst 0, 1) := by decide +kernel
theorem dX10_goesToNoon_80 : decode cX10_goesToNoon 80 = .ok (.iaload, 1) := by decide +kernel
theorem dX10_goesToNoon_81 : decode cX10_goesToNoon 81 = .ok (.bipush 10, 2) := by decide +kernel
theorem dX10_goesToNoon_83 : decode cX10_goesToNoon 83 = .ok (.isub, 1) := by decide +kernel
theorem dX10_goesToNoon_84 : decode cX10_goesToNoon 84 = .ok (.iastore, 1) := by decide +kernel
theorem dX10_goesToNoon_85 : decode cX10_goesToNoon 85 = .ok (.aload_n 0, 1) := by decide +kernel
theorem dX10_goesToNoon_86 : decode cX10_goesToNoon 86 = .ok (.getfield 43, 3) := by decide +kernel
theorem dX10_goesToNoon_89 : decode cX10_goesToNoon 89 = .ok (.bipush 10, 2) := by decide +kernel
theorem dX10_goesToNoon_91 : decode cX10_goesToNoon 91 = .ok (.iload_n 1, 1) := by decide +kernel
theorem dX10_goesToNoon_92 : decode cX10_goesToNoon 92 = .ok (.iadd, 1) := by decide +kernel
theorem dX10_goesToNoon_93 : decode cX10_goesToNoon 93 = .ok (.iload_n 2, 1) := by decide +kernel
theorem dX10_goesToNoon_94 : decode cX10_goesToNoon 94 = .ok (.sipush 1023, 3) := by decide +kernel
theorem dX10_goesToNoon_97 : decode cX10_goesToNoon 97 = .ok (.iand, 1) := by decide +kernel
theorem dX10_goesToNoon_98 : decode cX10_goesToNoon 98 = .ok (.iastore, 1) := by decide +kernel
theorem dX10_goesToNoon_99 : decode cX10_goesToNoon 99 = .ok (.iinc 1 1, 3) := by decide +kernel
theorem dX10_goesToNoon_102 : decode cX10_goesToNoon 102 = .ok (.goto (-65), 3) := by decide +kernel
theorem dX10_goesToNoon_105 : decode cX10_goesToNoon 105 = .ok (.return_, 1) := by decide +kernel
set_option maxRecDepth 20000 in
theorem ggX10_saysIt_X10_isAsking : GoodIn wsX10_saysIt wsX10_isAsking := goodIn_r _ [6, 7, 1, 8, 9, 10, 11, 5, 12, 17, 18, 19, 20, 21, 22, 23, 24, 25, 26, 27, 28, 29, 30, 31, 32, 33, 34, 35, 36, 37, 38, 39, 40, 41] (by decide +kernel) (by decide +kernel)
set_option maxRecDepth 20000 in
theorem gX10_saysIt_X10_isAsking : GoodIn wsX10_saysIt (wsV RX10 155 RX10 yX10_isAsking wsX10_isAsking) := goodIn_app (goodIn_of _ (by decide +kernel)) ggX10_saysIt_X10_isAsking
set_option maxRecDepth 20000 in
theorem ggX10_saysIt_X10_asks : GoodIn wsX10_saysIt wsX10_asks := goodIn_r _ [16, 1, 17, 18, 19, 20, 21, 22, 23, 24, 25, 26, 27, 28, 29, 30, 31, 32, 33, 34, 35, 36, 37, 38, 39, 40, 41] (by decide +kernel) (by decide +kernel)
set_option maxRecDepth 20000 in
theorem gX10_saysIt_X10_asks : GoodIn wsX10_saysIt (wsV RX10 159 RX10 yX10_asks wsX10_asks) := goodIn_app (goodIn_of _ (by decide +kernel)) ggX10_saysIt_X10_asks
theorem dX10_saysIt_0 : decode cX10_saysIt 0 = .ok (.aload_n 0, 1) := by decide +kernel
theorem dX10_saysIt_1 : decode cX10_saysIt 1 = .ok (.iload_n 2, 1) := by decide +kernel
theorem dX10_saysIt_2 : decode cX10_saysIt 2 = .ok (.iload_n 1, 1) := by decide +kernel
theorem dX10_saysIt_3 : decode cX10_saysIt 3 = .ok (.invokevirtual 155, 3) := by decide +kernel
theorem dX10_saysIt_6 : decode cX10_saysIt 6 = .ok (.istore_n 3, 1) := by decide +kernel
theorem dX10_saysIt_7 : decode cX10_saysIt 7 = .ok (.iload_n 3, 1) := by decide +kernel
theorem dX10_saysIt_8 : decode cX10_saysIt 8 = .ok (.ifCond .eq 20, 3) := by decide +kernel
theorem dX10_saysIt_11 : decode cX10_saysIt 11 = .ok (.aload_n 0, 1) := by decide +kernel
theorem dX10_saysIt_12 : decode cX10_saysIt 12 = .ok (.iload_n 1, 1) := by decide +kernel
theorem dX10_saysIt_13 : decode cX10_saysIt 13 = .ok (.invokevirtual 159, 3) := by decide +kernel
theorem dX10_saysIt_16 : decode cX10_saysIt 16 = .ok (.aload_n 0, 1) := by decide +kernel
theorem dX10_saysIt_17 : decode cX10_saysIt 17 = .ok (.getfield 43, 3) := by decide +kernel
theorem dX10_saysIt_20 : decode cX10_saysIt 20 = .ok (.iconst 4, 1) := by decide +kernel
theorem dX10_saysIt_21 : decode cX10_saysIt 21 = .ok (.iload_n 1, 1) := by decide +kernel
theorem dX10_saysIt_22 : decode cX10_saysIt 22 = .ok (.iadd, 1) := by decide +kernel
theorem dX10_saysIt_23 : decode cX10_saysIt 23 = .ok (.dup2, 1) := by decide +kernel
theorem dX10_saysIt_24 : decode cX10_saysIt 24 = .ok (.iaload, 1) := by decide +kernel
theorem dX10_saysIt_25 : decode cX10_saysIt 25 = .ok (.iconst 1, 1) := by decide +kernel
theorem dX10_saysIt_26 : decode cX10_saysIt 26 = .ok (.iadd, 1) := by decide +kernel
theorem dX10_saysIt_27 : decode cX10_saysIt 27 = .ok (.iastore, 1) := by decide +kernel
theorem dX10_saysIt_28 : decode cX10_saysIt 28 = .ok (.iload_n 3, 1) := by decide +kernel
theorem dX10_saysIt_29 : decode cX10_saysIt 29 = .ok (.ireturn, 1) := by decide +kernel
set_option maxRecDepth 20000 in
theorem ggX10_relative_X10_isRelative : GoodIn wsX10_relative wsX10_isRelative := goodIn_r _ [7, 8, 9, 10, 6, 11, 24, 25, 26, 27, 28, 29, 30, 31, 32, 33, 34, 35, 36, 37, 38, 39, 40, 41, 42, 43, 44, 45, 46, 47, 48] (by decide +kernel) (by decide +kernel)
set_option maxRecDepth 20000 in
theorem gX10_relative_X10_isRelative : GoodIn wsX10_relative (wsV RX10 163 RX10 yX10_isRelative wsX10_isRelative) := goodIn_app (goodIn_of _ (by decide +kernel)) ggX10_relative_X10_isRelative
set_option maxRecDepth 20000 in
theorem ggX10_relative_X10_in : GoodIn wsX10_relative wsX10_in := goodIn_r _ [11] (by decide +kernel) (by decide +kernel)
set_option maxRecDepth 20000 in
theorem gX10_relative_X10_in : GoodIn wsX10_relative (va_wsS RX10 79 yX10_in wsX10_in) := goodIn_app (goodIn_of _ (by decide +kernel)) ggX10_relative_X10_in
set_option maxRecDepth 20000 in
theorem ggX10_relative_X10_from : GoodIn wsX10_relative wsX10_from := goodIn_r _ [15, 16, 17, 18, 6, 19, 24, 25, 26, 27, 28, 29, 30, 31, 32, 33, 34, 35, 36, 37, 38, 39, 40, 41, 42, 43, 44, 45, 46, 47, 48] (by decide +kernel) (by decide +kernel)
set_option maxRecDepth 20000 in
theorem gX10_relative_X10_from : GoodIn wsX10_relative (wsV RX10 166 RX10 yX10_from wsX10_from) := goodIn_app (goodIn_of _ (by decide +kernel)) ggX10_relative_X10_from
set_option maxRecDepth 20000 in
theorem ggX10_relative_X10_agoBy : GoodIn wsX10_relative wsX10_agoBy := goodIn_r _ [23, 16, 24, 25, 26, 27, 28, 29, 30, 31, 32, 33, 34, 35, 36, 37, 38, 39, 40, 41, 42, 43, 44, 45, 46, 47, 48] (by decide +kernel) (by decide +kernel)
set_option maxRecDepth 20000 in
theorem gX10_relative_X10_agoBy : GoodIn wsX10_relative (wsV RX10 145 RX10 yX10_agoBy wsX10_agoBy) := goodIn_app (goodIn_of _ (by decide +kernel)) ggX10_relative_X10_agoBy
theorem dX10_relative_0 : decode cX10_relative 0 = .ok (.aload_n 0, 1) := by decide +kernel
theorem dX10_relative_1 : decode cX10_relative 1 = .ok (.iload_n 1, 1) := by decide +kernel
theorem dX10_relative_2 : decode cX10_relative 2 = .ok (.invokevirtual 163, 3) := by decide +kernel
theorem dX10_relative_5 : decode cX10_relative 5 = .ok (.ifCond .eq 12, 3) := by decide +kernel
theorem dX10_relative_8 : decode cX10_relative 8 = .ok (.iload_n 2, 1) := by decide +kernel
theorem dX10_relative_9 : decode cX10_relative 9 = .ok (.iconst 0, 1) := by decide +kernel
theorem dX10_relative_10 : decode cX10_relative 10 = .ok (.iconst 4, 1) := by decide +kernel
theorem dX10_relative_11 : decode cX10_relative 11 = .ok (.invokestatic 79, 3) := by decide +kernel
theorem dX10_relative_14 : decode cX10_relative 14 = .ok (.ifCond .ne 5, 3) := by decide +kernel
theorem dX10_relative_17 : decode cX10_relative 17 = .ok (.iconst (-1), 1) := by decide +kernel
theorem dX10_relative_18 : decode cX10_relative 18 = .ok (.ireturn, 1) := by decide +kernel
theorem dX10_relative_19 : decode cX10_relative 19 = .ok (.aload_n 0, 1) := by decide +kernel
theorem dX10_relative_20 : decode cX10_relative 20 = .ok (.aload_n 0, 1) := by decide +kernel
theorem dX10_relative_21 : decode cX10_relative 21 = .ok (.getfield 16, 3) := by decide +kernel
theorem dX10_relative_24 : decode cX10_relative 24 = .ok (.invokevirtual 166, 3) := by decide +kernel
theorem dX10_relative_27 : decode cX10_relative 27 = .ok (.iload_n 2, 1) := by decide +kernel
theorem dX10_relative_28 : decode cX10_relative 28 = .ok (.tableswitch 64 1 4 #[32, 64, 39, 55], 32) := by decide +kernel
theorem dX10_relative_60 : decode cX10_relative 60 = .ok (.aload_n 0, 1) := by decide +kernel
theorem dX10_relative_61 : decode cX10_relative 61 = .ok (.iload_n 1, 1) := by decide +kernel
theorem dX10_relative_62 : decode cX10_relative 62 = .ok (.iconst 0, 1) := by decide +kernel
theorem dX10_relative_63 : decode cX10_relative 63 = .ok (.invokevirtual 145, 3) := by decide +kernel
theorem dX10_relative_66 : decode cX10_relative 66 = .ok (.ireturn, 1) := by decide +kernel
theorem dX10_relative_67 : decode cX10_relative 67 = .ok (.aload_n 0, 1) := by decide +kernel
theorem dX10_relative_68 : decode cX10_relative 68 = .ok (.getfield 16, 3) := by decide +kernel
theorem dX10_relative_71 : decode cX10_relative 71 = .ok (.iconst 1, 1) := by decide +kernel
theorem dX10_relative_72 : decode cX10_relative 72 = .ok (.iaload, 1) := by decide +kernel
theorem dX10_relative_73 : decode cX10_relative 73 = .ok (.iload_n 1, 1) := by decide +kernel
theorem dX10_relative_74 : decode cX10_relative 74 = .ok (.if_icmp .ne 7, 3) := by decide +kernel
theorem dX10_relative_77 : decode cX10_relative 77 = .ok (.iconst 1, 1) := by decide +kernel
theorem dX10_relative_78 : decode cX10_relative 78 = .ok (.goto 4, 3) := by decide +kernel
theorem dX10_relative_81 : decode cX10_relative 81 = .ok (.iconst 0, 1) := by decide +kernel
theorem dX10_relative_82 : decode cX10_relative 82 = .ok (.ireturn, 1) := by decide +kernel
theorem dX10_relative_83 : decode cX10_relative 83 = .ok (.aload_n 0, 1) := by decide +kernel
theorem dX10_relative_84 : decode cX10_relative 84 = .ok (.getfield 16, 3) := by decide +kernel
theorem dX10_relative_87 : decode cX10_relative 87 = .ok (.iconst 4, 1) := by decide +kernel
theorem dX10_relative_88 : decode cX10_relative 88 = .ok (.iload_n 1, 1) := by decide +kernel
theorem dX10_relative_89 : decode cX10_relative 89 = .ok (.iadd, 1) := by decide +kernel
theorem dX10_relative_90 : decode cX10_relative 90 = .ok (.iaload, 1) := by decide +kernel
theorem dX10_relative_91 : decode cX10_relative 91 = .ok (.ireturn, 1) := by decide +kernel
theorem dX10_relative_92 : decode cX10_relative 92 = .ok (.aload_n 0, 1) := by decide +kernel
theorem dX10_relative_93 : decode cX10_relative 93 = .ok (.getfield 7, 3) := by decide +kernel
theorem dX10_relative_96 : decode cX10_relative 96 = .ok (.iconst 3, 1) := by decide +kernel
theorem dX10_relative_97 : decode cX10_relative 97 = .ok (.iload_n 1, 1) := by decide +kernel
theorem dX10_relative_98 : decode cX10_relative 98 = .ok (.imul, 1) := by decide +kernel
theorem dX10_relative_99 : decode cX10_relative 99 = .ok (.iload_n 2, 1) := by decide +kernel
theorem dX10_relative_100 : decode cX10_relative 100 = .ok (.iadd, 1) := by decide +kernel
theorem dX10_relative_101 : decode cX10_relative 101 = .ok (.iaload, 1) := by decide +kernel
theorem dX10_relative_102 : decode cX10_relative 102 = .ok (.ireturn, 1) := by decide +kernel
set_option maxRecDepth 20000 in
theorem ggX10_saying_X10_in : GoodIn wsX10_saying wsX10_in := goodIn_r _ [6] (by decide +kernel) (by decide +kernel)
set_option maxRecDepth 20000 in
theorem gX10_saying_X10_in : GoodIn wsX10_saying (va_wsS RX10 79 yX10_in wsX10_in) := goodIn_app (goodIn_of _ (by decide +kernel)) ggX10_saying_X10_in
theorem dX10_saying_0 : decode cX10_saying 0 = .ok (.iload_n 1, 1) := by decide +kernel
theorem dX10_saying_1 : decode cX10_saying 1 = .ok (.iconst 0, 1) := by decide +kernel
theorem dX10_saying_2 : decode cX10_saying 2 = .ok (.aload_n 0, 1) := by decide +kernel
theorem dX10_saying_3 : decode cX10_saying 3 = .ok (.getfield 123, 3) := by decide +kernel
theorem dX10_saying_6 : decode cX10_saying 6 = .ok (.iconst 1, 1) := by decide +kernel
theorem dX10_saying_7 : decode cX10_saying 7 = .ok (.isub, 1) := by decide +kernel
theorem dX10_saying_8 : decode cX10_saying 8 = .ok (.invokestatic 79, 3) := by decide +kernel
theorem dX10_saying_11 : decode cX10_saying 11 = .ok (.ifCond .eq 25, 3) := by decide +kernel
theorem dX10_saying_14 : decode cX10_saying 14 = .ok (.iload_n 2, 1) := by decide +kernel
theorem dX10_saying_15 : decode cX10_saying 15 = .ok (.iconst 0, 1) := by decide +kernel
theorem dX10_saying_16 : decode cX10_saying 16 = .ok (.iconst 1, 1) := by decide +kernel
theorem dX10_saying_17 : decode cX10_saying 17 = .ok (.invokestatic 79, 3) := by decide +kernel
theorem dX10_saying_20 : decode cX10_saying 20 = .ok (.ifCond .eq 16, 3) := by decide +kernel
theorem dX10_saying_23 : decode cX10_saying 23 = .ok (.aload_n 0, 1) := by decide +kernel
theorem dX10_saying_24 : decode cX10_saying 24 = .ok (.getfield 13, 3) := by decide +kernel
theorem dX10_saying_27 : decode cX10_saying 27 = .ok (.iconst 2, 1) := by decide +kernel
theorem dX10_saying_28 : decode cX10_saying 28 = .ok (.iload_n 1, 1) := by decide +kernel
theorem dX10_saying_29 : decode cX10_saying 29 = .ok (.imul, 1) := by decide +kernel
theorem dX10_saying_30 : decode cX10_saying 30 = .ok (.iload_n 2, 1) := by decide +kernel
theorem dX10_saying_31 : decode cX10_saying 31 = .ok (.iadd, 1) := by decide +kernel
theorem dX10_saying_32 : decode cX10_saying 32 = .ok (.iaload, 1) := by decide +kernel
theorem dX10_saying_33 : decode cX10_saying 33 = .ok (.goto 4, 3) := by decide +kernel
theorem dX10_saying_36 : decode cX10_saying 36 = .ok (.iconst (-1), 1) := by decide +kernel
theorem dX10_saying_37 : decode cX10_saying 37 = .ok (.ireturn, 1) := by decide +kernel
set_option maxRecDepth 20000 in
theorem ggX10_asking_X10_in : GoodIn wsX10_asking wsX10_in := goodIn_r _ [6] (by decide +kernel) (by decide +kernel)
set_option maxRecDepth 20000 in
theorem gX10_asking_X10_in : GoodIn wsX10_asking (va_wsS RX10 79 yX10_in wsX10_in) := goodIn_app (goodIn_of _ (by decide +kernel)) ggX10_asking_X10_in
set_option maxRecDepth 20000 in
theorem ggX10_asking_X10_isRelative : GoodIn wsX10_asking wsX10_isRelative := goodIn_r _ [10, 11, 3, 4, 5, 6, 30, 31, 32, 33, 34, 35, 36, 37, 38, 39, 40, 41, 42, 43, 44, 45, 46, 47, 48, 49, 50, 51, 52, 53, 54] (by decide +kernel) (by decide +kernel)
set_option maxRecDepth 20000 in
theorem gX10_asking_X10_isRelative : GoodIn wsX10_asking (wsV RX10 163 RX10 yX10_isRelative wsX10_isRelative) := goodIn_app (goodIn_of _ (by decide +kernel)) ggX10_asking_X10_isRelative
set_option maxRecDepth 20000 in
theorem ggX10_asking_X10_from : GoodIn wsX10_asking wsX10_from := goodIn_r _ [15, 16, 17, 18, 5, 19, 30, 31, 32, 33, 34, 35, 36, 37, 38, 39, 40, 41, 42, 43, 44, 45, 46, 47, 48, 49, 50, 51, 52, 53, 54] (by decide +kernel) (by decide +kernel)
set_option maxRecDepth 20000 in
theorem gX10_asking_X10_from : GoodIn wsX10_asking (wsV RX10 166 RX10 yX10_from wsX10_from) := goodIn_app (goodIn_of _ (by decide +kernel)) ggX10_asking_X10_from
set_option maxRecDepth 20000 in
theorem ggX10_asking_X10_isAsking : GoodIn wsX10_asking wsX10_isAsking := goodIn_r _ [23, 24, 16, 25, 26, 27, 28, 5, 29, 30, 31, 32, 33, 34, 35, 36, 37, 38, 39, 40, 41, 42, 43, 44, 45, 46, 47, 48, 49, 50, 51, 52, 53, 54] (by decide +kernel) (by decide +kernel)
set_option maxRecDepth 20000 in
theorem gX10_asking_X10_isAsking : GoodIn wsX10_asking (wsV RX10 155 RX10 yX10_isAsking wsX10_isAsking) := goodIn_app (goodIn_of _ (by decide +kernel)) ggX10_asking_X10_isAsking
theorem dX10_asking_0 : decode cX10_asking 0 = .ok (.iload_n 1, 1) := by decide +kernel
theorem dX10_asking_1 : decode cX10_asking 1 = .ok (.iconst 0, 1) := by decide +kernel
theorem dX10_asking_2 : decode cX10_asking 2 = .ok (.aload_n 0, 1) := by decide +kernel
theorem dX10_asking_3 : decode cX10_asking 3 = .ok (.getfield 123, 3) := by decide +kernel
theorem dX10_asking_6 : decode cX10_asking 6 = .ok (.iconst 1, 1) := by decide +kernel
theorem dX10_asking_7 : decode cX10_asking 7 = .ok (.isub, 1) := by decide +kernel
theorem dX10_asking_8 : decode cX10_asking 8 = .ok (.invokestatic 79, 3) := by decide +kernel
theorem dX10_asking_11 : decode cX10_asking 11 = .ok (.ifCond .eq 11, 3) := by decide +kernel
theorem dX10_asking_14 : decode cX10_asking 14 = .ok (.aload_n 0, 1) := by decide +kernel
theorem dX10_asking_15 : decode cX10_asking 15 = .ok (.iload_n 2, 1) := by decide +kernel
theorem dX10_asking_16 : decode cX10_asking 16 = .ok (.invokevirtual 163, 3) := by decide +kernel
theorem dX10_asking_19 : decode cX10_asking 19 = .ok (.ifCond .ne 5, 3) := by decide +kernel
theorem dX10_asking_22 : decode cX10_asking 22 = .ok (.iconst (-1), 1) := by decide +kernel
theorem dX10_asking_23 : decode cX10_asking 23 = .ok (.ireturn, 1) := by decide +kernel
theorem dX10_asking_24 : decode cX10_asking 24 = .ok (.aload_n 0, 1) := by decide +kernel
theorem dX10_asking_25 : decode cX10_asking 25 = .ok (.aload_n 0, 1) := by decide +kernel
theorem dX10_asking_26 : decode cX10_asking 26 = .ok (.getfield 16, 3) := by decide +kernel
theorem dX10_asking_29 : decode cX10_asking 29 = .ok (.invokevirtual 166, 3) := by decide +kernel
theorem dX10_asking_32 : decode cX10_asking 32 = .ok (.aload_n 0, 1) := by decide +kernel
theorem dX10_asking_33 : decode cX10_asking 33 = .ok (.iload_n 1, 1) := by decide +kernel
theorem dX10_asking_34 : decode cX10_asking 34 = .ok (.iload_n 2, 1) := by decide +kernel
theorem dX10_asking_35 : decode cX10_asking 35 = .ok (.invokevirtual 155, 3) := by decide +kernel
theorem dX10_asking_38 : decode cX10_asking 38 = .ok (.ifCond .eq 7, 3) := by decide +kernel
theorem dX10_asking_41 : decode cX10_asking 41 = .ok (.iconst 1, 1) := by decide +kernel
theorem dX10_asking_42 : decode cX10_asking 42 = .ok (.goto 4, 3) := by decide +kernel
theorem dX10_asking_45 : decode cX10_asking 45 = .ok (.iconst 0, 1) := by decide +kernel
theorem dX10_asking_46 : decode cX10_asking 46 = .ok (.ireturn, 1) := by decide +kernel
set_option maxRecDepth 20000 in
theorem ggX10_knowsOf_X10_agoBy : GoodIn wsX10_knowsOf wsX10_agoBy := goodIn_r _ [6, 7, 8, 9, 10, 11, 12, 13, 14, 15, 16, 17, 18, 19, 20, 21, 22, 23, 24, 25, 26, 27, 28, 29, 30, 31, 32] (by decide +kernel) (by decide +kernel)
set_option maxRecDepth 20000 in
theorem gX10_knowsOf_X10_agoBy : GoodIn wsX10_knowsOf (wsV RX10 145 RX10 yX10_agoBy wsX10_agoBy) := goodIn_app (goodIn_of _ (by decide +kernel)) ggX10_knowsOf_X10_agoBy
theorem dX10_knowsOf_0 : decode cX10_knowsOf 0 = .ok (.aload_n 0, 1) := by decide +kernel
theorem dX10_knowsOf_1 : decode cX10_knowsOf 1 = .ok (.iload_n 2, 1) := by decide +kernel
theorem dX10_knowsOf_2 : decode cX10_knowsOf 2 = .ok (.iload_n 1, 1) := by decide +kernel
theorem dX10_knowsOf_3 : decode cX10_knowsOf 3 = .ok (.iload_n 2, 1) := by decide +kernel
theorem dX10_knowsOf_4 : decode cX10_knowsOf 4 = .ok (.if_icmp .ne 7, 3) := by decide +kernel
theorem dX10_knowsOf_7 : decode cX10_knowsOf 7 = .ok (.iconst 0, 1) := by decide +kernel
theorem dX10_knowsOf_8 : decode cX10_knowsOf 8 = .ok (.goto 13, 3) := by decide +kernel
theorem dX10_knowsOf_11 : decode cX10_knowsOf 11 = .ok (.aload_n 0, 1) := by decide +kernel
theorem dX10_knowsOf_12 : decode cX10_knowsOf 12 = .ok (.getfield 7, 3) := by decide +kernel
theorem dX10_knowsOf_15 : decode cX10_knowsOf 15 = .ok (.iconst 3, 1) := by decide +kernel
theorem dX10_knowsOf_16 : decode cX10_knowsOf 16 = .ok (.iload_n 1, 1) := by decide +kernel
theorem dX10_knowsOf_17 : decode cX10_knowsOf 17 = .ok (.imul, 1) := by decide +kernel
theorem dX10_knowsOf_18 : decode cX10_knowsOf 18 = .ok (.iconst 2, 1) := by decide +kernel
theorem dX10_knowsOf_19 : decode cX10_knowsOf 19 = .ok (.iadd, 1) := by decide +kernel
theorem dX10_knowsOf_20 : decode cX10_knowsOf 20 = .ok (.iaload, 1) := by decide +kernel
theorem dX10_knowsOf_21 : decode cX10_knowsOf 21 = .ok (.invokevirtual 145, 3) := by decide +kernel
theorem dX10_knowsOf_24 : decode cX10_knowsOf 24 = .ok (.ireturn, 1) := by decide +kernel
set_option maxRecDepth 20000 in
theorem ggX10_knows_X10_isRelative : GoodIn wsX10_knows wsX10_isRelative := goodIn_r _ [6, 7, 8, 9, 5, 10, 28, 29, 30, 31, 32, 33, 34, 35, 36, 37, 38, 39, 40, 41, 42, 43, 44, 45, 46, 47, 48, 49, 50, 51, 52] (by decide +kernel) (by decide +kernel)
set_option maxRecDepth 20000 in
theorem gX10_knows_X10_isRelative : GoodIn wsX10_knows (wsV RX10 163 RX10 yX10_isRelative wsX10_isRelative) := goodIn_app (goodIn_of _ (by decide +kernel)) ggX10_knows_X10_isRelative
set_option maxRecDepth 20000 in
theorem ggX10_knows_X10_from : GoodIn wsX10_knows wsX10_from := goodIn_r _ [14, 15, 16, 17, 5, 18, 28, 29, 30, 31, 32, 33, 34, 35, 36, 37, 38, 39, 40, 41, 42, 43, 44, 45, 46, 47, 48, 49, 50, 51, 52] (by decide +kernel) (by decide +kernel)
set_option maxRecDepth 20000 in
theorem gX10_knows_X10_from : GoodIn wsX10_knows (wsV RX10 166 RX10 yX10_from wsX10_from) := goodIn_app (goodIn_of _ (by decide +kernel)) ggX10_knows_X10_from
set_option maxRecDepth 20000 in
theorem ggX10_knows_X10_knowsOf : GoodIn wsX10_knows wsX10_knowsOf := goodIn_r _ [22, 23, 24, 25, 26, 5, 27, 15, 28, 29, 30, 31, 32, 33, 34, 35, 36, 37, 38, 39, 40, 41, 42, 43, 44, 45, 46, 47, 48, 49, 50, 51, 52] (by decide +kernel) (by decide +kernel)
set_option maxRecDepth 20000 in
theorem gX10_knows_X10_knowsOf : GoodIn wsX10_knows (wsV RX10 170 RX10 yX10_knowsOf wsX10_knowsOf) := goodIn_app (goodIn_of _ (by decide +kernel)) ggX10_knows_X10_knowsOf
theorem dX10_knows_0 : decode cX10_knows 0 = .ok (.aload_n 0, 1) := by decide +kernel
theorem dX10_knows_1 : decode cX10_knows 1 = .ok (.iload_n 1, 1) := by decide +kernel
theorem dX10_knows_2 : decode cX10_knows 2 = .ok (.invokevirtual 163, 3) := by decide +kernel
theorem dX10_knows_5 : decode cX10_knows 5 = .ok (.ifCond .eq 11, 3) := by decide +kernel
theorem dX10_knows_8 : decode cX10_knows 8 = .ok (.aload_n 0, 1) := by decide +kernel
theorem dX10_knows_9 : decode cX10_knows 9 = .ok (.iload_n 2, 1) := by decide +kernel
theorem dX10_knows_10 : decode cX10_knows 10 = .ok (.invokevirtual 163, 3) := by decide +kernel
theorem dX10_knows_13 : decode cX10_knows 13 = .ok (.ifCond .ne 5, 3) := by decide +kernel
theorem dX10_knows_16 : decode cX10_knows 16 = .ok (.iconst (-1), 1) := by decide +kernel
theorem dX10_knows_17 : decode cX10_knows 17 = .ok (.ireturn, 1) := by decide +kernel
theorem dX10_knows_18 : decode cX10_knows 18 = .ok (.aload_n 0, 1) := by decide +kernel
theorem dX10_knows_19 : decode cX10_knows 19 = .ok (.aload_n 0, 1) := by decide +kernel
theorem dX10_knows_20 : decode cX10_knows 20 = .ok (.getfield 16, 3) := by decide +kernel
theorem dX10_knows_23 : decode cX10_knows 23 = .ok (.invokevirtual 166, 3) := by decide +kernel
theorem dX10_knows_26 : decode cX10_knows 26 = .ok (.aload_n 0, 1) := by decide +kernel
theorem dX10_knows_27 : decode cX10_knows 27 = .ok (.iload_n 1, 1) := by decide +kernel
theorem dX10_knows_28 : decode cX10_knows 28 = .ok (.iload_n 2, 1) := by decide +kernel
theorem dX10_knows_29 : decode cX10_knows 29 = .ok (.invokevirtual 170, 3) := by decide +kernel
theorem dX10_knows_32 : decode cX10_knows 32 = .ok (.ireturn, 1) := by decide +kernel
set_option maxRecDepth 20000 in
theorem ggX10_remembers_X10_put : GoodIn wsX10_remembers wsX10_put := goodIn_r _ [7] (by decide +kernel) (by decide +kernel)
set_option maxRecDepth 20000 in
theorem gX10_remembers_X10_put : GoodIn wsX10_remembers (va_wsS RX10 129 yX10_put wsX10_put) := goodIn_app (goodIn_of _ (by decide +kernel)) ggX10_remembers_X10_put
theorem dX10_remembers_0 : decode cX10_remembers 0 = .ok (.aload_n 0, 1) := by decide +kernel
theorem dX10_remembers_1 : decode cX10_remembers 1 = .ok (.getfield 133, 3) := by decide +kernel
theorem dX10_remembers_4 : decode cX10_remembers 4 = .ok (.bipush 8, 2) := by decide +kernel
theorem dX10_remembers_6 : decode cX10_remembers 6 = .ok (.if_icmp .ne 43, 3) := by decide +kernel
theorem dX10_remembers_9 : decode cX10_remembers 9 = .ok (.iconst 0, 1) := by decide +kernel
theorem dX10_remembers_10 : decode cX10_remembers 10 = .ok (.istore_n 1, 1) := by decide +kernel
theorem dX10_remembers_11 : decode cX10_remembers 11 = .ok (.iload_n 1, 1) := by decide +kernel
theorem dX10_remembers_12 : decode cX10_remembers 12 = .ok (.sipush 504, 3) := by decide +kernel
theorem dX10_remembers_15 : decode cX10_remembers 15 = .ok (.if_icmp .ge 24, 3) := by decide +kernel
theorem dX10_remembers_18 : decode cX10_remembers 18 = .ok (.aload_n 0, 1) := by decide +kernel
theorem dX10_remembers_19 : decode cX10_remembers 19 = .ok (.getfield 22, 3) := by decide +kernel
theorem dX10_remembers_22 : decode cX10_remembers 22 = .ok (.iload_n 1, 1) := by decide +kernel
theorem dX10_remembers_23 : decode cX10_remembers 23 = .ok (.aload_n 0, 1) := by decide +kernel
theorem dX10_remembers_24 : decode cX10_remembers 24 = .ok (.getfield 22, 3) := by decide +kernel
theorem dX10_remembers_27 : decode cX10_remembers 27 = .ok (.iload_n 1, 1) := by decide +kernel
theorem dX10_remembers_28 : decode cX10_remembers 28 = .ok (.bipush 72, 2) := by decide +kernel
theorem dX10_remembers_30 : decode cX10_remembers 30 = .ok (.iadd, 1) := by decide +kernel
theorem dX10_remembers_31 : decode cX10_remembers 31 = .ok (.iaload, 1) := by decide +kernel
theorem dX10_remembers_32 : decode cX10_remembers 32 = .ok (.iastore, 1) := by decide +kernel
theorem dX10_remembers_33 : decode cX10_remembers 33 = .ok (.iinc 1 1, 3) := by decide +kernel
theorem dX10_remembers_36 : decode cX10_remembers 36 = .ok (.goto (-25), 3) := by decide +kernel
theorem dX10_remembers_39 : decode cX10_remembers 39 = .ok (.aload_n 0, 1) := by decide +kernel
theorem dX10_remembers_40 : decode cX10_remembers 40 = .ok (.dup, 1) := by decide +kernel
theorem dX10_remembers_41 : decode cX10_remembers 41 = .ok (.getfield 133, 3) := by decide +kernel
theorem dX10_remembers_44 : decode cX10_remembers 44 = .ok (.iconst 1, 1) := by decide +kernel
theorem dX10_remembers_45 : decode cX10_remembers 45 = .ok (.isub, 1) := by decide +kernel
theorem dX10_remembers_46 : decode cX10_remembers 46 = .ok (.putfield 133, 3) := by decide +kernel
theorem dX10_remembers_49 : decode cX10_remembers 49 = .ok (.aload_n 0, 1) := by decide +kernel
theorem dX10_remembers_50 : decode cX10_remembers 50 = .ok (.getfield 22, 3) := by decide +kernel
theorem dX10_remembers_53 : decode cX10_remembers 53 = .ok (.bipush 72, 2) := by decide +kernel
theorem dX10_remembers_55 : decode cX10_remembers 55 = .ok (.aload_n 0, 1) := by decide +kernel
theorem dX10_remembers_56 : decode cX10_remembers 56 = .ok (.getfield 133, 3) := by decide +kernel
theorem dX10_remembers_59 : decode cX10_remembers 59 = .ok (.imul, 1) := by decide +kernel
theorem dX10_remembers_60 : decode cX10_remembers 60 = .ok (.aload_n 0, 1) := by decide +kernel
theorem dX10_remembers_61 : decode cX10_remembers 61 = .ok (.getfield 16, 3) := by decide +kernel
theorem dX10_remembers_64 : decode cX10_remembers 64 = .ok (.bipush 72, 2) := by decide +kernel
theorem dX10_remembers_66 : decode cX10_remembers 66 = .ok (.invokestatic 129, 3) := by decide +kernel
theorem dX10_remembers_69 : decode cX10_remembers 69 = .ok (.aload_n 0, 1) := by decide +kernel
theorem dX10_remembers_70 : decode cX10_remembers 70 = .ok (.dup, 1) := by decide +kernel
theorem dX10_remembers_71 : decode cX10_remembers 71 = .ok (.getfield 133, 3) := by decide +kernel
theorem dX10_remembers_74 : decode cX10_remembers 74 = .ok (.iconst 1, 1) := by decide +kernel
theorem dX10_remembers_75 : decode cX10_remembers 75 = .ok (.iadd, 1) := by decide +kernel
theorem dX10_remembers_76 : decode cX10_remembers 76 = .ok (.putfield 133, 3) := by decide +kernel
theorem dX10_remembers_79 : decode cX10_remembers 79 = .ok (.return_, 1) := by decide +kernel
set_option maxRecDepth 20000 in
theorem ggX10_say_X10_isRelative : GoodIn wsX10_say wsX10_isRelative := goodIn_r _ [8, 9, 10, 11, 7, 12, 44, 45, 46, 47, 48, 49, 50, 51, 52, 53, 54, 55, 56, 57, 58, 59, 60, 61, 62, 63, 64, 65, 66, 67, 68] (by decide +kernel) (by decide +kernel)
set_option maxRecDepth 20000 in
theorem gX10_say_X10_isRelative : GoodIn wsX10_say (wsV RX10 163 RX10 yX10_isRelative wsX10_isRelative) := goodIn_app (goodIn_of _ (by decide +kernel)) ggX10_say_X10_isRelative
set_option maxRecDepth 20000 in
theorem ggX10_say_X10_in : GoodIn wsX10_say wsX10_in := goodIn_r _ [12] (by decide +kernel) (by decide +kernel)
set_option maxRecDepth 20000 in
theorem gX10_say_X10_in : GoodIn wsX10_say (va_wsS RX10 79 yX10_in wsX10_in) := goodIn_app (goodIn_of _ (by decide +kernel)) ggX10_say_X10_in
set_option maxRecDepth 20000 in
theorem ggX10_say_X10_remembers : GoodIn wsX10_say wsX10_remembers := goodIn_r _ [16, 17, 18, 2, 19, 20, 7, 21, 44, 45, 46, 47, 48, 49, 50, 51, 52, 53, 54, 55, 56, 57, 58, 59, 60, 61, 62, 63, 64, 65, 66, 67, 68] (by decide +kernel) (by decide +kernel)
set_option maxRecDepth 20000 in
theorem gX10_say_X10_remembers : GoodIn wsX10_say (wsV RX10 173 RX10 yX10_remembers wsX10_remembers) := goodIn_app (goodIn_of _ (by decide +kernel)) ggX10_say_X10_remembers
set_option maxRecDepth 20000 in
theorem ggX10_say_X10_from : GoodIn wsX10_say wsX10_from := goodIn_r _ [25, 3, 19, 20, 7, 21, 44, 45, 46, 47, 48, 49, 50, 51, 52, 53, 54, 55, 56, 57, 58, 59, 60, 61, 62, 63, 64, 65, 66, 67, 68] (by decide +kernel) (by decide +kernel)
set_option maxRecDepth 20000 in
theorem gX10_say_X10_from : GoodIn wsX10_say (wsV RX10 166 RX10 yX10_from wsX10_from) := goodIn_app (goodIn_of _ (by decide +kernel)) ggX10_say_X10_from
set_option maxRecDepth 20000 in
theorem ggX10_say_X10_saysIt : GoodIn wsX10_say wsX10_saysIt := goodIn_r _ [29, 3, 30, 31, 32, 7, 33, 34, 35, 36, 37, 38, 39, 40, 41, 42, 43, 44, 45, 46, 47, 48, 49, 50, 51, 52, 53, 54, 55, 56, 57, 58, 59, 60, 61, 62, 63, 64, 65, 66, 67, 68] (by decide +kernel) (by decide +kernel)
set_option maxRecDepth 20000 in
theorem gX10_say_X10_saysIt : GoodIn wsX10_say (wsV RX10 176 RX10 yX10_saysIt wsX10_saysIt) := goodIn_app (goodIn_of _ (by decide +kernel)) ggX10_say_X10_saysIt
set_option maxRecDepth 20000 in
theorem ggX10_say_X10_put : GoodIn wsX10_say wsX10_put := goodIn_r _ [21] (by decide +kernel) (by decide +kernel)
set_option maxRecDepth 20000 in
theorem gX10_say_X10_put : GoodIn wsX10_say (va_wsS RX10 129 yX10_put wsX10_put) := goodIn_app (goodIn_of _ (by decide +kernel)) ggX10_say_X10_put
theorem dX10_say_0 : decode cX10_say 0 = .ok (.aload_n 0, 1) := by decide +kernel
theorem dX10_say_1 : decode cX10_say 1 = .ok (.iload_n 1, 1) := by decide +kernel
theorem dX10_say_2 : decode cX10_say 2 = .ok (.invokevirtual 163, 3) := by decide +kernel
theorem dX10_say_5 : decode cX10_say 5 = .ok (.ifCond .eq 17, 3) := by decide +kernel
theorem dX10_say_8 : decode cX10_say 8 = .ok (.iload_n 2, 1) := by decide +kernel
theorem dX10_say_9 : decode cX10_say 9 = .ok (.iconst 0, 1) := by decide +kernel
theorem dX10_say_10 : decode cX10_say 10 = .ok (.aload_n 0, 1) := by decide +kernel
theorem dX10_say_11 : decode cX10_say 11 = .ok (.getfield 123, 3) := by decide +kernel
theorem dX10_say_14 : decode cX10_say 14 = .ok (.iconst 1, 1) := by decide +kernel
theorem dX10_say_15 : decode cX10_say 15 = .ok (.isub, 1) := by decide +kernel
theorem dX10_say_16 : decode cX10_say 16 = .ok (.invokestatic 79, 3) := by decide +kernel
theorem dX10_say_19 : decode cX10_say 19 = .ok (.ifCond .ne 5, 3) := by decide +kernel
theorem dX10_say_22 : decode cX10_say 22 = .ok (.iconst (-1), 1) := by decide +kernel
theorem dX10_say_23 : decode cX10_say 23 = .ok (.ireturn, 1) := by decide +kernel
theorem dX10_say_24 : decode cX10_say 24 = .ok (.aload_n 0, 1) := by decide +kernel
theorem dX10_say_25 : decode cX10_say 25 = .ok (.getfield 16, 3) := by decide +kernel
