theorem dX4_letterAt_13 : decode cX4_letterAt 13 = .ok (.sipush 200, 3) := by decide +kernel
theorem dX4_letterAt_16 : decode cX4_letterAt 16 = .ok (.if_icmp .ge 12, 3) := by decide +kernel
theorem dX4_letterAt_19 : decode cX4_letterAt 19 = .ok (.aload_n 0, 1) := by decide +kernel
theorem dX4_letterAt_20 : decode cX4_letterAt 20 = .ok (.getfield 9, 3) := by decide +kernel
theorem dX4_letterAt_23 : decode cX4_letterAt 23 = .ok (.iload_n 1, 1) := by decide +kernel
theorem dX4_letterAt_24 : decode cX4_letterAt 24 = .ok (.caload, 1) := by decide +kernel
theorem dX4_letterAt_25 : decode cX4_letterAt 25 = .ok (.goto 4, 3) := by decide +kernel
theorem dX4_letterAt_28 : decode cX4_letterAt 28 = .ok (.iconst 0, 1) := by decide +kernel
theorem dX4_letterAt_29 : decode cX4_letterAt 29 = .ok (.ireturn, 1) := by decide +kernel
set_option maxRecDepth 20000 in
theorem ggX5_init_X6_init : GoodIn wsX5_init wsX6_init := goodIn_r _ [12, 13, 2, 3, 4, 14, 19, 20, 21, 22, 23] (by decide +kernel) (by decide +kernel)
set_option maxRecDepth 20000 in
theorem gX5_init_X6_init_n20 : GoodIn wsX5_init (wsX6_init) := ggX5_init_X6_init
theorem dX5_init_0 : decode cX5_init 0 = .ok (.aload_n 0, 1) := by decide +kernel
theorem dX5_init_1 : decode cX5_init 1 = .ok (.invokespecial 3, 3) := by decide +kernel
theorem dX5_init_4 : decode cX5_init 4 = .ok (.aload_n 0, 1) := by decide +kernel
theorem dX5_init_5 : decode cX5_init 5 = .ok (.bipush 6, 2) := by decide +kernel
theorem dX5_init_7 : decode cX5_init 7 = .ok (.newarray .int, 2) := by decide +kernel
theorem dX5_init_9 : decode cX5_init 9 = .ok (.putfield 9, 3) := by decide +kernel
theorem dX5_init_12 : decode cX5_init 12 = .ok (.aload_n 0, 1) := by decide +kernel
theorem dX5_init_13 : decode cX5_init 13 = .ok (.bipush 6, 2) := by decide +kernel
theorem dX5_init_15 : decode cX5_init 15 = .ok (.newarray .int, 2) := by decide +kernel
theorem dX5_init_17 : decode cX5_init 17 = .ok (.putfield 15, 3) := by decide +kernel
theorem dX5_init_20 : decode cX5_init 20 = .ok (.aload_n 0, 1) := by decide +kernel
theorem dX5_init_21 : decode cX5_init 21 = .ok (.new 18, 3) := by decide +kernel
theorem dX5_init_24 : decode cX5_init 24 = .ok (.dup, 1) := by decide +kernel
theorem dX5_init_25 : decode cX5_init 25 = .ok (.invokespecial 20, 3) := by decide +kernel
theorem dX5_init_28 : decode cX5_init 28 = .ok (.putfield 21, 3) := by decide +kernel
theorem dX5_init_31 : decode cX5_init 31 = .ok (.return_, 1) := by decide +kernel
theorem dX5_size_0 : decode cX5_size 0 = .ok (.aload_n 0, 1) := by decide +kernel
theorem dX5_size_1 : decode cX5_size 1 = .ok (.getfield 25, 3) := by decide +kernel
theorem dX5_size_4 : decode cX5_size 4 = .ok (.ireturn, 1) := by decide +kernel
theorem dX5_clear_0 : decode cX5_clear 0 = .ok (.aload_n 0, 1) := by decide +kernel
theorem dX5_clear_1 : decode cX5_clear 1 = .ok (.iconst 0, 1) := by decide +kernel
theorem dX5_clear_2 : decode cX5_clear 2 = .ok (.putfield 25, 3) := by decide +kernel
theorem dX5_clear_5 : decode cX5_clear 5 = .ok (.return_, 1) := by decide +kernel
theorem dX5_tell_0 : decode cX5_tell 0 = .ok (.aload_n 0, 1) := by decide +kernel
theorem dX5_tell_1 : decode cX5_tell 1 = .ok (.getfield 25, 3) := by decide +kernel
theorem dX5_tell_4 : decode cX5_tell 4 = .ok (.bipush 6, 2) := by decide +kernel
theorem dX5_tell_6 : decode cX5_tell 6 = .ok (.if_icmp .lt 5, 3) := by decide +kernel
theorem dX5_tell_9 : decode cX5_tell 9 = .ok (.iconst 0, 1) := by decide +kernel
theorem dX5_tell_10 : decode cX5_tell 10 = .ok (.ireturn, 1) := by decide +kernel
theorem dX5_tell_11 : decode cX5_tell 11 = .ok (.aload_n 0, 1) := by decide +kernel
theorem dX5_tell_12 : decode cX5_tell 12 = .ok (.getfield 9, 3) := by decide +kernel
theorem dX5_tell_15 : decode cX5_tell 15 = .ok (.aload_n 0, 1) := by decide +kernel
theorem dX5_tell_16 : decode cX5_tell 16 = .ok (.getfield 25, 3) := by decide +kernel
theorem dX5_tell_19 : decode cX5_tell 19 = .ok (.iload_n 1, 1) := by decide +kernel
theorem dX5_tell_20 : decode cX5_tell 20 = .ok (.iastore, 1) := by decide +kernel
theorem dX5_tell_21 : decode cX5_tell 21 = .ok (.aload_n 0, 1) := by decide +kernel
theorem dX5_tell_22 : decode cX5_tell 22 = .ok (.getfield 15, 3) := by decide +kernel
theorem dX5_tell_25 : decode cX5_tell 25 = .ok (.aload_n 0, 1) := by decide +kernel
theorem dX5_tell_26 : decode cX5_tell 26 = .ok (.getfield 25, 3) := by decide +kernel
theorem dX5_tell_29 : decode cX5_tell 29 = .ok (.iload_n 2, 1) := by decide +kernel
theorem dX5_tell_30 : decode cX5_tell 30 = .ok (.iastore, 1) := by decide +kernel
theorem dX5_tell_31 : decode cX5_tell 31 = .ok (.aload_n 0, 1) := by decide +kernel
theorem dX5_tell_32 : decode cX5_tell 32 = .ok (.dup, 1) := by decide +kernel
theorem dX5_tell_33 : decode cX5_tell 33 = .ok (.getfield 25, 3) := by decide +kernel
theorem dX5_tell_36 : decode cX5_tell 36 = .ok (.iconst 1, 1) := by decide +kernel
theorem dX5_tell_37 : decode cX5_tell 37 = .ok (.iadd, 1) := by decide +kernel
theorem dX5_tell_38 : decode cX5_tell 38 = .ok (.putfield 25, 3) := by decide +kernel
theorem dX5_tell_41 : decode cX5_tell 41 = .ok (.iconst 1, 1) := by decide +kernel
theorem dX5_tell_42 : decode cX5_tell 42 = .ok (.ireturn, 1) := by decide +kernel
set_option maxRecDepth 20000 in
theorem ggX5_deedsThatFit_X5_fits : GoodIn wsX5_deedsThatFit wsX5_fits := goodIn_r _ [5, 6, 7, 8, 9, 10, 11, 12, 13, 14, 15, 16, 17, 18, 19, 20, 21, 22, 23, 24, 25, 26, 27, 28, 29, 30, 31, 32, 33, 34, 35, 36, 37, 38, 39, 40, 41, 42, 43, 44, 45, 46, 47, 48, 49, 50, 51, 52, 53, 54, 55, 56, 57, 58, 59, 60, 61, 62, 63, 64, 65, 66, 67, 68, 69, 70, 71, 72, 73, 74, 75, 76, 77, 78, 79, 80, 81, 82, 83, 84, 85, 86, 87, 88, 89, 90, 91, 92, 93, 94, 95, 96, 97, 98, 4, 99, 100, 101, 102, 103, 104, 105, 106, 107, 108, 109, 110, 111, 112, 113, 114, 115, 116, 117, 118, 119, 120, 121, 122, 123, 124, 125, 126, 127, 128] (by decide +kernel) (by decide +kernel)
set_option maxRecDepth 20000 in
theorem gX5_deedsThatFit_X5_fits : GoodIn wsX5_deedsThatFit (wsV RX5 29 RX5 yX5_fits wsX5_fits) := goodIn_app (goodIn_of _ (by decide +kernel)) ggX5_deedsThatFit_X5_fits
theorem dX5_deedsThatFit_0 : decode cX5_deedsThatFit 0 = .ok (.iconst 0, 1) := by decide +kernel
theorem dX5_deedsThatFit_1 : decode cX5_deedsThatFit 1 = .ok (.istore_n 3, 1) := by decide +kernel
theorem dX5_deedsThatFit_2 : decode cX5_deedsThatFit 2 = .ok (.iconst 0, 1) := by decide +kernel
theorem dX5_deedsThatFit_3 : decode cX5_deedsThatFit 3 = .ok (.istore 4, 2) := by decide +kernel
theorem dX5_deedsThatFit_5 : decode cX5_deedsThatFit 5 = .ok (.iload 4, 2) := by decide +kernel
theorem dX5_deedsThatFit_7 : decode cX5_deedsThatFit 7 = .ok (.bipush 64, 2) := by decide +kernel
theorem dX5_deedsThatFit_9 : decode cX5_deedsThatFit 9 = .ok (.if_icmp .ge 23, 3) := by decide +kernel
theorem dX5_deedsThatFit_12 : decode cX5_deedsThatFit 12 = .ok (.aload_n 0, 1) := by decide +kernel
theorem dX5_deedsThatFit_13 : decode cX5_deedsThatFit 13 = .ok (.iload 4, 2) := by decide +kernel
theorem dX5_deedsThatFit_15 : decode cX5_deedsThatFit 15 = .ok (.aload_n 1, 1) := by decide +kernel
theorem dX5_deedsThatFit_16 : decode cX5_deedsThatFit 16 = .ok (.aload_n 2, 1) := by decide +kernel
theorem dX5_deedsThatFit_17 : decode cX5_deedsThatFit 17 = .ok (.invokevirtual 29, 3) := by decide +kernel
theorem dX5_deedsThatFit_20 : decode cX5_deedsThatFit 20 = .ok (.ifCond .eq 6, 3) := by decide +kernel
theorem dX5_deedsThatFit_23 : decode cX5_deedsThatFit 23 = .ok (.iinc 3 1, 3) := by decide +kernel
theorem dX5_deedsThatFit_26 : decode cX5_deedsThatFit 26 = .ok (.iinc 4 1, 3) := by decide +kernel
theorem dX5_deedsThatFit_29 : decode cX5_deedsThatFit 29 = .ok (.goto (-24), 3) := by decide +kernel
theorem dX5_deedsThatFit_32 : decode cX5_deedsThatFit 32 = .ok (.iload_n 3, 1) := by decide +kernel
theorem dX5_deedsThatFit_33 : decode cX5_deedsThatFit 33 = .ok (.ireturn, 1) := by decide +kernel
set_option maxRecDepth 20000 in
theorem ggX5_lowestThatFits_X5_fits : GoodIn wsX5_lowestThatFits wsX5_fits := goodIn_r _ [5, 6, 7, 8, 9, 10, 11, 12, 13, 14, 15, 16, 17, 18, 19, 20, 21, 22, 23, 24, 25, 26, 27, 28, 29, 30, 31, 32, 33, 34, 35, 36, 37, 38, 39, 40, 41, 42, 43, 44, 45, 46, 47, 48, 49, 50, 51, 52, 53, 54, 55, 56, 57, 58, 59, 60, 61, 62, 63, 64, 65, 66, 67, 68, 69, 70, 71, 72, 73, 74, 75, 76, 77, 78, 79, 80, 81, 82, 83, 84, 85, 86, 87, 88, 89, 90, 91, 92, 93, 94, 95, 96, 97, 98, 4, 99, 100, 101, 102, 103, 104, 105, 106, 107, 108, 109, 110, 111, 112, 113, 114, 115, 116, 117, 118, 119, 120, 121, 122, 123, 124, 125, 126, 127, 128] (by decide +kernel) (by decide +kernel)
set_option maxRecDepth 20000 in
theorem gX5_lowestThatFits_X5_fits : GoodIn wsX5_lowestThatFits (wsV RX5 29 RX5 yX5_fits wsX5_fits) := goodIn_app (goodIn_of _ (by decide +kernel)) ggX5_lowestThatFits_X5_fits
theorem dX5_lowestThatFits_0 : decode cX5_lowestThatFits 0 = .ok (.iconst 0, 1) := by decide +kernel
theorem dX5_lowestThatFits_1 : decode cX5_lowestThatFits 1 = .ok (.istore_n 3, 1) := by decide +kernel
theorem dX5_lowestThatFits_2 : decode cX5_lowestThatFits 2 = .ok (.iload_n 3, 1) := by decide +kernel
theorem dX5_lowestThatFits_3 : decode cX5_lowestThatFits 3 = .ok (.bipush 64, 2) := by decide +kernel
theorem dX5_lowestThatFits_5 : decode cX5_lowestThatFits 5 = .ok (.if_icmp .ge 21, 3) := by decide +kernel
theorem dX5_lowestThatFits_8 : decode cX5_lowestThatFits 8 = .ok (.aload_n 0, 1) := by decide +kernel
theorem dX5_lowestThatFits_9 : decode cX5_lowestThatFits 9 = .ok (.iload_n 3, 1) := by decide +kernel
theorem dX5_lowestThatFits_10 : decode cX5_lowestThatFits 10 = .ok (.aload_n 1, 1) := by decide +kernel
theorem dX5_lowestThatFits_11 : decode cX5_lowestThatFits 11 = .ok (.aload_n 2, 1) := by decide +kernel
theorem dX5_lowestThatFits_12 : decode cX5_lowestThatFits 12 = .ok (.invokevirtual 29, 3) := by decide +kernel
theorem dX5_lowestThatFits_15 : decode cX5_lowestThatFits 15 = .ok (.ifCond .eq 5, 3) := by decide +kernel
theorem dX5_lowestThatFits_18 : decode cX5_lowestThatFits 18 = .ok (.iload_n 3, 1) := by decide +kernel
theorem dX5_lowestThatFits_19 : decode cX5_lowestThatFits 19 = .ok (.ireturn, 1) := by decide +kernel
theorem dX5_lowestThatFits_20 : decode cX5_lowestThatFits 20 = .ok (.iinc 3 1, 3) := by decide +kernel
theorem dX5_lowestThatFits_23 : decode cX5_lowestThatFits 23 = .ok (.goto (-21), 3) := by decide +kernel
theorem dX5_lowestThatFits_26 : decode cX5_lowestThatFits 26 = .ok (.bipush (-4), 2) := by decide +kernel
theorem dX5_lowestThatFits_28 : decode cX5_lowestThatFits 28 = .ok (.ireturn, 1) := by decide +kernel
set_option maxRecDepth 20000 in
theorem ggX5_fits_X6_begin : GoodIn wsX5_fits wsX6_begin := goodIn_r _ [6, 7, 8, 9, 10, 11, 12, 13, 14, 15, 16, 17, 18, 19, 20, 21, 22, 23, 24, 25, 26, 27, 28, 29, 30, 103, 104, 105, 106, 107, 108, 109, 110, 111, 112, 113, 114, 115, 116] (by decide +kernel) (by decide +kernel)
set_option maxRecDepth 20000 in
theorem gX5_fits_X6_begin : GoodIn wsX5_fits (wsV RX5 33 RX6 yX6_begin wsX6_begin) := goodIn_app (goodIn_of _ (by decide +kernel)) ggX5_fits_X6_begin
set_option maxRecDepth 20000 in
theorem ggX5_fits_X1_repeat : GoodIn wsX5_fits wsX1_repeat := goodIn_r _ [35, 36, 37, 38, 39, 40, 41, 19, 42, 43, 44, 45, 46, 47, 48, 49, 50, 51, 52, 53, 54, 55, 56, 57, 58, 59, 60, 61, 62, 63, 27, 28, 29, 30, 21, 64, 65, 66, 67, 68, 69, 70, 71, 72, 73, 5, 74, 11, 12, 13, 14, 117, 118, 119, 120, 121, 122, 123, 124, 108, 109, 110, 111, 112, 113, 114, 115, 116, 103, 104, 105, 106, 107] (by decide +kernel) (by decide +kernel)
set_option maxRecDepth 20000 in
theorem gX5_fits_X1_repeat : GoodIn wsX5_fits (wsV RX5 37 RX1 yX1_repeat wsX1_repeat) := goodIn_app (goodIn_of _ (by decide +kernel)) ggX5_fits_X1_repeat
set_option maxRecDepth 20000 in
theorem ggX5_fits_X6_passNoon : GoodIn wsX5_fits wsX6_passNoon := goodIn_r _ [78, 14, 15, 13, 79, 80, 81, 5, 82, 11, 83, 84, 85, 86, 12, 103, 104, 105, 106, 107] (by decide +kernel) (by decide +kernel)
set_option maxRecDepth 20000 in
theorem gX5_fits_X6_passNoon : GoodIn wsX5_fits (wsV RX5 43 RX6 yX6_passNoon wsX6_passNoon) := goodIn_app (goodIn_of _ (by decide +kernel)) ggX5_fits_X6_passNoon
set_option maxRecDepth 20000 in
theorem ggX5_fits_X6_owner : GoodIn wsX5_fits wsX6_owner := goodIn_r _ [90, 15, 103, 104, 105, 106, 107] (by decide +kernel) (by decide +kernel)
set_option maxRecDepth 20000 in
theorem gX5_fits_X6_owner : GoodIn wsX5_fits (wsV RX5 46 RX6 yX6_owner wsX6_owner) := goodIn_app (goodIn_of _ (by decide +kernel)) ggX5_fits_X6_owner
set_option maxRecDepth 20000 in
theorem ggX5_fits_X5_agrees : GoodIn wsX5_fits wsX5_agrees := goodIn_r _ [95, 96, 97, 98, 99, 100, 101, 102] (by decide +kernel) (by decide +kernel)
set_option maxRecDepth 20000 in
theorem gX5_fits_X5_agrees : GoodIn wsX5_fits (wsV RX5 50 RX5 yX5_agrees wsX5_agrees) := goodIn_app (goodIn_of _ (by decide +kernel)) ggX5_fits_X5_agrees
theorem dX5_fits_0 : decode cX5_fits 0 = .ok (.aload_n 0, 1) := by decide +kernel
theorem dX5_fits_1 : decode cX5_fits 1 = .ok (.getfield 21, 3) := by decide +kernel
theorem dX5_fits_4 : decode cX5_fits 4 = .ok (.aload_n 2, 1) := by decide +kernel
theorem dX5_fits_5 : decode cX5_fits 5 = .ok (.invokevirtual 33, 3) := by decide +kernel
theorem dX5_fits_8 : decode cX5_fits 8 = .ok (.iconst 0, 1) := by decide +kernel
theorem dX5_fits_9 : decode cX5_fits 9 = .ok (.istore 4, 2) := by decide +kernel
theorem dX5_fits_11 : decode cX5_fits 11 = .ok (.iload 4, 2) := by decide +kernel
theorem dX5_fits_13 : decode cX5_fits 13 = .ok (.bipush 10, 2) := by decide +kernel
theorem dX5_fits_15 : decode cX5_fits 15 = .ok (.if_icmp .ge 48, 3) := by decide +kernel
theorem dX5_fits_18 : decode cX5_fits 18 = .ok (.aload_n 3, 1) := by decide +kernel
theorem dX5_fits_19 : decode cX5_fits 19 = .ok (.iload 4, 2) := by decide +kernel
theorem dX5_fits_21 : decode cX5_fits 21 = .ok (.aload_n 2, 1) := by decide +kernel
theorem dX5_fits_22 : decode cX5_fits 22 = .ok (.iload_n 1, 1) := by decide +kernel
theorem dX5_fits_23 : decode cX5_fits 23 = .ok (.aload_n 0, 1) := by decide +kernel
theorem dX5_fits_24 : decode cX5_fits 24 = .ok (.getfield 21, 3) := by decide +kernel
theorem dX5_fits_27 : decode cX5_fits 27 = .ok (.invokevirtual 37, 3) := by decide +kernel
theorem dX5_fits_30 : decode cX5_fits 30 = .ok (.aload_n 0, 1) := by decide +kernel
theorem dX5_fits_31 : decode cX5_fits 31 = .ok (.getfield 21, 3) := by decide +kernel
theorem dX5_fits_34 : decode cX5_fits 34 = .ok (.invokevirtual 43, 3) := by decide +kernel
theorem dX5_fits_37 : decode cX5_fits 37 = .ok (.aload_n 0, 1) := by decide +kernel
theorem dX5_fits_38 : decode cX5_fits 38 = .ok (.iload 4, 2) := by decide +kernel
theorem dX5_fits_40 : decode cX5_fits 40 = .ok (.iconst 1, 1) := by decide +kernel
theorem dX5_fits_41 : decode cX5_fits 41 = .ok (.iadd, 1) := by decide +kernel
theorem dX5_fits_42 : decode cX5_fits 42 = .ok (.aload_n 0, 1) := by decide +kernel
theorem dX5_fits_43 : decode cX5_fits 43 = .ok (.getfield 21, 3) := by decide +kernel
theorem dX5_fits_46 : decode cX5_fits 46 = .ok (.invokevirtual 46, 3) := by decide +kernel
theorem dX5_fits_49 : decode cX5_fits 49 = .ok (.invokevirtual 50, 3) := by decide +kernel
theorem dX5_fits_52 : decode cX5_fits 52 = .ok (.ifCond .ne 5, 3) := by decide +kernel
theorem dX5_fits_55 : decode cX5_fits 55 = .ok (.iconst 0, 1) := by decide +kernel
theorem dX5_fits_56 : decode cX5_fits 56 = .ok (.ireturn, 1) := by decide +kernel
theorem dX5_fits_57 : decode cX5_fits 57 = .ok (.iinc 4 1, 3) := by decide +kernel
theorem dX5_fits_60 : decode cX5_fits 60 = .ok (.goto (-49), 3) := by decide +kernel
theorem dX5_fits_63 : decode cX5_fits 63 = .ok (.iconst 1, 1) := by decide +kernel
theorem dX5_fits_64 : decode cX5_fits 64 = .ok (.ireturn, 1) := by decide +kernel
theorem dX5_agrees_0 : decode cX5_agrees 0 = .ok (.iconst 0, 1) := by decide +kernel
theorem dX5_agrees_1 : decode cX5_agrees 1 = .ok (.istore_n 3, 1) := by decide +kernel
theorem dX5_agrees_2 : decode cX5_agrees 2 = .ok (.iload_n 3, 1) := by decide +kernel
theorem dX5_agrees_3 : decode cX5_agrees 3 = .ok (.aload_n 0, 1) := by decide +kernel
theorem dX5_agrees_4 : decode cX5_agrees 4 = .ok (.getfield 25, 3) := by decide +kernel
theorem dX5_agrees_7 : decode cX5_agrees 7 = .ok (.if_icmp .ge 31, 3) := by decide +kernel
theorem dX5_agrees_10 : decode cX5_agrees 10 = .ok (.aload_n 0, 1) := by decide +kernel
theorem dX5_agrees_11 : decode cX5_agrees 11 = .ok (.getfield 9, 3) := by decide +kernel
theorem dX5_agrees_14 : decode cX5_agrees 14 = .ok (.iload_n 3, 1) := by decide +kernel
theorem dX5_agrees_15 : decode cX5_agrees 15 = .ok (.iaload, 1) := by decide +kernel
theorem dX5_agrees_16 : decode cX5_agrees 16 = .ok (.iload_n 1, 1) := by decide +kernel
theorem dX5_agrees_17 : decode cX5_agrees 17 = .ok (.if_icmp .ne 15, 3) := by decide +kernel
theorem dX5_agrees_20 : decode cX5_agrees 20 = .ok (.aload_n 0, 1) := by decide +kernel
theorem dX5_agrees_21 : decode cX5_agrees 21 = .ok (.getfield 15, 3) := by decide +kernel
theorem dX5_agrees_24 : decode cX5_agrees 24 = .ok (.iload_n 3, 1) := by decide +kernel
theorem dX5_agrees_25 : decode cX5_agrees 25 = .ok (.iaload, 1) := by decide +kernel
theorem dX5_agrees_26 : decode cX5_agrees 26 = .ok (.iload_n 2, 1) := by decide +kernel
theorem dX5_agrees_27 : decode cX5_agrees 27 = .ok (.if_icmp .eq 5, 3) := by decide +kernel
theorem dX5_agrees_30 : decode cX5_agrees 30 = .ok (.iconst 0, 1) := by decide +kernel
theorem dX5_agrees_31 : decode cX5_agrees 31 = .ok (.ireturn, 1) := by decide +kernel
theorem dX5_agrees_32 : decode cX5_agrees 32 = .ok (.iinc 3 1, 3) := by decide +kernel
theorem dX5_agrees_35 : decode cX5_agrees 35 = .ok (.goto (-33), 3) := by decide +kernel
theorem dX5_agrees_38 : decode cX5_agrees 38 = .ok (.iconst 1, 1) := by decide +kernel
theorem dX5_agrees_39 : decode cX5_agrees 39 = .ok (.ireturn, 1) := by decide +kernel
theorem dX6_init_0 : decode cX6_init 0 = .ok (.aload_n 0, 1) := by decide +kernel
theorem dX6_init_1 : decode cX6_init 1 = .ok (.invokespecial 3, 3) := by decide +kernel
theorem dX6_init_4 : decode cX6_init 4 = .ok (.aload_n 0, 1) := by decide +kernel
theorem dX6_init_5 : decode cX6_init 5 = .ok (.bipush 6, 2) := by decide +kernel
theorem dX6_init_7 : decode cX6_init 7 = .ok (.newarray .int, 2) := by decide +kernel
theorem dX6_init_9 : decode cX6_init 9 = .ok (.putfield 9, 3) := by decide +kernel
theorem dX6_init_12 : decode cX6_init 12 = .ok (.return_, 1) := by decide +kernel
set_option maxRecDepth 20000 in
theorem ggX6_begin_X2_relatives : GoodIn wsX6_begin wsX2_relatives := goodIn_r _ [14, 15, 30, 31, 32, 33, 34, 35, 36, 37, 38] (by decide +kernel) (by decide +kernel)
set_option maxRecDepth 20000 in
theorem gX6_begin_X2_relatives : GoodIn wsX6_begin (wsV RX6 15 RX2 yX2_relatives wsX2_relatives) := goodIn_app (goodIn_of _ (by decide +kernel)) ggX6_begin_X2_relatives
set_option maxRecDepth 20000 in
theorem ggX6_begin_X2_ago : GoodIn wsX6_begin wsX2_ago := goodIn_r _ [19, 20, 21, 22, 23, 13, 24, 15, 30, 31, 32, 33, 34, 35, 36, 37, 38] (by decide +kernel) (by decide +kernel)
set_option maxRecDepth 20000 in
theorem gX6_begin_X2_ago : GoodIn wsX6_begin (wsV RX6 30 RX2 yX2_ago wsX2_ago) := goodIn_app (goodIn_of _ (by decide +kernel)) ggX6_begin_X2_ago
theorem dX6_begin_0 : decode cX6_begin 0 = .ok (.aload_n 0, 1) := by decide +kernel
theorem dX6_begin_1 : decode cX6_begin 1 = .ok (.aload_n 1, 1) := by decide +kernel
theorem dX6_begin_2 : decode cX6_begin 2 = .ok (.invokevirtual 15, 3) := by decide +kernel
theorem dX6_begin_5 : decode cX6_begin 5 = .ok (.bipush 6, 2) := by decide +kernel
theorem dX6_begin_7 : decode cX6_begin 7 = .ok (.invokestatic 21, 3) := by decide +kernel
theorem dX6_begin_10 : decode cX6_begin 10 = .ok (.putfield 27, 3) := by decide +kernel
theorem dX6_begin_13 : decode cX6_begin 13 = .ok (.iconst 0, 1) := by decide +kernel
theorem dX6_begin_14 : decode cX6_begin 14 = .ok (.istore_n 2, 1) := by decide +kernel
theorem dX6_begin_15 : decode cX6_begin 15 = .ok (.iload_n 2, 1) := by decide +kernel
theorem dX6_begin_16 : decode cX6_begin 16 = .ok (.aload_n 0, 1) := by decide +kernel
theorem dX6_begin_17 : decode cX6_begin 17 = .ok (.getfield 27, 3) := by decide +kernel
theorem dX6_begin_20 : decode cX6_begin 20 = .ok (.if_icmp .ge 21, 3) := by decide +kernel
theorem dX6_begin_23 : decode cX6_begin 23 = .ok (.aload_n 0, 1) := by decide +kernel
theorem dX6_begin_24 : decode cX6_begin 24 = .ok (.getfield 9, 3) := by decide +kernel
theorem dX6_begin_27 : decode cX6_begin 27 = .ok (.iload_n 2, 1) := by decide +kernel
theorem dX6_begin_28 : decode cX6_begin 28 = .ok (.aload_n 1, 1) := by decide +kernel
theorem dX6_begin_29 : decode cX6_begin 29 = .ok (.iload_n 2, 1) := by decide +kernel
theorem dX6_begin_30 : decode cX6_begin 30 = .ok (.invokevirtual 30, 3) := by decide +kernel
theorem dX6_begin_33 : decode cX6_begin 33 = .ok (.ineg, 1) := by decide +kernel
theorem dX6_begin_34 : decode cX6_begin 34 = .ok (.iastore, 1) := by decide +kernel
theorem dX6_begin_35 : decode cX6_begin 35 = .ok (.iinc 2 1, 3) := by decide +kernel
theorem dX6_begin_38 : decode cX6_begin 38 = .ok (.goto (-23), 3) := by decide +kernel
theorem dX6_begin_41 : decode cX6_begin 41 = .ok (.aload_n 0, 1) := by decide +kernel
theorem dX6_begin_42 : decode cX6_begin 42 = .ok (.iconst 0, 1) := by decide +kernel
theorem dX6_begin_43 : decode cX6_begin 43 = .ok (.putfield 34, 3) := by decide +kernel
theorem dX6_begin_46 : decode cX6_begin 46 = .ok (.aload_n 0, 1) := by decide +kernel
theorem dX6_begin_47 : decode cX6_begin 47 = .ok (.iconst 0, 1) := by decide +kernel
theorem dX6_begin_48 : decode cX6_begin 48 = .ok (.putfield 37, 3) := by decide +kernel
theorem dX6_begin_51 : decode cX6_begin 51 = .ok (.aload_n 0, 1) := by decide +kernel
theorem dX6_begin_52 : decode cX6_begin 52 = .ok (.bipush (-4), 2) := by decide +kernel
theorem dX6_begin_54 : decode cX6_begin 54 = .ok (.putfield 41, 3) := by decide +kernel
theorem dX6_begin_57 : decode cX6_begin 57 = .ok (.return_, 1) := by decide +kernel
theorem dX6_copy_0 : decode cX6_copy 0 = .ok (.aload_n 1, 1) := by decide +kernel
theorem dX6_copy_1 : decode cX6_copy 1 = .ok (.getfield 9, 3) := by decide +kernel
theorem dX6_copy_4 : decode cX6_copy 4 = .ok (.iconst 0, 1) := by decide +kernel
theorem dX6_copy_5 : decode cX6_copy 5 = .ok (.aload_n 0, 1) := by decide +kernel
theorem dX6_copy_6 : decode cX6_copy 6 = .ok (.getfield 9, 3) := by decide +kernel
theorem dX6_copy_9 : decode cX6_copy 9 = .ok (.iconst 0, 1) := by decide +kernel
theorem dX6_copy_10 : decode cX6_copy 10 = .ok (.bipush 6, 2) := by decide +kernel
theorem dX6_copy_12 : decode cX6_copy 12 = .ok (.invokestatic 44, 3) := by decide +kernel
theorem dX6_copy_15 : decode cX6_copy 15 = .ok (.aload_n 0, 1) := by decide +kernel
theorem dX6_copy_16 : decode cX6_copy 16 = .ok (.aload_n 1, 1) := by decide +kernel
theorem dX6_copy_17 : decode cX6_copy 17 = .ok (.getfield 27, 3) := by decide +kernel
theorem dX6_copy_20 : decode cX6_copy 20 = .ok (.putfield 27, 3) := by decide +kernel
theorem dX6_copy_23 : decode cX6_copy 23 = .ok (.aload_n 0, 1) := by decide +kernel
theorem dX6_copy_24 : decode cX6_copy 24 = .ok (.aload_n 1, 1) := by decide +kernel
theorem dX6_copy_25 : decode cX6_copy 25 = .ok (.getfield 34, 3) := by decide +kernel
theorem dX6_copy_28 : decode cX6_copy 28 = .ok (.putfield 34, 3) := by decide +kernel
theorem dX6_copy_31 : decode cX6_copy 31 = .ok (.aload_n 0, 1) := by decide +kernel
theorem dX6_copy_32 : decode cX6_copy 32 = .ok (.aload_n 1, 1) := by decide +kernel
theorem dX6_copy_33 : decode cX6_copy 33 = .ok (.getfield 37, 3) := by decide +kernel
theorem dX6_copy_36 : decode cX6_copy 36 = .ok (.putfield 37, 3) := by decide +kernel
theorem dX6_copy_39 : decode cX6_copy 39 = .ok (.aload_n 0, 1) := by decide +kernel
theorem dX6_copy_40 : decode cX6_copy 40 = .ok (.aload_n 1, 1) := by decide +kernel
theorem dX6_copy_41 : decode cX6_copy 41 = .ok (.getfield 41, 3) := by decide +kernel
theorem dX6_copy_44 : decode cX6_copy 44 = .ok (.putfield 41, 3) := by decide +kernel
theorem dX6_copy_47 : decode cX6_copy 47 = .ok (.return_, 1) := by decide +kernel
theorem dX6_relatives_0 : decode cX6_relatives 0 = .ok (.aload_n 0, 1) := by decide +kernel
theorem dX6_relatives_1 : decode cX6_relatives 1 = .ok (.getfield 27, 3) := by decide +kernel
theorem dX6_relatives_4 : decode cX6_relatives 4 = .ok (.ireturn, 1) := by decide +kernel
theorem dX6_day_0 : decode cX6_day 0 = .ok (.aload_n 0, 1) := by decide +kernel
theorem dX6_day_1 : decode cX6_day 1 = .ok (.getfield 34, 3) := by decide +kernel
theorem dX6_day_4 : decode cX6_day 4 = .ok (.ireturn, 1) := by decide +kernel
theorem dX6_owner_0 : decode cX6_owner 0 = .ok (.aload_n 0, 1) := by decide +kernel
theorem dX6_owner_1 : decode cX6_owner 1 = .ok (.getfield 41, 3) := by decide +kernel
theorem dX6_owner_4 : decode cX6_owner 4 = .ok (.ireturn, 1) := by decide +kernel
theorem dX6_ago_0 : decode cX6_ago 0 = .ok (.iload_n 1, 1) := by decide +kernel
theorem dX6_ago_1 : decode cX6_ago 1 = .ok (.ifCond .lt 25, 3) := by decide +kernel
theorem dX6_ago_4 : decode cX6_ago 4 = .ok (.iload_n 1, 1) := by decide +kernel
theorem dX6_ago_5 : decode cX6_ago 5 = .ok (.aload_n 0, 1) := by decide +kernel
theorem dX6_ago_6 : decode cX6_ago 6 = .ok (.getfield 27, 3) := by decide +kernel
theorem dX6_ago_9 : decode cX6_ago 9 = .ok (.if_icmp .ge 17, 3) := by decide +kernel
theorem dX6_ago_12 : decode cX6_ago 12 = .ok (.aload_n 0, 1) := by decide +kernel
theorem dX6_ago_13 : decode cX6_ago 13 = .ok (.getfield 34, 3) := by decide +kernel
theorem dX6_ago_16 : decode cX6_ago 16 = .ok (.aload_n 0, 1) := by decide +kernel
theorem dX6_ago_17 : decode cX6_ago 17 = .ok (.getfield 9, 3) := by decide +kernel
theorem dX6_ago_20 : decode cX6_ago 20 = .ok (.iload_n 1, 1) := by decide +kernel
theorem dX6_ago_21 : decode cX6_ago 21 = .ok (.iaload, 1) := by decide +kernel
theorem dX6_ago_22 : decode cX6_ago 22 = .ok (.isub, 1) := by decide +kernel
theorem dX6_ago_23 : decode cX6_ago 23 = .ok (.goto 4, 3) := by decide +kernel
theorem dX6_ago_26 : decode cX6_ago 26 = .ok (.iconst 0, 1) := by decide +kernel
theorem dX6_ago_27 : decode cX6_ago 27 = .ok (.ireturn, 1) := by decide +kernel
theorem dX6_ask_0 : decode cX6_ask 0 = .ok (.iload_n 1, 1) := by decide +kernel
theorem dX6_ask_1 : decode cX6_ask 1 = .ok (.ifCond .lt 26, 3) := by decide +kernel
theorem dX6_ask_4 : decode cX6_ask 4 = .ok (.iload_n 1, 1) := by decide +kernel
theorem dX6_ask_5 : decode cX6_ask 5 = .ok (.aload_n 0, 1) := by decide +kernel
theorem dX6_ask_6 : decode cX6_ask 6 = .ok (.getfield 27, 3) := by decide +kernel
theorem dX6_ask_9 : decode cX6_ask 9 = .ok (.if_icmp .ge 18, 3) := by decide +kernel
theorem dX6_ask_12 : decode cX6_ask 12 = .ok (.aload_n 0, 1) := by decide +kernel
theorem dX6_ask_13 : decode cX6_ask 13 = .ok (.getfield 9, 3) := by decide +kernel
theorem dX6_ask_16 : decode cX6_ask 16 = .ok (.iload_n 1, 1) := by decide +kernel
theorem dX6_ask_17 : decode cX6_ask 17 = .ok (.aload_n 0, 1) := by decide +kernel
theorem dX6_ask_18 : decode cX6_ask 18 = .ok (.getfield 34, 3) := by decide +kernel
theorem dX6_ask_21 : decode cX6_ask 21 = .ok (.iastore, 1) := by decide +kernel
theorem dX6_ask_22 : decode cX6_ask 22 = .ok (.aload_n 0, 1) := by decide +kernel
theorem dX6_ask_23 : decode cX6_ask 23 = .ok (.iconst 1, 1) := by decide +kernel
theorem dX6_ask_24 : decode cX6_ask 24 = .ok (.putfield 37, 3) := by decide +kernel
theorem dX6_ask_27 : decode cX6_ask 27 = .ok (.return_, 1) := by decide +kernel
set_option maxRecDepth 20000 in
theorem ggX6_passNoon_X6_longestIf : GoodIn wsX6_passNoon wsX6_longestIf := goodIn_r _ [8, 9, 10, 11, 12, 7, 13, 3, 14, 15, 16, 17, 18, 19] (by decide +kernel) (by decide +kernel)
set_option maxRecDepth 20000 in
theorem gX6_passNoon_X6_longestIf : GoodIn wsX6_passNoon (wsV RX6 50 RX6 yX6_longestIf wsX6_longestIf) := goodIn_app (goodIn_of _ (by decide +kernel)) ggX6_passNoon_X6_longestIf
theorem dX6_passNoon_0 : decode cX6_passNoon 0 = .ok (.aload_n 0, 1) := by decide +kernel
theorem dX6_passNoon_1 : decode cX6_passNoon 1 = .ok (.getfield 37, 3) := by decide +kernel
theorem dX6_passNoon_4 : decode cX6_passNoon 4 = .ok (.ifCond .eq 12, 3) := by decide +kernel
theorem dX6_passNoon_7 : decode cX6_passNoon 7 = .ok (.aload_n 0, 1) := by decide +kernel
theorem dX6_passNoon_8 : decode cX6_passNoon 8 = .ok (.aload_n 0, 1) := by decide +kernel
theorem dX6_passNoon_9 : decode cX6_passNoon 9 = .ok (.iconst 0, 1) := by decide +kernel
theorem dX6_passNoon_10 : decode cX6_passNoon 10 = .ok (.invokevirtual 50, 3) := by decide +kernel
theorem dX6_passNoon_13 : decode cX6_passNoon 13 = .ok (.putfield 41, 3) := by decide +kernel
theorem dX6_passNoon_16 : decode cX6_passNoon 16 = .ok (.aload_n 0, 1) := by decide +kernel
theorem dX6_passNoon_17 : decode cX6_passNoon 17 = .ok (.iconst 0, 1) := by decide +kernel
theorem dX6_passNoon_18 : decode cX6_passNoon 18 = .ok (.putfield 37, 3) := by decide +kernel
theorem dX6_passNoon_21 : decode cX6_passNoon 21 = .ok (.aload_n 0, 1) := by decide +kernel
theorem dX6_passNoon_22 : decode cX6_passNoon 22 = .ok (.dup, 1) := by decide +kernel
theorem dX6_passNoon_23 : decode cX6_passNoon 23 = .ok (.getfield 34, 3) := by decide +kernel
theorem dX6_passNoon_26 : decode cX6_passNoon 26 = .ok (.iconst 1, 1) := by decide +kernel
theorem dX6_passNoon_27 : decode cX6_passNoon 27 = .ok (.iadd, 1) := by decide +kernel
theorem dX6_passNoon_28 : decode cX6_passNoon 28 = .ok (.putfield 34, 3) := by decide +kernel
theorem dX6_passNoon_31 : decode cX6_passNoon 31 = .ok (.return_, 1) := by decide +kernel
set_option maxRecDepth 20000 in
theorem ggX6_longestIf_X6_ago : GoodIn wsX6_longestIf wsX6_ago := goodIn_r _ [6, 1, 7, 8, 9, 10, 11, 12, 13] (by decide +kernel) (by decide +kernel)
set_option maxRecDepth 20000 in
theorem gX6_longestIf_X6_ago : GoodIn wsX6_longestIf (wsV RX6 53 RX6 yX6_ago wsX6_ago) := goodIn_app (goodIn_of _ (by decide +kernel)) ggX6_longestIf_X6_ago
theorem dX6_longestIf_0 : decode cX6_longestIf 0 = .ok (.iconst 0, 1) := by decide +kernel
theorem dX6_longestIf_1 : decode cX6_longestIf 1 = .ok (.istore_n 2, 1) := by decide +kernel
theorem dX6_longestIf_2 : decode cX6_longestIf 2 = .ok (.iconst (-1), 1) := by decide +kernel
theorem dX6_longestIf_3 : decode cX6_longestIf 3 = .ok (.istore_n 3, 1) := by decide +kernel
theorem dX6_longestIf_4 : decode cX6_longestIf 4 = .ok (.iconst 0, 1) := by decide +kernel
theorem dX6_longestIf_5 : decode cX6_longestIf 5 = .ok (.istore 4, 2) := by decide +kernel
theorem dX6_longestIf_7 : decode cX6_longestIf 7 = .ok (.iload 4, 2) := by decide +kernel
theorem dX6_longestIf_9 : decode cX6_longestIf 9 = .ok (.aload_n 0, 1) := by decide +kernel
theorem dX6_longestIf_10 : decode cX6_longestIf 10 = .ok (.getfield 27, 3) := by decide +kernel
theorem dX6_longestIf_13 : decode cX6_longestIf 13 = .ok (.if_icmp .ge 43, 3) := by decide +kernel
theorem dX6_longestIf_16 : decode cX6_longestIf 16 = .ok (.iload_n 1, 1) := by decide +kernel
theorem dX6_longestIf_17 : decode cX6_longestIf 17 = .ok (.iload 4, 2) := by decide +kernel
theorem dX6_longestIf_19 : decode cX6_longestIf 19 = .ok (.ishr, 1) := by decide +kernel
theorem dX6_longestIf_20 : decode cX6_longestIf 20 = .ok (.iconst 1, 1) := by decide +kernel
theorem dX6_longestIf_21 : decode cX6_longestIf 21 = .ok (.iand, 1) := by decide +kernel
theorem dX6_longestIf_22 : decode cX6_longestIf 22 = .ok (.iconst 1, 1) := by decide +kernel
theorem dX6_longestIf_23 : decode cX6_longestIf 23 = .ok (.if_icmp .ne 7, 3) := by decide +kernel
theorem dX6_longestIf_26 : decode cX6_longestIf 26 = .ok (.iconst 0, 1) := by decide +kernel
theorem dX6_longestIf_27 : decode cX6_longestIf 27 = .ok (.goto 9, 3) := by decide +kernel
theorem dX6_longestIf_30 : decode cX6_longestIf 30 = .ok (.aload_n 0, 1) := by decide +kernel
theorem dX6_longestIf_31 : decode cX6_longestIf 31 = .ok (.iload 4, 2) := by decide +kernel
theorem dX6_longestIf_33 : decode cX6_longestIf 33 = .ok (.invokevirtual 53, 3) := by decide +kernel
theorem dX6_longestIf_36 : decode cX6_longestIf 36 = .ok (.istore 5, 2) := by decide +kernel
theorem dX6_longestIf_38 : decode cX6_longestIf 38 = .ok (.iload 5, 2) := by decide +kernel
theorem dX6_longestIf_40 : decode cX6_longestIf 40 = .ok (.iload_n 3, 1) := by decide +kernel
theorem dX6_longestIf_41 : decode cX6_longestIf 41 = .ok (.if_icmp .le 9, 3) := by decide +kernel
theorem dX6_longestIf_44 : decode cX6_longestIf 44 = .ok (.iload 5, 2) := by decide +kernel
theorem dX6_longestIf_46 : decode cX6_longestIf 46 = .ok (.istore_n 3, 1) := by decide +kernel
theorem dX6_longestIf_47 : decode cX6_longestIf 47 = .ok (.iload 4, 2) := by decide +kernel
theorem dX6_longestIf_49 : decode cX6_longestIf 49 = .ok (.istore_n 2, 1) := by decide +kernel
theorem dX6_longestIf_50 : decode cX6_longestIf 50 = .ok (.iinc 4 1, 3) := by decide +kernel
theorem dX6_longestIf_53 : decode cX6_longestIf 53 = .ok (.goto (-46), 3) := by decide +kernel
theorem dX6_longestIf_56 : decode cX6_longestIf 56 = .ok (.iload_n 2, 1) := by decide +kernel
theorem dX6_longestIf_57 : decode cX6_longestIf 57 = .ok (.ireturn, 1) := by decide +kernel
set_option maxRecDepth 20000 in
theorem ggX6_heirs_X6_longestIf : GoodIn wsX6_heirs wsX6_longestIf := goodIn_r _ [6, 1, 7, 8, 9, 5, 10, 11, 12, 13, 14, 15, 16, 17] (by decide +kernel) (by decide +kernel)
set_option maxRecDepth 20000 in
theorem gX6_heirs_X6_longestIf : GoodIn wsX6_heirs (wsV RX6 50 RX6 yX6_longestIf wsX6_longestIf) := goodIn_app (goodIn_of _ (by decide +kernel)) ggX6_heirs_X6_longestIf
theorem dX6_heirs_0 : decode cX6_heirs 0 = .ok (.iconst 0, 1) := by decide +kernel
theorem dX6_heirs_1 : decode cX6_heirs 1 = .ok (.istore_n 1, 1) := by decide +kernel
theorem dX6_heirs_2 : decode cX6_heirs 2 = .ok (.iconst 0, 1) := by decide +kernel
theorem dX6_heirs_3 : decode cX6_heirs 3 = .ok (.istore_n 2, 1) := by decide +kernel
theorem dX6_heirs_4 : decode cX6_heirs 4 = .ok (.iload_n 2, 1) := by decide +kernel
theorem dX6_heirs_5 : decode cX6_heirs 5 = .ok (.aload_n 0, 1) := by decide +kernel
theorem dX6_heirs_6 : decode cX6_heirs 6 = .ok (.getfield 27, 3) := by decide +kernel
theorem dX6_heirs_9 : decode cX6_heirs 9 = .ok (.if_icmp .ge 21, 3) := by decide +kernel
theorem dX6_heirs_12 : decode cX6_heirs 12 = .ok (.iload_n 1, 1) := by decide +kernel
theorem dX6_heirs_13 : decode cX6_heirs 13 = .ok (.iconst 1, 1) := by decide +kernel
theorem dX6_heirs_14 : decode cX6_heirs 14 = .ok (.aload_n 0, 1) := by decide +kernel
theorem dX6_heirs_15 : decode cX6_heirs 15 = .ok (.iconst 1, 1) := by decide +kernel
theorem dX6_heirs_16 : decode cX6_heirs 16 = .ok (.iload_n 2, 1) := by decide +kernel
theorem dX6_heirs_17 : decode cX6_heirs 17 = .ok (.ishl, 1) := by decide +kernel
theorem dX6_heirs_18 : decode cX6_heirs 18 = .ok (.invokevirtual 50, 3) := by decide +kernel
theorem dX6_heirs_21 : decode cX6_heirs 21 = .ok (.ishl, 1) := by decide +kernel
theorem dX6_heirs_22 : decode cX6_heirs 22 = .ok (.ior, 1) := by decide +kernel
theorem dX6_heirs_23 : decode cX6_heirs 23 = .ok (.istore_n 1, 1) := by decide +kernel
theorem dX6_heirs_24 : decode cX6_heirs 24 = .ok (.iinc 2 1, 3) := by decide +kernel
theorem dX6_heirs_27 : decode cX6_heirs 27 = .ok (.goto (-23), 3) := by decide +kernel
theorem dX6_heirs_30 : decode cX6_heirs 30 = .ok (.iload_n 1, 1) := by decide +kernel
theorem dX6_heirs_31 : decode cX6_heirs 31 = .ok (.ireturn, 1) := by decide +kernel
set_option maxRecDepth 20000 in
theorem ggX6_fewestFor_J6_bitCount_0f7a4 : GoodIn wsX6_fewestFor wsJ6_bitCount_0f7a4 := goodIn_r _ [6, 7, 8, 9] (by decide +kernel) (by decide +kernel)
set_option maxRecDepth 20000 in
theorem gX6_fewestFor_J6_bitCount_0f7a4 : GoodIn wsX6_fewestFor (va_wsS RX6 54 yJ6_bitCount_0f7a4 wsJ6_bitCount_0f7a4) := goodIn_app (goodIn_of _ (by decide +kernel)) ggX6_fewestFor_J6_bitCount_0f7a4
set_option maxRecDepth 20000 in
theorem ggX6_fewestFor_X6_longestIf : GoodIn wsX6_fewestFor wsX6_longestIf := goodIn_r _ [14, 1, 15, 16, 17, 13, 18, 19, 20, 21, 22, 23, 24, 25] (by decide +kernel) (by decide +kernel)
set_option maxRecDepth 20000 in
theorem gX6_fewestFor_X6_longestIf : GoodIn wsX6_fewestFor (wsV RX6 50 RX6 yX6_longestIf wsX6_longestIf) := goodIn_app (goodIn_of _ (by decide +kernel)) ggX6_fewestFor_X6_longestIf
theorem dX6_fewestFor_0 : decode cX6_fewestFor 0 = .ok (.bipush (-4), 2) := by decide +kernel
theorem dX6_fewestFor_2 : decode cX6_fewestFor 2 = .ok (.istore_n 2, 1) := by decide +kernel
theorem dX6_fewestFor_3 : decode cX6_fewestFor 3 = .ok (.iconst 0, 1) := by decide +kernel
theorem dX6_fewestFor_4 : decode cX6_fewestFor 4 = .ok (.istore_n 3, 1) := by decide +kernel
theorem dX6_fewestFor_5 : decode cX6_fewestFor 5 = .ok (.iload_n 3, 1) := by decide +kernel
theorem dX6_fewestFor_6 : decode cX6_fewestFor 6 = .ok (.iconst 1, 1) := by decide +kernel
theorem dX6_fewestFor_7 : decode cX6_fewestFor 7 = .ok (.aload_n 0, 1) := by decide +kernel
theorem dX6_fewestFor_8 : decode cX6_fewestFor 8 = .ok (.getfield 27, 3) := by decide +kernel
theorem dX6_fewestFor_11 : decode cX6_fewestFor 11 = .ok (.ishl, 1) := by decide +kernel
theorem dX6_fewestFor_12 : decode cX6_fewestFor 12 = .ok (.if_icmp .ge 78, 3) := by decide +kernel
theorem dX6_fewestFor_15 : decode cX6_fewestFor 15 = .ok (.iload_n 3, 1) := by decide +kernel
theorem dX6_fewestFor_16 : decode cX6_fewestFor 16 = .ok (.bipush 64, 2) := by decide +kernel
theorem dX6_fewestFor_18 : decode cX6_fewestFor 18 = .ok (.if_icmp .ge 72, 3) := by decide +kernel
theorem dX6_fewestFor_21 : decode cX6_fewestFor 21 = .ok (.aload_n 0, 1) := by decide +kernel
theorem dX6_fewestFor_22 : decode cX6_fewestFor 22 = .ok (.getfield 37, 3) := by decide +kernel
theorem dX6_fewestFor_25 : decode cX6_fewestFor 25 = .ok (.ifCond .ne 7, 3) := by decide +kernel
theorem dX6_fewestFor_28 : decode cX6_fewestFor 28 = .ok (.iload_n 3, 1) := by decide +kernel
theorem dX6_fewestFor_29 : decode cX6_fewestFor 29 = .ok (.ifCond .eq 7, 3) := by decide +kernel
theorem dX6_fewestFor_32 : decode cX6_fewestFor 32 = .ok (.iconst 1, 1) := by decide +kernel
theorem dX6_fewestFor_33 : decode cX6_fewestFor 33 = .ok (.goto 4, 3) := by decide +kernel
theorem dX6_fewestFor_36 : decode cX6_fewestFor 36 = .ok (.iconst 0, 1) := by decide +kernel
theorem dX6_fewestFor_37 : decode cX6_fewestFor 37 = .ok (.istore 4, 2) := by decide +kernel
theorem dX6_fewestFor_39 : decode cX6_fewestFor 39 = .ok (.iload_n 2, 1) := by decide +kernel
theorem dX6_fewestFor_40 : decode cX6_fewestFor 40 = .ok (.bipush (-4), 2) := by decide +kernel
theorem dX6_fewestFor_42 : decode cX6_fewestFor 42 = .ok (.if_icmp .eq 14, 3) := by decide +kernel
theorem dX6_fewestFor_45 : decode cX6_fewestFor 45 = .ok (.iload_n 3, 1) := by decide +kernel
theorem dX6_fewestFor_46 : decode cX6_fewestFor 46 = .ok (.invokestatic 54, 3) := by decide +kernel
theorem dX6_fewestFor_49 : decode cX6_fewestFor 49 = .ok (.iload_n 2, 1) := by decide +kernel
theorem dX6_fewestFor_50 : decode cX6_fewestFor 50 = .ok (.invokestatic 54, 3) := by decide +kernel
theorem dX6_fewestFor_53 : decode cX6_fewestFor 53 = .ok (.if_icmp .ge 7, 3) := by decide +kernel
theorem dX6_fewestFor_56 : decode cX6_fewestFor 56 = .ok (.iconst 1, 1) := by decide +kernel
theorem dX6_fewestFor_57 : decode cX6_fewestFor 57 = .ok (.goto 4, 3) := by decide +kernel
theorem dX6_fewestFor_60 : decode cX6_fewestFor 60 = .ok (.iconst 0, 1) := by decide +kernel
theorem dX6_fewestFor_61 : decode cX6_fewestFor 61 = .ok (.istore 5, 2) := by decide +kernel
theorem dX6_fewestFor_63 : decode cX6_fewestFor 63 = .ok (.iload 4, 2) := by decide +kernel
theorem dX6_fewestFor_65 : decode cX6_fewestFor 65 = .ok (.ifCond .eq 19, 3) := by decide +kernel
theorem dX6_fewestFor_68 : decode cX6_fewestFor 68 = .ok (.iload 5, 2) := by decide +kernel
theorem dX6_fewestFor_70 : decode cX6_fewestFor 70 = .ok (.ifCond .eq 14, 3) := by decide +kernel
theorem dX6_fewestFor_73 : decode cX6_fewestFor 73 = .ok (.aload_n 0, 1) := by decide +kernel
theorem dX6_fewestFor_74 : decode cX6_fewestFor 74 = .ok (.iload_n 3, 1) := by decide +kernel
theorem dX6_fewestFor_75 : decode cX6_fewestFor 75 = .ok (.invokevirtual 50, 3) := by decide +kernel
theorem dX6_fewestFor_78 : decode cX6_fewestFor 78 = .ok (.iload_n 1, 1) := by decide +kernel
theorem dX6_fewestFor_79 : decode cX6_fewestFor 79 = .ok (.if_icmp .ne 5, 3) := by decide +kernel
theorem dX6_fewestFor_82 : decode cX6_fewestFor 82 = .ok (.iload_n 3, 1) := by decide +kernel
theorem dX6_fewestFor_83 : decode cX6_fewestFor 83 = .ok (.istore_n 2, 1) := by decide +kernel
theorem dX6_fewestFor_84 : decode cX6_fewestFor 84 = .ok (.iinc 3 1, 3) := by decide +kernel
theorem dX6_fewestFor_87 : decode cX6_fewestFor 87 = .ok (.goto (-82), 3) := by decide +kernel
theorem dX6_fewestFor_90 : decode cX6_fewestFor 90 = .ok (.iload_n 2, 1) := by decide +kernel
theorem dX6_fewestFor_91 : decode cX6_fewestFor 91 = .ok (.ireturn, 1) := by decide +kernel
set_option maxRecDepth 20000 in
theorem ggX7_init_X6_init : GoodIn wsX7_init wsX6_init := goodIn_r _ [11, 12, 2, 3, 4, 13, 17, 18, 19, 20, 21] (by decide +kernel) (by decide +kernel)
set_option maxRecDepth 20000 in
theorem gX7_init_X6_init_n17 : GoodIn wsX7_init (wsX6_init) := ggX7_init_X6_init
theorem dX7_init_0 : decode cX7_init 0 = .ok (.aload_n 0, 1) := by decide +kernel
theorem dX7_init_1 : decode cX7_init 1 = .ok (.invokespecial 3, 3) := by decide +kernel
theorem dX7_init_4 : decode cX7_init 4 = .ok (.aload_n 0, 1) := by decide +kernel
theorem dX7_init_5 : decode cX7_init 5 = .ok (.bipush 64, 2) := by decide +kernel
theorem dX7_init_7 : decode cX7_init 7 = .ok (.newarray .int, 2) := by decide +kernel
theorem dX7_init_9 : decode cX7_init 9 = .ok (.putfield 9, 3) := by decide +kernel
theorem dX7_init_12 : decode cX7_init 12 = .ok (.aload_n 0, 1) := by decide +kernel
theorem dX7_init_13 : decode cX7_init 13 = .ok (.new 15, 3) := by decide +kernel
theorem dX7_init_16 : decode cX7_init 16 = .ok (.dup, 1) := by decide +kernel
theorem dX7_init_17 : decode cX7_init 17 = .ok (.invokespecial 17, 3) := by decide +kernel
theorem dX7_init_20 : decode cX7_init 20 = .ok (.putfield 18, 3) := by decide +kernel
theorem dX7_init_23 : decode cX7_init 23 = .ok (.return_, 1) := by decide +kernel
theorem dX7_owner_0 : decode cX7_owner 0 = .ok (.aload_n 0, 1) := by decide +kernel
theorem dX7_owner_1 : decode cX7_owner 1 = .ok (.getfield 9, 3) := by decide +kernel
theorem dX7_owner_4 : decode cX7_owner 4 = .ok (.iconst 0, 1) := by decide +kernel
theorem dX7_owner_5 : decode cX7_owner 5 = .ok (.iaload, 1) := by decide +kernel
theorem dX7_owner_6 : decode cX7_owner 6 = .ok (.ireturn, 1) := by decide +kernel
theorem dX7_firstAsks_0 : decode cX7_firstAsks 0 = .ok (.aload_n 0, 1) := by decide +kernel
theorem dX7_firstAsks_1 : decode cX7_firstAsks 1 = .ok (.getfield 22, 3) := by decide +kernel
theorem dX7_firstAsks_4 : decode cX7_firstAsks 4 = .ok (.ireturn, 1) := by decide +kernel
set_option maxRecDepth 20000 in
theorem ggX7_play_X6_relatives : GoodIn wsX7_play wsX6_relatives := goodIn_r _ [10, 11, 62, 63, 64, 65, 66] (by decide +kernel) (by decide +kernel)
set_option maxRecDepth 20000 in
theorem gX7_play_X6_relatives : GoodIn wsX7_play (wsV RX7 26 RX6 yX6_relatives wsX6_relatives) := goodIn_app (goodIn_of _ (by decide +kernel)) ggX7_play_X6_relatives
set_option maxRecDepth 20000 in
theorem ggX7_play_X7_endOf : GoodIn wsX7_play wsX7_endOf := goodIn_r _ [16, 17, 18, 19, 20, 9, 21, 22, 23, 24, 25, 26, 11, 27, 28, 29, 30, 31, 32, 33, 34, 35, 36, 37, 38, 39, 40, 41, 42, 43, 44, 45, 46, 47, 48, 49, 59, 60, 61, 62, 63, 64, 65, 66] (by decide +kernel) (by decide +kernel)
set_option maxRecDepth 20000 in
theorem gX7_play_X7_endOf : GoodIn wsX7_play (wsV RX7 36 RX7 yX7_endOf wsX7_endOf) := goodIn_app (goodIn_of _ (by decide +kernel)) ggX7_play_X7_endOf
set_option maxRecDepth 20000 in
theorem ggX7_play_X7_chooseOn : GoodIn wsX7_play wsX7_chooseOn := goodIn_r _ [53, 5, 54, 55, 56, 57, 15, 58, 59, 60, 61] (by decide +kernel) (by decide +kernel)
set_option maxRecDepth 20000 in
theorem gX7_play_X7_chooseOn : GoodIn wsX7_play (wsV RX7 40 RX7 yX7_chooseOn wsX7_chooseOn) := goodIn_app (goodIn_of _ (by decide +kernel)) ggX7_play_X7_chooseOn
theorem dX7_play_0 : decode cX7_play 0 = .ok (.iconst 1, 1) := by decide +kernel
theorem dX7_play_1 : decode cX7_play 1 = .ok (.aload_n 1, 1) := by decide +kernel
theorem dX7_play_2 : decode cX7_play 2 = .ok (.invokevirtual 26, 3) := by decide +kernel
theorem dX7_play_5 : decode cX7_play 5 = .ok (.invokestatic 30, 3) := by decide +kernel
theorem dX7_play_8 : decode cX7_play 8 = .ok (.istore_n 3, 1) := by decide +kernel
theorem dX7_play_9 : decode cX7_play 9 = .ok (.iconst 0, 1) := by decide +kernel
theorem dX7_play_10 : decode cX7_play 10 = .ok (.istore 4, 2) := by decide +kernel
theorem dX7_play_12 : decode cX7_play 12 = .ok (.iload 4, 2) := by decide +kernel
theorem dX7_play_14 : decode cX7_play 14 = .ok (.iconst 1, 1) := by decide +kernel
theorem dX7_play_15 : decode cX7_play 15 = .ok (.iload_n 2, 1) := by decide +kernel
theorem dX7_play_16 : decode cX7_play 16 = .ok (.ishl, 1) := by decide +kernel
theorem dX7_play_17 : decode cX7_play 17 = .ok (.if_icmp .ge 35, 3) := by decide +kernel
theorem dX7_play_20 : decode cX7_play 20 = .ok (.iload 4, 2) := by decide +kernel
theorem dX7_play_22 : decode cX7_play 22 = .ok (.aload_n 0, 1) := by decide +kernel
theorem dX7_play_23 : decode cX7_play 23 = .ok (.getfield 9, 3) := by decide +kernel
theorem dX7_play_26 : decode cX7_play 26 = .ok (.arraylength, 1) := by decide +kernel
theorem dX7_play_27 : decode cX7_play 27 = .ok (.if_icmp .ge 25, 3) := by decide +kernel
theorem dX7_play_30 : decode cX7_play 30 = .ok (.aload_n 0, 1) := by decide +kernel
theorem dX7_play_31 : decode cX7_play 31 = .ok (.getfield 9, 3) := by decide +kernel
theorem dX7_play_34 : decode cX7_play 34 = .ok (.iload 4, 2) := by decide +kernel
theorem dX7_play_36 : decode cX7_play 36 = .ok (.aload_n 0, 1) := by decide +kernel
theorem dX7_play_37 : decode cX7_play 37 = .ok (.iload 4, 2) := by decide +kernel
theorem dX7_play_39 : decode cX7_play 39 = .ok (.aload_n 1, 1) := by decide +kernel
theorem dX7_play_40 : decode cX7_play 40 = .ok (.iload_n 2, 1) := by decide +kernel
theorem dX7_play_41 : decode cX7_play 41 = .ok (.iload_n 3, 1) := by decide +kernel
theorem dX7_play_42 : decode cX7_play 42 = .ok (.invokevirtual 36, 3) := by decide +kernel
theorem dX7_play_45 : decode cX7_play 45 = .ok (.iastore, 1) := by decide +kernel
theorem dX7_play_46 : decode cX7_play 46 = .ok (.iinc 4 1, 3) := by decide +kernel
theorem dX7_play_49 : decode cX7_play 49 = .ok (.goto (-37), 3) := by decide +kernel
theorem dX7_play_52 : decode cX7_play 52 = .ok (.iload_n 2, 1) := by decide +kernel
theorem dX7_play_53 : decode cX7_play 53 = .ok (.iconst 1, 1) := by decide +kernel
theorem dX7_play_54 : decode cX7_play 54 = .ok (.isub, 1) := by decide +kernel
theorem dX7_play_55 : decode cX7_play 55 = .ok (.istore 4, 2) := by decide +kernel
theorem dX7_play_57 : decode cX7_play 57 = .ok (.iload 4, 2) := by decide +kernel
theorem dX7_play_59 : decode cX7_play 59 = .ok (.ifCond .lt 19, 3) := by decide +kernel
theorem dX7_play_62 : decode cX7_play 62 = .ok (.aload_n 0, 1) := by decide +kernel
theorem dX7_play_63 : decode cX7_play 63 = .ok (.iload 4, 2) := by decide +kernel
theorem dX7_play_65 : decode cX7_play 65 = .ok (.iload 4, 2) := by decide +kernel
theorem dX7_play_67 : decode cX7_play 67 = .ok (.iload_n 3, 1) := by decide +kernel
theorem dX7_play_68 : decode cX7_play 68 = .ok (.irem, 1) := by decide +kernel
theorem dX7_play_69 : decode cX7_play 69 = .ok (.invokevirtual 40, 3) := by decide +kernel
theorem dX7_play_72 : decode cX7_play 72 = .ok (.iinc 4 (-1), 3) := by decide +kernel
theorem dX7_play_75 : decode cX7_play 75 = .ok (.goto (-18), 3) := by decide +kernel
theorem dX7_play_78 : decode cX7_play 78 = .ok (.return_, 1) := by decide +kernel
set_option maxRecDepth 20000 in
theorem ggX7_endOf_X6_copy : GoodIn wsX7_endOf wsX6_copy := goodIn_r _ [6, 7, 8, 9, 10, 11, 12, 13, 14, 15, 39, 40, 41, 42, 43] (by decide +kernel) (by decide +kernel)
set_option maxRecDepth 20000 in
theorem gX7_endOf_X6_copy : GoodIn wsX7_endOf (wsV RX7 44 RX6 yX6_copy wsX6_copy) := goodIn_app (goodIn_of _ (by decide +kernel)) ggX7_endOf_X6_copy
set_option maxRecDepth 20000 in
theorem ggX7_endOf_X6_ask : GoodIn wsX7_endOf wsX6_ask := goodIn_r _ [19, 12, 7, 13, 14, 39, 40, 41, 42, 43] (by decide +kernel) (by decide +kernel)
set_option maxRecDepth 20000 in
theorem gX7_endOf_X6_ask : GoodIn wsX7_endOf (wsV RX7 48 RX6 yX6_ask wsX6_ask) := goodIn_app (goodIn_of _ (by decide +kernel)) ggX7_endOf_X6_ask
set_option maxRecDepth 20000 in
theorem ggX7_endOf_X6_passNoon : GoodIn wsX7_endOf wsX6_passNoon := goodIn_r _ [23, 14, 15, 13, 24, 25, 26, 5, 27, 12, 28, 29, 30, 31, 7, 39, 40, 41, 42, 43] (by decide +kernel) (by decide +kernel)
set_option maxRecDepth 20000 in
theorem gX7_endOf_X6_passNoon : GoodIn wsX7_endOf (wsV RX7 52 RX6 yX6_passNoon wsX6_passNoon) := goodIn_app (goodIn_of _ (by decide +kernel)) ggX7_endOf_X6_passNoon
set_option maxRecDepth 20000 in
theorem ggX7_endOf_X6_owner : GoodIn wsX7_endOf wsX6_owner := goodIn_r _ [35, 15, 39, 40, 41, 42, 43] (by decide +kernel) (by decide +kernel)
set_option maxRecDepth 20000 in
theorem gX7_endOf_X6_owner : GoodIn wsX7_endOf (wsV RX7 55 RX6 yX6_owner wsX6_owner) := goodIn_app (goodIn_of _ (by decide +kernel)) ggX7_endOf_X6_owner
theorem dX7_endOf_0 : decode cX7_endOf 0 = .ok (.aload_n 0, 1) := by decide +kernel
theorem dX7_endOf_1 : decode cX7_endOf 1 = .ok (.getfield 18, 3) := by decide +kernel
theorem dX7_endOf_4 : decode cX7_endOf 4 = .ok (.aload_n 2, 1) := by decide +kernel
theorem dX7_endOf_5 : decode cX7_endOf 5 = .ok (.invokevirtual 44, 3) := by decide +kernel
theorem dX7_endOf_8 : decode cX7_endOf 8 = .ok (.iconst 0, 1) := by decide +kernel
theorem dX7_endOf_9 : decode cX7_endOf 9 = .ok (.istore 5, 2) := by decide +kernel
theorem dX7_endOf_11 : decode cX7_endOf 11 = .ok (.iload 5, 2) := by decide +kernel
theorem dX7_endOf_13 : decode cX7_endOf 13 = .ok (.iload_n 3, 1) := by decide +kernel
theorem dX7_endOf_14 : decode cX7_endOf 14 = .ok (.if_icmp .ge 42, 3) := by decide +kernel
theorem dX7_endOf_17 : decode cX7_endOf 17 = .ok (.iload_n 1, 1) := by decide +kernel
theorem dX7_endOf_18 : decode cX7_endOf 18 = .ok (.iload_n 3, 1) := by decide +kernel
theorem dX7_endOf_19 : decode cX7_endOf 19 = .ok (.iconst 1, 1) := by decide +kernel
theorem dX7_endOf_20 : decode cX7_endOf 20 = .ok (.isub, 1) := by decide +kernel
theorem dX7_endOf_21 : decode cX7_endOf 21 = .ok (.iload 5, 2) := by decide +kernel
theorem dX7_endOf_23 : decode cX7_endOf 23 = .ok (.isub, 1) := by decide +kernel
theorem dX7_endOf_24 : decode cX7_endOf 24 = .ok (.ishr, 1) := by decide +kernel
theorem dX7_endOf_25 : decode cX7_endOf 25 = .ok (.iconst 1, 1) := by decide +kernel
theorem dX7_endOf_26 : decode cX7_endOf 26 = .ok (.iand, 1) := by decide +kernel
theorem dX7_endOf_27 : decode cX7_endOf 27 = .ok (.iconst 1, 1) := by decide +kernel
theorem dX7_endOf_28 : decode cX7_endOf 28 = .ok (.if_icmp .ne 15, 3) := by decide +kernel
theorem dX7_endOf_31 : decode cX7_endOf 31 = .ok (.aload_n 0, 1) := by decide +kernel
theorem dX7_endOf_32 : decode cX7_endOf 32 = .ok (.getfield 18, 3) := by decide +kernel
theorem dX7_endOf_35 : decode cX7_endOf 35 = .ok (.iload 5, 2) := by decide +kernel
theorem dX7_endOf_37 : decode cX7_endOf 37 = .ok (.iload 4, 2) := by decide +kernel
theorem dX7_endOf_39 : decode cX7_endOf 39 = .ok (.irem, 1) := by decide +kernel
theorem dX7_endOf_40 : decode cX7_endOf 40 = .ok (.invokevirtual 48, 3) := by decide +kernel
theorem dX7_endOf_43 : decode cX7_endOf 43 = .ok (.aload_n 0, 1) := by decide +kernel
theorem dX7_endOf_44 : decode cX7_endOf 44 = .ok (.getfield 18, 3) := by decide +kernel
theorem dX7_endOf_47 : decode cX7_endOf 47 = .ok (.invokevirtual 52, 3) := by decide +kernel
theorem dX7_endOf_50 : decode cX7_endOf 50 = .ok (.iinc 5 1, 3) := by decide +kernel
theorem dX7_endOf_53 : decode cX7_endOf 53 = .ok (.goto (-42), 3) := by decide +kernel
theorem dX7_endOf_56 : decode cX7_endOf 56 = .ok (.aload_n 0, 1) := by decide +kernel
theorem dX7_endOf_57 : decode cX7_endOf 57 = .ok (.getfield 18, 3) := by decide +kernel
theorem dX7_endOf_60 : decode cX7_endOf 60 = .ok (.invokevirtual 55, 3) := by decide +kernel
theorem dX7_endOf_63 : decode cX7_endOf 63 = .ok (.ireturn, 1) := by decide +kernel
set_option maxRecDepth 20000 in
theorem ggX7_chooseOn_X7_rank : GoodIn wsX7_chooseOn wsX7_rank := goodIn_r _ [7] (by decide +kernel) (by decide +kernel)
set_option maxRecDepth 20000 in
theorem gX7_chooseOn_X7_rank : GoodIn wsX7_chooseOn (wsV RX7 58 RX7 yX7_rank wsX7_rank) := goodIn_app (goodIn_of _ (by decide +kernel)) ggX7_chooseOn_X7_rank
theorem dX7_chooseOn_0 : decode cX7_chooseOn 0 = .ok (.iconst 0, 1) := by decide +kernel
theorem dX7_chooseOn_1 : decode cX7_chooseOn 1 = .ok (.istore_n 3, 1) := by decide +kernel
theorem dX7_chooseOn_2 : decode cX7_chooseOn 2 = .ok (.iload_n 3, 1) := by decide +kernel
theorem dX7_chooseOn_3 : decode cX7_chooseOn 3 = .ok (.iconst 1, 1) := by decide +kernel
theorem dX7_chooseOn_4 : decode cX7_chooseOn 4 = .ok (.iload_n 1, 1) := by decide +kernel
theorem dX7_chooseOn_5 : decode cX7_chooseOn 5 = .ok (.ishl, 1) := by decide +kernel
theorem dX7_chooseOn_6 : decode cX7_chooseOn 6 = .ok (.if_icmp .ge 90, 3) := by decide +kernel
theorem dX7_chooseOn_9 : decode cX7_chooseOn 9 = .ok (.iconst 2, 1) := by decide +kernel
theorem dX7_chooseOn_10 : decode cX7_chooseOn 10 = .ok (.iload_n 3, 1) := by decide +kernel
theorem dX7_chooseOn_11 : decode cX7_chooseOn 11 = .ok (.imul, 1) := by decide +kernel
theorem dX7_chooseOn_12 : decode cX7_chooseOn 12 = .ok (.iconst 1, 1) := by decide +kernel
theorem dX7_chooseOn_13 : decode cX7_chooseOn 13 = .ok (.iadd, 1) := by decide +kernel
theorem dX7_chooseOn_14 : decode cX7_chooseOn 14 = .ok (.aload_n 0, 1) := by decide +kernel
theorem dX7_chooseOn_15 : decode cX7_chooseOn 15 = .ok (.getfield 9, 3) := by decide +kernel
theorem dX7_chooseOn_18 : decode cX7_chooseOn 18 = .ok (.arraylength, 1) := by decide +kernel
theorem dX7_chooseOn_19 : decode cX7_chooseOn 19 = .ok (.if_icmp .ge 77, 3) := by decide +kernel
theorem dX7_chooseOn_22 : decode cX7_chooseOn 22 = .ok (.aload_n 0, 1) := by decide +kernel
theorem dX7_chooseOn_23 : decode cX7_chooseOn 23 = .ok (.getfield 9, 3) := by decide +kernel
theorem dX7_chooseOn_26 : decode cX7_chooseOn 26 = .ok (.iconst 2, 1) := by decide +kernel
theorem dX7_chooseOn_27 : decode cX7_chooseOn 27 = .ok (.iload_n 3, 1) := by decide +kernel
theorem dX7_chooseOn_28 : decode cX7_chooseOn 28 = .ok (.imul, 1) := by decide +kernel
theorem dX7_chooseOn_29 : decode cX7_chooseOn 29 = .ok (.iaload, 1) := by decide +kernel
theorem dX7_chooseOn_30 : decode cX7_chooseOn 30 = .ok (.istore 4, 2) := by decide +kernel
theorem dX7_chooseOn_32 : decode cX7_chooseOn 32 = .ok (.aload_n 0, 1) := by decide +kernel
theorem dX7_chooseOn_33 : decode cX7_chooseOn 33 = .ok (.getfield 9, 3) := by decide +kernel
theorem dX7_chooseOn_36 : decode cX7_chooseOn 36 = .ok (.iconst 2, 1) := by decide +kernel
theorem dX7_chooseOn_37 : decode cX7_chooseOn 37 = .ok (.iload_n 3, 1) := by decide +kernel
theorem dX7_chooseOn_38 : decode cX7_chooseOn 38 = .ok (.imul, 1) := by decide +kernel
theorem dX7_chooseOn_39 : decode cX7_chooseOn 39 = .ok (.iconst 1, 1) := by decide +kernel
theorem dX7_chooseOn_40 : decode cX7_chooseOn 40 = .ok (.iadd, 1) := by decide +kernel
theorem dX7_chooseOn_41 : decode cX7_chooseOn 41 = .ok (.iaload, 1) := by decide +kernel
theorem dX7_chooseOn_42 : decode cX7_chooseOn 42 = .ok (.istore 5, 2) := by decide +kernel
theorem dX7_chooseOn_44 : decode cX7_chooseOn 44 = .ok (.aload_n 0, 1) := by decide +kernel
theorem dX7_chooseOn_45 : decode cX7_chooseOn 45 = .ok (.aload_n 0, 1) := by decide +kernel
theorem dX7_chooseOn_46 : decode cX7_chooseOn 46 = .ok (.iload 5, 2) := by decide +kernel
theorem dX7_chooseOn_48 : decode cX7_chooseOn 48 = .ok (.iload_n 2, 1) := by decide +kernel
theorem dX7_chooseOn_49 : decode cX7_chooseOn 49 = .ok (.invokevirtual 58, 3) := by decide +kernel
theorem dX7_chooseOn_52 : decode cX7_chooseOn 52 = .ok (.aload_n 0, 1) := by decide +kernel
theorem dX7_chooseOn_53 : decode cX7_chooseOn 53 = .ok (.iload 4, 2) := by decide +kernel
theorem dX7_chooseOn_55 : decode cX7_chooseOn 55 = .ok (.iload_n 2, 1) := by decide +kernel
theorem dX7_chooseOn_56 : decode cX7_chooseOn 56 = .ok (.invokevirtual 58, 3) := by decide +kernel
theorem dX7_chooseOn_59 : decode cX7_chooseOn 59 = .ok (.if_icmp .le 7, 3) := by decide +kernel
theorem dX7_chooseOn_62 : decode cX7_chooseOn 62 = .ok (.iconst 1, 1) := by decide +kernel
theorem dX7_chooseOn_63 : decode cX7_chooseOn 63 = .ok (.goto 4, 3) := by decide +kernel
theorem dX7_chooseOn_66 : decode cX7_chooseOn 66 = .ok (.iconst 0, 1) := by decide +kernel
theorem dX7_chooseOn_67 : decode cX7_chooseOn 67 = .ok (.putfield 22, 3) := by decide +kernel
theorem dX7_chooseOn_70 : decode cX7_chooseOn 70 = .ok (.aload_n 0, 1) := by decide +kernel
theorem dX7_chooseOn_71 : decode cX7_chooseOn 71 = .ok (.getfield 9, 3) := by decide +kernel
theorem dX7_chooseOn_74 : decode cX7_chooseOn 74 = .ok (.iload_n 3, 1) := by decide +kernel
theorem dX7_chooseOn_75 : decode cX7_chooseOn 75 = .ok (.aload_n 0, 1) := by decide +kernel
theorem dX7_chooseOn_76 : decode cX7_chooseOn 76 = .ok (.getfield 22, 3) := by decide +kernel
theorem dX7_chooseOn_79 : decode cX7_chooseOn 79 = .ok (.ifCond .eq 8, 3) := by decide +kernel
theorem dX7_chooseOn_82 : decode cX7_chooseOn 82 = .ok (.iload 5, 2) := by decide +kernel
theorem dX7_chooseOn_84 : decode cX7_chooseOn 84 = .ok (.goto 5, 3) := by decide +kernel
theorem dX7_chooseOn_87 : decode cX7_chooseOn 87 = .ok (.iload 4, 2) := by decide +kernel
theorem dX7_chooseOn_89 : decode cX7_chooseOn 89 = .ok (.iastore, 1) := by decide +kernel
theorem dX7_chooseOn_90 : decode cX7_chooseOn 90 = .ok (.iinc 3 1, 3) := by decide +kernel
theorem dX7_chooseOn_93 : decode cX7_chooseOn 93 = .ok (.goto (-91), 3) := by decide +kernel
theorem dX7_chooseOn_96 : decode cX7_chooseOn 96 = .ok (.return_, 1) := by decide +kernel
theorem dX7_rank_0 : decode cX7_rank 0 = .ok (.iload_n 1, 1) := by decide +kernel
theorem dX7_rank_1 : decode cX7_rank 1 = .ok (.iload_n 2, 1) := by decide +kernel
theorem dX7_rank_2 : decode cX7_rank 2 = .ok (.if_icmp .ne 5, 3) := by decide +kernel
theorem dX7_rank_5 : decode cX7_rank 5 = .ok (.iconst 2, 1) := by decide +kernel
theorem dX7_rank_6 : decode cX7_rank 6 = .ok (.ireturn, 1) := by decide +kernel
theorem dX7_rank_7 : decode cX7_rank 7 = .ok (.iload_n 1, 1) := by decide +kernel
theorem dX7_rank_8 : decode cX7_rank 8 = .ok (.bipush (-4), 2) := by decide +kernel
theorem dX7_rank_10 : decode cX7_rank 10 = .ok (.if_icmp .eq 8, 3) := by decide +kernel
theorem dX7_rank_13 : decode cX7_rank 13 = .ok (.iload_n 1, 1) := by decide +kernel
theorem dX7_rank_14 : decode cX7_rank 14 = .ok (.iload_n 2, 1) := by decide +kernel
theorem dX7_rank_15 : decode cX7_rank 15 = .ok (.if_icmp .le 7, 3) := by decide +kernel
theorem dX7_rank_18 : decode cX7_rank 18 = .ok (.iconst 1, 1) := by decide +kernel
theorem dX7_rank_19 : decode cX7_rank 19 = .ok (.goto 4, 3) := by decide +kernel
theorem dX7_rank_22 : decode cX7_rank 22 = .ok (.iconst 0, 1) := by decide +kernel
theorem dX7_rank_23 : decode cX7_rank 23 = .ok (.ireturn, 1) := by decide +kernel
set_option maxRecDepth 20000 in
theorem ggX8_init_X6_init : GoodIn wsX8_init wsX6_init := goodIn_r _ [9, 10, 2, 3, 11, 12, 13, 14, 15, 16, 17] (by decide +kernel) (by decide +kernel)
set_option maxRecDepth 20000 in
theorem gX8_init_X6_init_n9 : GoodIn wsX8_init (wsX6_init) := ggX8_init_X6_init
theorem dX8_init_0 : decode cX8_init 0 = .ok (.aload_n 0, 1) := by decide +kernel
theorem dX8_init_1 : decode cX8_init 1 = .ok (.invokespecial 1, 3) := by decide +kernel
theorem dX8_init_4 : decode cX8_init 4 = .ok (.aload_n 0, 1) := by decide +kernel
theorem dX8_init_5 : decode cX8_init 5 = .ok (.new 7, 3) := by decide +kernel
theorem dX8_init_8 : decode cX8_init 8 = .ok (.dup, 1) := by decide +kernel
theorem dX8_init_9 : decode cX8_init 9 = .ok (.invokespecial 9, 3) := by decide +kernel
theorem dX8_init_12 : decode cX8_init 12 = .ok (.putfield 10, 3) := by decide +kernel
theorem dX8_init_15 : decode cX8_init 15 = .ok (.return_, 1) := by decide +kernel
set_option maxRecDepth 20000 in
theorem ggX8_owner_X6_owner : GoodIn wsX8_owner wsX6_owner := goodIn_r _ [6, 7, 10, 11, 12, 13, 14] (by decide +kernel) (by decide +kernel)
set_option maxRecDepth 20000 in
theorem gX8_owner_X6_owner : GoodIn wsX8_owner (wsV RX8 16 RX6 yX6_owner wsX6_owner) := goodIn_app (goodIn_of _ (by decide +kernel)) ggX8_owner_X6_owner
theorem dX8_owner_0 : decode cX8_owner 0 = .ok (.aload_n 0, 1) := by decide +kernel
theorem dX8_owner_1 : decode cX8_owner 1 = .ok (.getfield 10, 3) := by decide +kernel
theorem dX8_owner_4 : decode cX8_owner 4 = .ok (.invokevirtual 16, 3) := by decide +kernel
theorem dX8_owner_7 : decode cX8_owner 7 = .ok (.ireturn, 1) := by decide +kernel
theorem dX8_changes_0 : decode cX8_changes 0 = .ok (.aload_n 0, 1) := by decide +kernel
theorem dX8_changes_1 : decode cX8_changes 1 = .ok (.getfield 20, 3) := by decide +kernel
theorem dX8_changes_4 : decode cX8_changes 4 = .ok (.ireturn, 1) := by decide +kernel
set_option maxRecDepth 20000 in
theorem ggX8_play_X1_trust : GoodIn wsX8_play wsX1_trust := goodIn_r _ [7, 8, 109, 110, 111, 112, 113, 114, 115, 116] (by decide +kernel) (by decide +kernel)
set_option maxRecDepth 20000 in
theorem gX8_play_X1_trust : GoodIn wsX8_play (wsV RX8 24 RX1 yX1_trust wsX1_trust) := goodIn_app (goodIn_of _ (by decide +kernel)) ggX8_play_X1_trust
set_option maxRecDepth 20000 in
theorem ggX8_play_X6_copy : GoodIn wsX8_play wsX6_copy := goodIn_r _ [13, 14, 15, 16, 17, 18, 19, 20, 21, 22, 117, 118, 119, 120, 121] (by decide +kernel) (by decide +kernel)
set_option maxRecDepth 20000 in
theorem gX8_play_X6_copy : GoodIn wsX8_play (wsV RX8 30 RX6 yX6_copy wsX6_copy) := goodIn_app (goodIn_of _ (by decide +kernel)) ggX8_play_X6_copy
set_option maxRecDepth 20000 in
theorem ggX8_play_X1_deed : GoodIn wsX8_play wsX1_deed := goodIn_r _ [26, 27, 109, 110, 111, 112, 113, 114, 115, 116] (by decide +kernel) (by decide +kernel)
set_option maxRecDepth 20000 in
theorem gX8_play_X1_deed : GoodIn wsX8_play (wsV RX8 34 RX1 yX1_deed wsX1_deed) := goodIn_app (goodIn_of _ (by decide +kernel)) ggX8_play_X1_deed
set_option maxRecDepth 20000 in
theorem ggX8_play_X8_draw : GoodIn wsX8_play wsX8_draw := goodIn_r _ [32, 33, 34, 35, 36] (by decide +kernel) (by decide +kernel)
set_option maxRecDepth 20000 in
theorem gX8_play_X8_draw : GoodIn wsX8_play (wsV RX8 37 RX8 yX8_draw wsX8_draw) := goodIn_app (goodIn_of _ (by decide +kernel)) ggX8_play_X8_draw
set_option maxRecDepth 20000 in
theorem ggX8_play_X8_sayByDraw : GoodIn wsX8_play wsX8_sayByDraw := goodIn_r _ [40, 1, 41, 42, 43, 44, 45, 46, 47, 48, 49, 50, 51, 52, 53, 54, 55, 56, 57, 58, 59, 60, 61, 62, 63, 64, 65, 66, 67, 68, 69, 70, 71, 72, 73, 74, 75, 76, 77, 78, 79, 80, 81, 82, 83, 84, 85, 86, 87, 88, 89, 12, 90, 19, 14, 20, 21, 107, 108, 122, 123, 124, 125, 126, 127, 128, 129, 130, 117, 118, 119, 120, 121] (by decide +kernel) (by decide +kernel)
set_option maxRecDepth 20000 in
theorem gX8_play_X8_sayByDraw : GoodIn wsX8_play (wsV RX8 41 RX8 yX8_sayByDraw wsX8_sayByDraw) := goodIn_app (goodIn_of _ (by decide +kernel)) ggX8_play_X8_sayByDraw
set_option maxRecDepth 20000 in
theorem ggX8_play_X6_owner : GoodIn wsX8_play wsX6_owner := goodIn_r _ [94, 22, 117, 118, 119, 120, 121] (by decide +kernel) (by decide +kernel)
set_option maxRecDepth 20000 in
theorem gX8_play_X6_owner : GoodIn wsX8_play (wsV RX8 16 RX6 yX6_owner wsX6_owner) := goodIn_app (goodIn_of _ (by decide +kernel)) ggX8_play_X6_owner
set_option maxRecDepth 20000 in
theorem ggX8_play_X6_passNoon : GoodIn wsX8_play wsX6_passNoon := goodIn_r _ [98, 21, 22, 20, 99, 100, 101, 12, 102, 19, 103, 104, 105, 106, 14, 117, 118, 119, 120, 121] (by decide +kernel) (by decide +kernel)
set_option maxRecDepth 20000 in
theorem gX8_play_X6_passNoon : GoodIn wsX8_play (wsV RX8 45 RX6 yX6_passNoon wsX6_passNoon) := goodIn_app (goodIn_of _ (by decide +kernel)) ggX8_play_X6_passNoon
theorem dX8_play_0 : decode cX8_play 0 = .ok (.aload_n 0, 1) := by decide +kernel
theorem dX8_play_1 : decode cX8_play 1 = .ok (.getfield 10, 3) := by decide +kernel
theorem dX8_play_4 : decode cX8_play 4 = .ok (.aload_n 2, 1) := by decide +kernel
theorem dX8_play_5 : decode cX8_play 5 = .ok (.invokevirtual 24, 3) := by decide +kernel
theorem dX8_play_8 : decode cX8_play 8 = .ok (.invokevirtual 30, 3) := by decide +kernel
theorem dX8_play_11 : decode cX8_play 11 = .ok (.aload_n 0, 1) := by decide +kernel
theorem dX8_play_12 : decode cX8_play 12 = .ok (.iconst 0, 1) := by decide +kernel
theorem dX8_play_13 : decode cX8_play 13 = .ok (.putfield 20, 3) := by decide +kernel
theorem dX8_play_16 : decode cX8_play 16 = .ok (.iconst 0, 1) := by decide +kernel
theorem dX8_play_17 : decode cX8_play 17 = .ok (.istore 5, 2) := by decide +kernel
theorem dX8_play_19 : decode cX8_play 19 = .ok (.iload 5, 2) := by decide +kernel
theorem dX8_play_21 : decode cX8_play 21 = .ok (.iload 4, 2) := by decide +kernel
theorem dX8_play_23 : decode cX8_play 23 = .ok (.if_icmp .ge 63, 3) := by decide +kernel
theorem dX8_play_26 : decode cX8_play 26 = .ok (.aload_n 0, 1) := by decide +kernel
theorem dX8_play_27 : decode cX8_play 27 = .ok (.aload_n 1, 1) := by decide +kernel
theorem dX8_play_28 : decode cX8_play 28 = .ok (.aload_n 2, 1) := by decide +kernel
theorem dX8_play_29 : decode cX8_play 29 = .ok (.invokevirtual 34, 3) := by decide +kernel
theorem dX8_play_32 : decode cX8_play 32 = .ok (.aload_n 0, 1) := by decide +kernel
theorem dX8_play_33 : decode cX8_play 33 = .ok (.iload_n 3, 1) := by decide +kernel
theorem dX8_play_34 : decode cX8_play 34 = .ok (.iload 5, 2) := by decide +kernel
theorem dX8_play_36 : decode cX8_play 36 = .ok (.invokevirtual 37, 3) := by decide +kernel
theorem dX8_play_39 : decode cX8_play 39 = .ok (.invokevirtual 41, 3) := by decide +kernel
theorem dX8_play_42 : decode cX8_play 42 = .ok (.aload_n 0, 1) := by decide +kernel
theorem dX8_play_43 : decode cX8_play 43 = .ok (.getfield 10, 3) := by decide +kernel
theorem dX8_play_46 : decode cX8_play 46 = .ok (.invokevirtual 16, 3) := by decide +kernel
theorem dX8_play_49 : decode cX8_play 49 = .ok (.istore 6, 2) := by decide +kernel
theorem dX8_play_51 : decode cX8_play 51 = .ok (.aload_n 0, 1) := by decide +kernel
theorem dX8_play_52 : decode cX8_play 52 = .ok (.getfield 10, 3) := by decide +kernel
theorem dX8_play_55 : decode cX8_play 55 = .ok (.invokevirtual 45, 3) := by decide +kernel
theorem dX8_play_58 : decode cX8_play 58 = .ok (.aload_n 0, 1) := by decide +kernel
theorem dX8_play_59 : decode cX8_play 59 = .ok (.getfield 10, 3) := by decide +kernel
theorem dX8_play_62 : decode cX8_play 62 = .ok (.invokevirtual 16, 3) := by decide +kernel
theorem dX8_play_65 : decode cX8_play 65 = .ok (.iload 6, 2) := by decide +kernel
theorem dX8_play_67 : decode cX8_play 67 = .ok (.if_icmp .eq 13, 3) := by decide +kernel
theorem dX8_play_70 : decode cX8_play 70 = .ok (.aload_n 0, 1) := by decide +kernel
theorem dX8_play_71 : decode cX8_play 71 = .ok (.dup, 1) := by decide +kernel
theorem dX8_play_72 : decode cX8_play 72 = .ok (.getfield 20, 3) := by decide +kernel
theorem dX8_play_75 : decode cX8_play 75 = .ok (.iconst 1, 1) := by decide +kernel
theorem dX8_play_76 : decode cX8_play 76 = .ok (.iadd, 1) := by decide +kernel
theorem dX8_play_77 : decode cX8_play 77 = .ok (.putfield 20, 3) := by decide +kernel
theorem dX8_play_80 : decode cX8_play 80 = .ok (.iinc 5 1, 3) := by decide +kernel
theorem dX8_play_83 : decode cX8_play 83 = .ok (.goto (-64), 3) := by decide +kernel
theorem dX8_play_86 : decode cX8_play 86 = .ok (.return_, 1) := by decide +kernel
set_option maxRecDepth 20000 in
theorem ggX8_sayByDraw_X2_relatives : GoodIn wsX8_sayByDraw wsX2_relatives := goodIn_r _ [6, 7, 59, 60, 61, 62, 63, 64, 65, 66, 67] (by decide +kernel) (by decide +kernel)
set_option maxRecDepth 20000 in
theorem gX8_sayByDraw_X2_relatives : GoodIn wsX8_sayByDraw (wsV RX8 48 RX2 yX2_relatives wsX2_relatives) := goodIn_app (goodIn_of _ (by decide +kernel)) ggX8_sayByDraw_X2_relatives
set_option maxRecDepth 20000 in
theorem ggX8_sayByDraw_X2_sayings : GoodIn wsX8_sayByDraw wsX2_sayings := goodIn_r _ [11, 12, 59, 60, 61, 62, 63, 64, 65, 66, 67] (by decide +kernel) (by decide +kernel)
set_option maxRecDepth 20000 in
theorem gX8_sayByDraw_X2_sayings : GoodIn wsX8_sayByDraw (wsV RX8 53 RX2 yX2_sayings wsX2_sayings) := goodIn_app (goodIn_of _ (by decide +kernel)) ggX8_sayByDraw_X2_sayings
set_option maxRecDepth 20000 in
theorem ggX8_sayByDraw_X2_isAsking : GoodIn wsX8_sayByDraw wsX2_isAsking := goodIn_r _ [16, 17, 18, 19, 20, 5, 21, 22, 23, 24, 25, 26, 12, 27, 28, 29, 30, 31, 32, 33, 34, 35, 36, 37, 38, 39, 40, 7, 41, 42, 43, 44, 45, 46, 47, 59, 60, 61, 62, 63, 64, 65, 66, 67] (by decide +kernel) (by decide +kernel)
set_option maxRecDepth 20000 in
theorem gX8_sayByDraw_X2_isAsking : GoodIn wsX8_sayByDraw (wsV RX8 56 RX2 yX2_isAsking wsX2_isAsking) := goodIn_app (goodIn_of _ (by decide +kernel)) ggX8_sayByDraw_X2_isAsking
set_option maxRecDepth 20000 in
theorem ggX8_sayByDraw_X6_ask : GoodIn wsX8_sayByDraw wsX6_ask := goodIn_r _ [52, 53, 54, 55, 56, 68, 69, 70, 71, 72] (by decide +kernel) (by decide +kernel)
set_option maxRecDepth 20000 in
theorem gX8_sayByDraw_X6_ask : GoodIn wsX8_sayByDraw (wsV RX8 60 RX6 yX6_ask wsX6_ask) := goodIn_app (goodIn_of _ (by decide +kernel)) ggX8_sayByDraw_X6_ask
theorem dX8_sayByDraw_0 : decode cX8_sayByDraw 0 = .ok (.aload_n 1, 1) := by decide +kernel
theorem dX8_sayByDraw_1 : decode cX8_sayByDraw 1 = .ok (.invokevirtual 48, 3) := by decide +kernel
theorem dX8_sayByDraw_4 : decode cX8_sayByDraw 4 = .ok (.istore 4, 2) := by decide +kernel
theorem dX8_sayByDraw_6 : decode cX8_sayByDraw 6 = .ok (.aload_n 1, 1) := by decide +kernel
theorem dX8_sayByDraw_7 : decode cX8_sayByDraw 7 = .ok (.invokevirtual 53, 3) := by decide +kernel
theorem dX8_sayByDraw_10 : decode cX8_sayByDraw 10 = .ok (.istore 5, 2) := by decide +kernel
theorem dX8_sayByDraw_12 : decode cX8_sayByDraw 12 = .ok (.iload_n 3, 1) := by decide +kernel
theorem dX8_sayByDraw_13 : decode cX8_sayByDraw 13 = .ok (.bipush 64, 2) := by decide +kernel
theorem dX8_sayByDraw_15 : decode cX8_sayByDraw 15 = .ok (.idiv, 1) := by decide +kernel
theorem dX8_sayByDraw_16 : decode cX8_sayByDraw 16 = .ok (.iconst 3, 1) := by decide +kernel
theorem dX8_sayByDraw_17 : decode cX8_sayByDraw 17 = .ok (.irem, 1) := by decide +kernel
theorem dX8_sayByDraw_18 : decode cX8_sayByDraw 18 = .ok (.ifCond .ne 15, 3) := by decide +kernel
theorem dX8_sayByDraw_21 : decode cX8_sayByDraw 21 = .ok (.iload 4, 2) := by decide +kernel
theorem dX8_sayByDraw_23 : decode cX8_sayByDraw 23 = .ok (.iconst 1, 1) := by decide +kernel
theorem dX8_sayByDraw_24 : decode cX8_sayByDraw 24 = .ok (.if_icmp .lt 9, 3) := by decide +kernel
theorem dX8_sayByDraw_27 : decode cX8_sayByDraw 27 = .ok (.iload 5, 2) := by decide +kernel
theorem dX8_sayByDraw_29 : decode cX8_sayByDraw 29 = .ok (.iconst 1, 1) := by decide +kernel
theorem dX8_sayByDraw_30 : decode cX8_sayByDraw 30 = .ok (.if_icmp .ge 4, 3) := by decide +kernel
theorem dX8_sayByDraw_33 : decode cX8_sayByDraw 33 = .ok (.return_, 1) := by decide +kernel
theorem dX8_sayByDraw_34 : decode cX8_sayByDraw 34 = .ok (.iload_n 3, 1) := by decide +kernel
theorem dX8_sayByDraw_35 : decode cX8_sayByDraw 35 = .ok (.iload 4, 2) := by decide +kernel
theorem dX8_sayByDraw_37 : decode cX8_sayByDraw 37 = .ok (.irem, 1) := by decide +kernel
theorem dX8_sayByDraw_38 : decode cX8_sayByDraw 38 = .ok (.istore 6, 2) := by decide +kernel
theorem dX8_sayByDraw_40 : decode cX8_sayByDraw 40 = .ok (.aload_n 1, 1) := by decide +kernel
theorem dX8_sayByDraw_41 : decode cX8_sayByDraw 41 = .ok (.iload_n 3, 1) := by decide +kernel
theorem dX8_sayByDraw_42 : decode cX8_sayByDraw 42 = .ok (.bipush 8, 2) := by decide +kernel
theorem dX8_sayByDraw_44 : decode cX8_sayByDraw 44 = .ok (.idiv, 1) := by decide +kernel
theorem dX8_sayByDraw_45 : decode cX8_sayByDraw 45 = .ok (.iload 5, 2) := by decide +kernel
theorem dX8_sayByDraw_47 : decode cX8_sayByDraw 47 = .ok (.irem, 1) := by decide +kernel
theorem dX8_sayByDraw_48 : decode cX8_sayByDraw 48 = .ok (.iload 6, 2) := by decide +kernel
theorem dX8_sayByDraw_50 : decode cX8_sayByDraw 50 = .ok (.iload_n 2, 1) := by decide +kernel
theorem dX8_sayByDraw_51 : decode cX8_sayByDraw 51 = .ok (.invokevirtual 56, 3) := by decide +kernel
theorem dX8_sayByDraw_54 : decode cX8_sayByDraw 54 = .ok (.ifCond .eq 12, 3) := by decide +kernel
theorem dX8_sayByDraw_57 : decode cX8_sayByDraw 57 = .ok (.aload_n 0, 1) := by decide +kernel
theorem dX8_sayByDraw_58 : decode cX8_sayByDraw 58 = .ok (.getfield 10, 3) := by decide +kernel
theorem dX8_sayByDraw_61 : decode cX8_sayByDraw 61 = .ok (.iload 6, 2) := by decide +kernel
theorem dX8_sayByDraw_63 : decode cX8_sayByDraw 63 = .ok (.invokevirtual 60, 3) := by decide +kernel
theorem dX8_sayByDraw_66 : decode cX8_sayByDraw 66 = .ok (.return_, 1) := by decide +kernel
theorem dX8_draw_0 : decode cX8_draw 0 = .ok (.ldc2_w 64, 3) := by decide +kernel
theorem dX8_draw_3 : decode cX8_draw 3 = .ok (.iload_n 1, 1) := by decide +kernel
theorem dX8_draw_4 : decode cX8_draw 4 = .ok (.i2l, 1) := by decide +kernel
theorem dX8_draw_5 : decode cX8_draw 5 = .ok (.lmul, 1) := by decide +kernel
theorem dX8_draw_6 : decode cX8_draw 6 = .ok (.ldc2_w 66, 3) := by decide +kernel
theorem dX8_draw_9 : decode cX8_draw 9 = .ok (.iload_n 2, 1) := by decide +kernel
theorem dX8_draw_10 : decode cX8_draw 10 = .ok (.i2l, 1) := by decide +kernel
theorem dX8_draw_11 : decode cX8_draw 11 = .ok (.lmul, 1) := by decide +kernel
theorem dX8_draw_12 : decode cX8_draw 12 = .ok (.ladd, 1) := by decide +kernel
theorem dX8_draw_13 : decode cX8_draw 13 = .ok (.lconst 1, 1) := by decide +kernel
theorem dX8_draw_14 : decode cX8_draw 14 = .ok (.ladd, 1) := by decide +kernel
theorem dX8_draw_15 : decode cX8_draw 15 = .ok (.lstore_n 3, 1) := by decide +kernel
theorem dX8_draw_16 : decode cX8_draw 16 = .ok (.lload_n 3, 1) := by decide +kernel
theorem dX8_draw_17 : decode cX8_draw 17 = .ok (.lload_n 3, 1) := by decide +kernel
theorem dX8_draw_18 : decode cX8_draw 18 = .ok (.lmul, 1) := by decide +kernel
theorem dX8_draw_19 : decode cX8_draw 19 = .ok (.ldc2_w 68, 3) := by decide +kernel
theorem dX8_draw_22 : decode cX8_draw 22 = .ok (.lrem, 1) := by decide +kernel
theorem dX8_draw_23 : decode cX8_draw 23 = .ok (.ldc2_w 70, 3) := by decide +kernel
theorem dX8_draw_26 : decode cX8_draw 26 = .ok (.ldiv, 1) := by decide +kernel
theorem dX8_draw_27 : decode cX8_draw 27 = .ok (.l2i, 1) := by decide +kernel
theorem dX8_draw_28 : decode cX8_draw 28 = .ok (.ireturn, 1) := by decide +kernel
set_option maxRecDepth 20000 in
theorem ggX9_init_X4_init : GoodIn wsX9_init wsX4_init := goodIn_r _ [39, 40, 2, 3, 41, 42, 43, 44, 262, 263, 264] (by decide +kernel) (by decide +kernel)
set_option maxRecDepth 20000 in
theorem gX9_init_X4_init_n9 : GoodIn wsX9_init (wsX4_init) := ggX9_init_X4_init
set_option maxRecDepth 20000 in
theorem ggX9_init_X2_init : GoodIn wsX9_init wsX2_init := goodIn_r _ [46, 47, 2, 3, 43, 48, 49, 50, 51, 52, 53, 275, 276, 277, 278, 279, 280, 281, 282, 283] (by decide +kernel) (by decide +kernel)
set_option maxRecDepth 20000 in
theorem gX9_init_X2_init_n18 : GoodIn wsX9_init (wsX2_init) := ggX9_init_X2_init
set_option maxRecDepth 20000 in
theorem ggX9_init_X1_init : GoodIn wsX9_init wsX1_init := goodIn_r _ [55, 56, 2, 3, 57, 58, 59, 60, 43, 61, 62, 63, 64, 65, 66, 67, 68, 69, 307, 308, 309, 310, 311, 284, 285, 286, 287, 288, 289, 290, 291] (by decide +kernel) (by decide +kernel)
set_option maxRecDepth 20000 in
theorem gX9_init_X1_init_n28 : GoodIn wsX9_init (wsX1_init) := ggX9_init_X1_init
set_option maxRecDepth 20000 in
theorem ggX9_init_X3_init : GoodIn wsX9_init wsX3_init := goodIn_r _ [72, 73, 2, 3, 74, 75, 76, 77, 78, 79, 14, 15, 54, 55, 56, 57, 58, 59, 60, 43, 61, 62, 63, 64, 65, 66, 67, 68, 69, 292, 293, 294, 284, 285, 286, 287, 288, 289, 290, 291, 307, 308, 309, 310, 311] (by decide +kernel) (by decide +kernel)
set_option maxRecDepth 20000 in
theorem gX9_init_X3_init : GoodIn wsX9_init (wsX3_init) := ggX9_init_X3_init
set_option maxRecDepth 20000 in
theorem ggX9_init_X5_init : GoodIn wsX9_init wsX5_init := goodIn_r _ [81, 82, 2, 3, 43, 83, 84, 85, 58, 59, 86, 66, 67, 68, 69, 295, 296, 297, 298, 307, 308, 309, 310, 311] (by decide +kernel) (by decide +kernel)
set_option maxRecDepth 20000 in
theorem gX9_init_X5_init_n47 : GoodIn wsX9_init (wsX5_init) := ggX9_init_X5_init
set_option maxRecDepth 20000 in
theorem ggX9_init_X7_init : GoodIn wsX9_init wsX7_init := goodIn_r _ [88, 89, 2, 3, 43, 90, 91, 58, 59, 92, 66, 67, 68, 69, 299, 300, 301, 307, 308, 309, 310, 311] (by decide +kernel) (by decide +kernel)
set_option maxRecDepth 20000 in
theorem gX9_init_X7_init_n54 : GoodIn wsX9_init (wsX7_init) := ggX9_init_X7_init
set_option maxRecDepth 20000 in
theorem ggX9_init_X0_init : GoodIn wsX9_init wsX0_init := goodIn_r _ [94, 95, 2, 3, 96, 58, 59, 97, 66, 67, 68, 43, 69, 307, 308, 309, 310, 311, 302, 303, 304] (by decide +kernel) (by decide +kernel)
set_option maxRecDepth 20000 in
theorem gX9_init_X0_init_n61 : GoodIn wsX9_init (wsX0_init) := ggX9_init_X0_init
set_option maxRecDepth 20000 in
theorem ggX9_init_X8_init : GoodIn wsX9_init wsX8_init := goodIn_r _ [99, 100, 2, 3, 101, 58, 59, 102, 66, 67, 68, 43, 69, 307, 308, 309, 310, 311, 305, 306] (by decide +kernel) (by decide +kernel)
set_option maxRecDepth 20000 in
theorem gX9_init_X8_init_n68 : GoodIn wsX9_init (wsX8_init) := ggX9_init_X8_init
set_option maxRecDepth 20000 in
theorem ggX9_init_J0_length_8abf5 : GoodIn wsX9_init wsJ0_length_8abf5 := goodIn_r _ [107, 108, 109, 110, 111, 106, 112, 113, 114] (by decide +kernel) (by decide +kernel)
set_option maxRecDepth 20000 in
theorem gX9_init_J0_length_8abf5 : GoodIn wsX9_init (wsV RX9 75 RJ0 yJ0_length_8abf5 wsJ0_length_8abf5) := goodIn_app (goodIn_of _ (by decide +kernel)) ggX9_init_J0_length_8abf5
set_option maxRecDepth 20000 in
theorem ggX9_init_J0_charAt_5068e : GoodIn wsX9_init wsJ0_charAt_5068e := goodIn_r _ [118, 108, 119, 120, 121, 106, 122, 113, 114, 123, 124, 125, 126, 127, 128, 129, 130, 131, 132, 133, 134, 135, 136, 137, 138, 139, 140, 141, 142, 143, 144, 145, 146, 147, 148, 149, 150, 151] (by decide +kernel) (by decide +kernel)
set_option maxRecDepth 20000 in
theorem gX9_init_J0_charAt_5068e : GoodIn wsX9_init (wsV RX9 81 RJ0 yJ0_charAt_5068e wsJ0_charAt_5068e) := goodIn_app (goodIn_of _ (by decide +kernel)) ggX9_init_J0_charAt_5068e
set_option maxRecDepth 20000 in
theorem ggX9_init_X4_append : GoodIn wsX9_init wsX4_append := goodIn_r _ [155, 156, 42, 262, 263, 264] (by decide +kernel) (by decide +kernel)
set_option maxRecDepth 20000 in
theorem gX9_init_X4_append : GoodIn wsX9_init (wsV RX9 85 RX4 yX4_append wsX4_append) := goodIn_app (goodIn_of _ (by decide +kernel)) ggX9_init_X4_append
set_option maxRecDepth 20000 in
theorem ggX9_init_X9_layText : GoodIn wsX9_init wsX9_layText := goodIn_r _ [161, 7, 11, 16, 20, 21, 25, 162, 163, 164, 6, 165, 156, 166, 167, 168, 10, 169, 170, 171, 172, 173, 174, 175, 176, 177, 178, 179, 180, 181, 42, 182, 183, 184, 185, 186, 187, 188, 189, 44, 190, 191, 192, 193, 194, 195, 196, 197, 198, 199, 200, 201, 48, 49, 50, 202, 203, 204, 205, 51, 53, 206, 207, 208, 209, 210, 211, 212, 213, 214, 215, 216, 15, 217, 60, 62, 61, 63, 218, 219, 220, 221, 222, 59, 223, 224, 225, 76, 226, 227, 69, 228, 229, 230, 231, 232, 233, 234, 235, 236, 237, 238, 239, 240, 241, 242, 243, 244, 245, 246, 247, 248, 249, 250, 19, 251, 252, 253, 254, 255, 24, 256, 257, 265, 266, 267, 268, 269, 270, 271, 272, 273, 274, 262, 263, 264, 275, 276, 277, 278, 279, 280, 281, 282, 283, 284, 285, 286, 287, 288, 289, 290, 291, 307, 308, 309, 310, 311, 292, 293, 294, 295, 296, 297, 298] (by decide +kernel) (by decide +kernel)
set_option maxRecDepth 20000 in
theorem gX9_init_X9_layText : GoodIn wsX9_init (wsV RX9 89 RX9 yX9_layText wsX9_layText) := goodIn_app (goodIn_of _ (by decide +kernel)) ggX9_init_X9_layText
set_option maxRecDepth 20000 in
theorem ggX9_init_X4_clear : GoodIn wsX9_init wsX4_clear := goodIn_r _ [261, 156, 262, 263, 264] (by decide +kernel) (by decide +kernel)
set_option maxRecDepth 20000 in
theorem gX9_init_X4_clear : GoodIn wsX9_init (wsV RX9 92 RX4 yX4_clear wsX4_clear) := goodIn_app (goodIn_of _ (by decide +kernel)) ggX9_init_X4_clear
theorem dX9_init_0 : decode cX9_init 0 = .ok (.aload_n 0, 1) := by decide +kernel
theorem dX9_init_1 : decode cX9_init 1 = .ok (.invokespecial 1, 3) := by decide +kernel
theorem dX9_init_4 : decode cX9_init 4 = .ok (.aload_n 0, 1) := by decide +kernel
theorem dX9_init_5 : decode cX9_init 5 = .ok (.new 7, 3) := by decide +kernel
theorem dX9_init_8 : decode cX9_init 8 = .ok (.dup, 1) := by decide +kernel
theorem dX9_init_9 : decode cX9_init 9 = .ok (.invokespecial 9, 3) := by decide +kernel
theorem dX9_init_12 : decode cX9_init 12 = .ok (.putfield 10, 3) := by decide +kernel
theorem dX9_init_15 : decode cX9_init 15 = .ok (.aload_n 0, 1) := by decide +kernel
theorem dX9_init_16 : decode cX9_init 16 = .ok (.new 16, 3) := by decide +kernel
theorem dX9_init_19 : decode cX9_init 19 = .ok (.dup, 1) := by decide +kernel
theorem dX9_init_20 : decode cX9_init 20 = .ok (.invokespecial 18, 3) := by decide +kernel
theorem dX9_init_23 : decode cX9_init 23 = .ok (.putfield 19, 3) := by decide +kernel
theorem dX9_init_26 : decode cX9_init 26 = .ok (.aload_n 0, 1) := by decide +kernel
theorem dX9_init_27 : decode cX9_init 27 = .ok (.new 16, 3) := by decide +kernel
theorem dX9_init_30 : decode cX9_init 30 = .ok (.dup, 1) := by decide +kernel
theorem dX9_init_31 : decode cX9_init 31 = .ok (.invokespecial 18, 3) := by decide +kernel
theorem dX9_init_34 : decode cX9_init 34 = .ok (.putfield 23, 3) := by decide +kernel
theorem dX9_init_37 : decode cX9_init 37 = .ok (.aload_n 0, 1) := by decide +kernel
theorem dX9_init_38 : decode cX9_init 38 = .ok (.new 26, 3) := by decide +kernel
theorem dX9_init_41 : decode cX9_init 41 = .ok (.dup, 1) := by decide +kernel
theorem dX9_init_42 : decode cX9_init 42 = .ok (.invokespecial 28, 3) := by decide +kernel
theorem dX9_init_45 : decode cX9_init 45 = .ok (.putfield 29, 3) := by decide +kernel
theorem dX9_init_48 : decode cX9_init 48 = .ok (.aload_n 0, 1) := by decide +kernel
theorem dX9_init_49 : decode cX9_init 49 = .ok (.new 33, 3) := by decide +kernel
theorem dX9_init_52 : decode cX9_init 52 = .ok (.dup, 1) := by decide +kernel
theorem dX9_init_53 : decode cX9_init 53 = .ok (.bipush 8, 2) := by decide +kernel
theorem dX9_init_55 : decode cX9_init 55 = .ok (.invokespecial 35, 3) := by decide +kernel
theorem dX9_init_58 : decode cX9_init 58 = .ok (.putfield 38, 3) := by decide +kernel
theorem dX9_init_61 : decode cX9_init 61 = .ok (.aload_n 0, 1) := by decide +kernel
theorem dX9_init_62 : decode cX9_init 62 = .ok (.new 33, 3) := by decide +kernel
theorem dX9_init_65 : decode cX9_init 65 = .ok (.dup, 1) := by decide +kernel
theorem dX9_init_66 : decode cX9_init 66 = .ok (.iconst 2, 1) := by decide +kernel
theorem dX9_init_67 : decode cX9_init 67 = .ok (.invokespecial 35, 3) := by decide +kernel
theorem dX9_init_70 : decode cX9_init 70 = .ok (.putfield 42, 3) := by decide +kernel
theorem dX9_init_73 : decode cX9_init 73 = .ok (.aload_n 0, 1) := by decide +kernel
theorem dX9_init_74 : decode cX9_init 74 = .ok (.new 45, 3) := by decide +kernel
theorem dX9_init_77 : decode cX9_init 77 = .ok (.dup, 1) := by decide +kernel
theorem dX9_init_78 : decode cX9_init 78 = .ok (.invokespecial 47, 3) := by decide +kernel
theorem dX9_init_81 : decode cX9_init 81 = .ok (.putfield 48, 3) := by decide +kernel
theorem dX9_init_84 : decode cX9_init 84 = .ok (.aload_n 0, 1) := by decide +kernel
theorem dX9_init_85 : decode cX9_init 85 = .ok (.new 52, 3) := by decide +kernel
theorem dX9_init_88 : decode cX9_init 88 = .ok (.dup, 1) := by decide +kernel
theorem dX9_init_89 : decode cX9_init 89 = .ok (.invokespecial 54, 3) := by decide +kernel
theorem dX9_init_92 : decode cX9_init 92 = .ok (.putfield 55, 3) := by decide +kernel
theorem dX9_init_95 : decode cX9_init 95 = .ok (.aload_n 0, 1) := by decide +kernel
theorem dX9_init_96 : decode cX9_init 96 = .ok (.new 59, 3) := by decide +kernel
theorem dX9_init_99 : decode cX9_init 99 = .ok (.dup, 1) := by decide +kernel
theorem dX9_init_100 : decode cX9_init 100 = .ok (.invokespecial 61, 3) := by decide +kernel
theorem dX9_init_103 : decode cX9_init 103 = .ok (.putfield 62, 3) := by decide +kernel
theorem dX9_init_106 : decode cX9_init 106 = .ok (.aload_n 0, 1) := by decide +kernel
theorem dX9_init_107 : decode cX9_init 107 = .ok (.new 66, 3) := by decide +kernel
theorem dX9_init_110 : decode cX9_init 110 = .ok (.dup, 1) := by decide +kernel
theorem dX9_init_111 : decode cX9_init 111 = .ok (.invokespecial 68, 3) := by decide +kernel
theorem dX9_init_114 : decode cX9_init 114 = .ok (.putfield 69, 3) := by decide +kernel
theorem dX9_init_117 : decode cX9_init 117 = .ok (.iconst 0, 1) := by decide +kernel
theorem dX9_init_118 : decode cX9_init 118 = .ok (.istore_n 1, 1) := by decide +kernel
theorem dX9_init_119 : decode cX9_init 119 = .ok (.iload_n 1, 1) := by decide +kernel
theorem dX9_init_120 : decode cX9_init 120 = .ok (.ldc 73, 2) := by decide +kernel
theorem dX9_init_122 : decode cX9_init 122 = .ok (.invokevirtual 75, 3) := by decide +kernel
theorem dX9_init_125 : decode cX9_init 125 = .ok (.if_icmp .ge 23, 3) := by decide +kernel
theorem dX9_init_128 : decode cX9_init 128 = .ok (.aload_n 0, 1) := by decide +kernel
theorem dX9_init_129 : decode cX9_init 129 = .ok (.getfield 10, 3) := by decide +kernel
theorem dX9_init_132 : decode cX9_init 132 = .ok (.ldc 73, 2) := by decide +kernel
theorem dX9_init_134 : decode cX9_init 134 = .ok (.iload_n 1, 1) := by decide +kernel
theorem dX9_init_135 : decode cX9_init 135 = .ok (.invokevirtual 81, 3) := by decide +kernel
theorem dX9_init_138 : decode cX9_init 138 = .ok (.invokevirtual 85, 3) := by decide +kernel
theorem dX9_init_141 : decode cX9_init 141 = .ok (.pop, 1) := by decide +kernel
theorem dX9_init_142 : decode cX9_init 142 = .ok (.iinc 1 1, 3) := by decide +kernel
theorem dX9_init_145 : decode cX9_init 145 = .ok (.goto (-26), 3) := by decide +kernel
theorem dX9_init_148 : decode cX9_init 148 = .ok (.aload_n 0, 1) := by decide +kernel
theorem dX9_init_149 : decode cX9_init 149 = .ok (.invokevirtual 89, 3) := by decide +kernel
theorem dX9_init_152 : decode cX9_init 152 = .ok (.aload_n 0, 1) := by decide +kernel
theorem dX9_init_153 : decode cX9_init 153 = .ok (.getfield 10, 3) := by decide +kernel
theorem dX9_init_156 : decode cX9_init 156 = .ok (.invokevirtual 92, 3) := by decide +kernel
theorem dX9_init_159 : decode cX9_init 159 = .ok (.return_, 1) := by decide +kernel
set_option maxRecDepth 20000 in
theorem ggX9_write_X4_append : GoodIn wsX9_write wsX4_append := goodIn_r _ [6, 7, 8, 23, 24, 25] (by decide +kernel) (by decide +kernel)
set_option maxRecDepth 20000 in
theorem gX9_write_X4_append : GoodIn wsX9_write (wsV RX9 85 RX4 yX4_append wsX4_append) := goodIn_app (goodIn_of _ (by decide +kernel)) ggX9_write_X4_append
set_option maxRecDepth 20000 in
theorem ggX9_write_X4_length : GoodIn wsX9_write wsX4_length := goodIn_r _ [12, 7, 23, 24, 25] (by decide +kernel) (by decide +kernel)
set_option maxRecDepth 20000 in
theorem gX9_write_X4_length : GoodIn wsX9_write (wsV RX9 95 RX4 yX4_length wsX4_length) := goodIn_app (goodIn_of _ (by decide +kernel)) ggX9_write_X4_length
theorem dX9_write_0 : decode cX9_write 0 = .ok (.iload_n 1, 1) := by decide +kernel
theorem dX9_write_1 : decode cX9_write 1 = .ok (.bipush 32, 2) := by decide +kernel
theorem dX9_write_3 : decode cX9_write 3 = .ok (.if_icmp .lt 9, 3) := by decide +kernel
theorem dX9_write_6 : decode cX9_write 6 = .ok (.iload_n 1, 1) := by decide +kernel
theorem dX9_write_7 : decode cX9_write 7 = .ok (.bipush 126, 2) := by decide +kernel
theorem dX9_write_9 : decode cX9_write 9 = .ok (.if_icmp .le 5, 3) := by decide +kernel
theorem dX9_write_12 : decode cX9_write 12 = .ok (.iconst (-1), 1) := by decide +kernel
theorem dX9_write_13 : decode cX9_write 13 = .ok (.ireturn, 1) := by decide +kernel
theorem dX9_write_14 : decode cX9_write 14 = .ok (.aload_n 0, 1) := by decide +kernel
theorem dX9_write_15 : decode cX9_write 15 = .ok (.getfield 10, 3) := by decide +kernel
theorem dX9_write_18 : decode cX9_write 18 = .ok (.iload_n 1, 1) := by decide +kernel
theorem dX9_write_19 : decode cX9_write 19 = .ok (.i2c, 1) := by decide +kernel
theorem dX9_write_20 : decode cX9_write 20 = .ok (.invokevirtual 85, 3) := by decide +kernel
theorem dX9_write_23 : decode cX9_write 23 = .ok (.ifCond .eq 13, 3) := by decide +kernel
theorem dX9_write_26 : decode cX9_write 26 = .ok (.aload_n 0, 1) := by decide +kernel
theorem dX9_write_27 : decode cX9_write 27 = .ok (.getfield 10, 3) := by decide +kernel
theorem dX9_write_30 : decode cX9_write 30 = .ok (.invokevirtual 95, 3) := by decide +kernel
theorem dX9_write_33 : decode cX9_write 33 = .ok (.goto 5, 3) := by decide +kernel
theorem dX9_write_36 : decode cX9_write 36 = .ok (.bipush (-3), 2) := by decide +kernel
theorem dX9_write_38 : decode cX9_write 38 = .ok (.ireturn, 1) := by decide +kernel
set_option maxRecDepth 20000 in
theorem ggX9_wipe_X4_length : GoodIn wsX9_wipe wsX4_length := goodIn_r _ [6, 7, 22, 23, 24] (by decide +kernel) (by decide +kernel)
set_option maxRecDepth 20000 in
theorem gX9_wipe_X4_length : GoodIn wsX9_wipe (wsV RX9 95 RX4 yX4_length wsX4_length) := goodIn_app (goodIn_of _ (by decide +kernel)) ggX9_wipe_X4_length
set_option maxRecDepth 20000 in
theorem ggX9_wipe_X4_clear : GoodIn wsX9_wipe wsX4_clear := goodIn_r _ [11, 7, 22, 23, 24] (by decide +kernel) (by decide +kernel)
set_option maxRecDepth 20000 in
theorem gX9_wipe_X4_clear : GoodIn wsX9_wipe (wsV RX9 92 RX4 yX4_clear wsX4_clear) := goodIn_app (goodIn_of _ (by decide +kernel)) ggX9_wipe_X4_clear
theorem dX9_wipe_0 : decode cX9_wipe 0 = .ok (.aload_n 0, 1) := by decide +kernel
theorem dX9_wipe_1 : decode cX9_wipe 1 = .ok (.getfield 10, 3) := by decide +kernel
theorem dX9_wipe_4 : decode cX9_wipe 4 = .ok (.invokevirtual 95, 3) := by decide +kernel
theorem dX9_wipe_7 : decode cX9_wipe 7 = .ok (.istore_n 1, 1) := by decide +kernel
theorem dX9_wipe_8 : decode cX9_wipe 8 = .ok (.aload_n 0, 1) := by decide +kernel
theorem dX9_wipe_9 : decode cX9_wipe 9 = .ok (.getfield 10, 3) := by decide +kernel
theorem dX9_wipe_12 : decode cX9_wipe 12 = .ok (.invokevirtual 92, 3) := by decide +kernel
theorem dX9_wipe_15 : decode cX9_wipe 15 = .ok (.iload_n 1, 1) := by decide +kernel
theorem dX9_wipe_16 : decode cX9_wipe 16 = .ok (.ireturn, 1) := by decide +kernel
set_option maxRecDepth 20000 in
theorem ggX9_fault_X4_readInto : GoodIn wsX9_fault wsX4_readInto := goodIn_r _ [7, 8, 9, 10, 11, 12, 13, 14, 15, 16, 17, 18, 19, 20, 6, 21, 22, 23, 24, 25, 26, 27, 28, 29, 30, 31, 32, 33, 34, 35, 36, 37, 38, 39, 40, 41, 42, 43, 44, 45, 46, 47, 48, 49, 50, 51, 52, 53, 54, 55, 56, 57, 58, 59, 60, 61, 62, 63, 64, 75, 76, 77, 78, 79, 80, 81, 82, 83, 84, 85, 86] (by decide +kernel) (by decide +kernel)
set_option maxRecDepth 20000 in
theorem gX9_fault_X4_readInto : GoodIn wsX9_fault (wsV RX9 96 RX4 yX4_readInto wsX4_readInto) := goodIn_app (goodIn_of _ (by decide +kernel)) ggX9_fault_X4_readInto
theorem dX9_fault_0 : decode cX9_fault 0 = .ok (.aload_n 0, 1) := by decide +kernel
theorem dX9_fault_1 : decode cX9_fault 1 = .ok (.getfield 10, 3) := by decide +kernel
theorem dX9_fault_4 : decode cX9_fault 4 = .ok (.aload_n 0, 1) := by decide +kernel
theorem dX9_fault_5 : decode cX9_fault 5 = .ok (.getfield 23, 3) := by decide +kernel
theorem dX9_fault_8 : decode cX9_fault 8 = .ok (.invokevirtual 96, 3) := by decide +kernel
theorem dX9_fault_11 : decode cX9_fault 11 = .ok (.ireturn, 1) := by decide +kernel
set_option maxRecDepth 20000 in
theorem ggX9_lay_X4_readInto : GoodIn wsX9_lay wsX4_readInto := goodIn_r _ [8, 9, 10, 11, 12, 13, 14, 15, 16, 17, 18, 19, 20, 21, 7, 22, 23, 24, 25, 26, 27, 28, 29, 30, 31, 32, 33, 34, 35, 36, 37, 38, 39, 40, 41, 42, 43, 44, 45, 46, 47, 48, 49, 50, 51, 52, 53, 54, 55, 56, 57, 58, 59, 60, 61, 62, 63, 64, 65, 144, 145, 146, 147, 148, 149, 150, 151, 152, 153, 154, 155] (by decide +kernel) (by decide +kernel)
set_option maxRecDepth 20000 in
theorem gX9_lay_X4_readInto : GoodIn wsX9_lay (wsV RX9 96 RX4 yX4_readInto wsX4_readInto) := goodIn_app (goodIn_of _ (by decide +kernel)) ggX9_lay_X4_readInto
set_option maxRecDepth 20000 in
theorem ggX9_lay_X2_isEnough : GoodIn wsX9_lay wsX2_isEnough := goodIn_r _ [69, 15, 16, 147, 148, 149, 150, 151, 152, 153, 154, 155] (by decide +kernel) (by decide +kernel)
set_option maxRecDepth 20000 in
theorem gX9_lay_X2_isEnough : GoodIn wsX9_lay (wsV RX9 100 RX2 yX2_isEnough wsX2_isEnough) := goodIn_app (goodIn_of _ (by decide +kernel)) ggX9_lay_X2_isEnough
set_option maxRecDepth 20000 in
theorem ggX9_lay_X9_layText : GoodIn wsX9_lay wsX9_layText := goodIn_r _ [74, 1, 3, 75, 76, 77, 78, 4, 5, 6, 7, 8, 9, 10, 11, 12, 13, 14, 15, 16, 17, 18, 19, 20, 21, 22, 23, 24, 25, 26, 27, 28, 29, 30, 31, 32, 33, 34, 35, 36, 37, 38, 39, 40, 41, 42, 43, 44, 45, 46, 47, 48, 49, 50, 51, 52, 53, 54, 55, 56, 57, 58, 59, 60, 61, 62, 63, 64, 65, 79, 80, 81, 82, 83, 84, 85, 86, 87, 88, 89, 90, 91, 92, 93, 94, 95, 96, 97, 98, 99, 100, 101, 102, 103, 104, 105, 106, 107, 108, 109, 110, 111, 112, 113, 114, 115, 116, 117, 118, 119, 120, 121, 122, 123, 124, 125, 126, 127, 128, 129, 130, 131, 132, 134, 135, 136, 137, 138, 139, 140, 141, 142, 143, 144, 145, 146, 147, 148, 149, 150, 151, 152, 153, 154, 155, 156, 157, 158, 159, 160, 161, 162, 163, 164, 165, 166, 167, 168, 169, 170, 171, 172, 173, 174, 175] (by decide +kernel) (by decide +kernel)
set_option maxRecDepth 20000 in
theorem gX9_lay_X9_layText : GoodIn wsX9_lay (wsV RX9 89 RX9 yX9_layText wsX9_layText) := goodIn_app (goodIn_of _ (by decide +kernel)) ggX9_lay_X9_layText
set_option maxRecDepth 20000 in
theorem ggX9_lay_X2_relatives : GoodIn wsX9_lay wsX2_relatives := goodIn_r _ [107, 15, 147, 148, 149, 150, 151, 152, 153, 154, 155] (by decide +kernel) (by decide +kernel)
set_option maxRecDepth 20000 in
theorem gX9_lay_X2_relatives : GoodIn wsX9_lay (wsV RX9 104 RX2 yX2_relatives wsX2_relatives) := goodIn_app (goodIn_of _ (by decide +kernel)) ggX9_lay_X2_relatives
theorem dX9_lay_0 : decode cX9_lay 0 = .ok (.aload_n 0, 1) := by decide +kernel
theorem dX9_lay_1 : decode cX9_lay 1 = .ok (.getfield 10, 3) := by decide +kernel
theorem dX9_lay_4 : decode cX9_lay 4 = .ok (.aload_n 0, 1) := by decide +kernel
theorem dX9_lay_5 : decode cX9_lay 5 = .ok (.getfield 23, 3) := by decide +kernel
theorem dX9_lay_8 : decode cX9_lay 8 = .ok (.invokevirtual 96, 3) := by decide +kernel
theorem dX9_lay_11 : decode cX9_lay 11 = .ok (.bipush (-4), 2) := by decide +kernel
theorem dX9_lay_13 : decode cX9_lay 13 = .ok (.if_icmp .ne 13, 3) := by decide +kernel
theorem dX9_lay_16 : decode cX9_lay 16 = .ok (.aload_n 0, 1) := by decide +kernel
theorem dX9_lay_17 : decode cX9_lay 17 = .ok (.getfield 23, 3) := by decide +kernel
theorem dX9_lay_20 : decode cX9_lay 20 = .ok (.invokevirtual 100, 3) := by decide +kernel
theorem dX9_lay_23 : decode cX9_lay 23 = .ok (.ifCond .ne 6, 3) := by decide +kernel
theorem dX9_lay_26 : decode cX9_lay 26 = .ok (.bipush (-2), 2) := by decide +kernel
theorem dX9_lay_28 : decode cX9_lay 28 = .ok (.ireturn, 1) := by decide +kernel
theorem dX9_lay_29 : decode cX9_lay 29 = .ok (.aload_n 0, 1) := by decide +kernel
theorem dX9_lay_30 : decode cX9_lay 30 = .ok (.invokevirtual 89, 3) := by decide +kernel
theorem dX9_lay_33 : decode cX9_lay 33 = .ok (.aload_n 0, 1) := by decide +kernel
theorem dX9_lay_34 : decode cX9_lay 34 = .ok (.getfield 19, 3) := by decide +kernel
theorem dX9_lay_37 : decode cX9_lay 37 = .ok (.invokevirtual 104, 3) := by decide +kernel
theorem dX9_lay_40 : decode cX9_lay 40 = .ok (.ireturn, 1) := by decide +kernel
set_option maxRecDepth 20000 in
theorem ggX9_relative_X2_hasRelative : GoodIn wsX9_relative wsX2_hasRelative := goodIn_r _ [7, 8, 54, 55, 56, 57, 58, 59, 60, 61, 62] (by decide +kernel) (by decide +kernel)
set_option maxRecDepth 20000 in
theorem gX9_relative_X2_hasRelative : GoodIn wsX9_relative (wsV RX9 107 RX2 yX2_hasRelative wsX2_hasRelative) := goodIn_app (goodIn_of _ (by decide +kernel)) ggX9_relative_X2_hasRelative
set_option maxRecDepth 20000 in
theorem ggX9_relative_X2_kind : GoodIn wsX9_relative wsX2_kind := goodIn_r _ [12, 13, 14, 4, 5, 6, 7, 8, 54, 55, 56, 57, 58, 59, 60, 61, 62] (by decide +kernel) (by decide +kernel)
set_option maxRecDepth 20000 in
theorem gX9_relative_X2_kind : GoodIn wsX9_relative (wsV RX9 111 RX2 yX2_kind wsX2_kind) := goodIn_app (goodIn_of _ (by decide +kernel)) ggX9_relative_X2_kind
set_option maxRecDepth 20000 in
theorem ggX9_relative_X1_trust : GoodIn wsX9_relative wsX1_trust := goodIn_r _ [19, 20, 63, 64, 65, 66, 67, 68, 69, 70] (by decide +kernel) (by decide +kernel)
set_option maxRecDepth 20000 in
theorem gX9_relative_X1_trust : GoodIn wsX9_relative (wsV RX9 115 RX1 yX1_trust wsX1_trust) := goodIn_app (goodIn_of _ (by decide +kernel)) ggX9_relative_X1_trust
set_option maxRecDepth 20000 in
theorem ggX9_relative_X6_ago : GoodIn wsX9_relative wsX6_ago := goodIn_r _ [25, 26, 27, 28, 71, 72, 73, 74, 75] (by decide +kernel) (by decide +kernel)
set_option maxRecDepth 20000 in
theorem gX9_relative_X6_ago : GoodIn wsX9_relative (wsV RX9 119 RX6 yX6_ago wsX6_ago) := goodIn_app (goodIn_of _ (by decide +kernel)) ggX9_relative_X6_ago
set_option maxRecDepth 20000 in
theorem ggX9_relative_X2_mails : GoodIn wsX9_relative wsX2_mails := goodIn_r _ [32, 33, 14, 4, 5, 6, 7, 8, 54, 55, 56, 57, 58, 59, 60, 61, 62] (by decide +kernel) (by decide +kernel)
set_option maxRecDepth 20000 in
theorem gX9_relative_X2_mails : GoodIn wsX9_relative (wsV RX9 124 RX2 yX2_mails wsX2_mails) := goodIn_app (goodIn_of _ (by decide +kernel)) ggX9_relative_X2_mails
set_option maxRecDepth 20000 in
theorem ggX9_relative_X6_owner : GoodIn wsX9_relative wsX6_owner := goodIn_r _ [37, 38, 71, 72, 73, 74, 75] (by decide +kernel) (by decide +kernel)
set_option maxRecDepth 20000 in
theorem gX9_relative_X6_owner : GoodIn wsX9_relative (wsV RX9 127 RX6 yX6_owner wsX6_owner) := goodIn_app (goodIn_of _ (by decide +kernel)) ggX9_relative_X6_owner
set_option maxRecDepth 20000 in
theorem ggX9_relative_X1_timesAsked : GoodIn wsX9_relative wsX1_timesAsked := goodIn_r _ [42, 43, 63, 64, 65, 66, 67, 68, 69, 70] (by decide +kernel) (by decide +kernel)
set_option maxRecDepth 20000 in
theorem gX9_relative_X1_timesAsked : GoodIn wsX9_relative (wsV RX9 130 RX1 yX1_timesAsked wsX1_timesAsked) := goodIn_app (goodIn_of _ (by decide +kernel)) ggX9_relative_X1_timesAsked
theorem dX9_relative_0 : decode cX9_relative 0 = .ok (.aload_n 0, 1) := by decide +kernel
theorem dX9_relative_1 : decode cX9_relative 1 = .ok (.getfield 19, 3) := by decide +kernel
theorem dX9_relative_4 : decode cX9_relative 4 = .ok (.iload_n 1, 1) := by decide +kernel
theorem dX9_relative_5 : decode cX9_relative 5 = .ok (.invokevirtual 107, 3) := by decide +kernel
theorem dX9_relative_8 : decode cX9_relative 8 = .ok (.ifCond .ne 5, 3) := by decide +kernel
theorem dX9_relative_11 : decode cX9_relative 11 = .ok (.iconst (-1), 1) := by decide +kernel
theorem dX9_relative_12 : decode cX9_relative 12 = .ok (.ireturn, 1) := by decide +kernel
theorem dX9_relative_13 : decode cX9_relative 13 = .ok (.iload_n 2, 1) := by decide +kernel
theorem dX9_relative_14 : decode cX9_relative 14 = .ok (.tableswitch 93 0 4 #[34, 43, 55, 64, 84], 34) := by decide +kernel
theorem dX9_relative_48 : decode cX9_relative 48 = .ok (.aload_n 0, 1) := by decide +kernel
theorem dX9_relative_49 : decode cX9_relative 49 = .ok (.getfield 19, 3) := by decide +kernel
theorem dX9_relative_52 : decode cX9_relative 52 = .ok (.iload_n 1, 1) := by decide +kernel
theorem dX9_relative_53 : decode cX9_relative 53 = .ok (.invokevirtual 111, 3) := by decide +kernel
theorem dX9_relative_56 : decode cX9_relative 56 = .ok (.ireturn, 1) := by decide +kernel
theorem dX9_relative_57 : decode cX9_relative 57 = .ok (.aload_n 0, 1) := by decide +kernel
theorem dX9_relative_58 : decode cX9_relative 58 = .ok (.getfield 29, 3) := by decide +kernel
theorem dX9_relative_61 : decode cX9_relative 61 = .ok (.invokevirtual 115, 3) := by decide +kernel
theorem dX9_relative_64 : decode cX9_relative 64 = .ok (.iload_n 1, 1) := by decide +kernel
theorem dX9_relative_65 : decode cX9_relative 65 = .ok (.invokevirtual 119, 3) := by decide +kernel
theorem dX9_relative_68 : decode cX9_relative 68 = .ok (.ireturn, 1) := by decide +kernel
theorem dX9_relative_69 : decode cX9_relative 69 = .ok (.aload_n 0, 1) := by decide +kernel
theorem dX9_relative_70 : decode cX9_relative 70 = .ok (.getfield 19, 3) := by decide +kernel
theorem dX9_relative_73 : decode cX9_relative 73 = .ok (.iload_n 1, 1) := by decide +kernel
theorem dX9_relative_74 : decode cX9_relative 74 = .ok (.invokevirtual 124, 3) := by decide +kernel
theorem dX9_relative_77 : decode cX9_relative 77 = .ok (.ireturn, 1) := by decide +kernel
theorem dX9_relative_78 : decode cX9_relative 78 = .ok (.aload_n 0, 1) := by decide +kernel
theorem dX9_relative_79 : decode cX9_relative 79 = .ok (.getfield 29, 3) := by decide +kernel
theorem dX9_relative_82 : decode cX9_relative 82 = .ok (.invokevirtual 115, 3) := by decide +kernel
theorem dX9_relative_85 : decode cX9_relative 85 = .ok (.invokevirtual 127, 3) := by decide +kernel
theorem dX9_relative_88 : decode cX9_relative 88 = .ok (.iload_n 1, 1) := by decide +kernel
theorem dX9_relative_89 : decode cX9_relative 89 = .ok (.if_icmp .ne 7, 3) := by decide +kernel
theorem dX9_relative_92 : decode cX9_relative 92 = .ok (.iconst 1, 1) := by decide +kernel
theorem dX9_relative_93 : decode cX9_relative 93 = .ok (.goto 4, 3) := by decide +kernel
theorem dX9_relative_96 : decode cX9_relative 96 = .ok (.iconst 0, 1) := by decide +kernel
theorem dX9_relative_97 : decode cX9_relative 97 = .ok (.ireturn, 1) := by decide +kernel
theorem dX9_relative_98 : decode cX9_relative 98 = .ok (.aload_n 0, 1) := by decide +kernel
theorem dX9_relative_99 : decode cX9_relative 99 = .ok (.getfield 29, 3) := by decide +kernel
theorem dX9_relative_102 : decode cX9_relative 102 = .ok (.iload_n 1, 1) := by decide +kernel
theorem dX9_relative_103 : decode cX9_relative 103 = .ok (.invokevirtual 130, 3) := by decide +kernel
theorem dX9_relative_106 : decode cX9_relative 106 = .ok (.ireturn, 1) := by decide +kernel
theorem dX9_relative_107 : decode cX9_relative 107 = .ok (.iconst (-1), 1) := by decide +kernel
theorem dX9_relative_108 : decode cX9_relative 108 = .ok (.ireturn, 1) := by decide +kernel
set_option maxRecDepth 20000 in
theorem ggX9_saying_X2_hasSaying : GoodIn wsX9_saying wsX2_hasSaying := goodIn_r _ [6, 7, 29, 30, 31, 32, 33, 34, 35, 36, 37] (by decide +kernel) (by decide +kernel)
set_option maxRecDepth 20000 in
theorem gX9_saying_X2_hasSaying : GoodIn wsX9_saying (wsV RX9 133 RX2 yX2_hasSaying wsX2_hasSaying) := goodIn_app (goodIn_of _ (by decide +kernel)) ggX9_saying_X2_hasSaying
set_option maxRecDepth 20000 in
theorem ggX9_saying_X2_topics : GoodIn wsX9_saying wsX2_topics := goodIn_r _ [11, 12, 13, 3, 4, 5, 6, 7, 29, 30, 31, 32, 33, 34, 35, 36, 37] (by decide +kernel) (by decide +kernel)
set_option maxRecDepth 20000 in
theorem gX9_saying_X2_topics : GoodIn wsX9_saying (wsV RX9 136 RX2 yX2_topics wsX2_topics) := goodIn_app (goodIn_of _ (by decide +kernel)) ggX9_saying_X2_topics
set_option maxRecDepth 20000 in
theorem ggX9_saying_X2_isQuestion : GoodIn wsX9_saying wsX2_isQuestion := goodIn_r _ [17, 18, 13, 3, 4, 5, 6, 7, 29, 30, 31, 32, 33, 34, 35, 36, 37] (by decide +kernel) (by decide +kernel)
set_option maxRecDepth 20000 in
theorem gX9_saying_X2_isQuestion : GoodIn wsX9_saying (wsV RX9 139 RX2 yX2_isQuestion wsX2_isQuestion) := goodIn_app (goodIn_of _ (by decide +kernel)) ggX9_saying_X2_isQuestion
theorem dX9_saying_0 : decode cX9_saying 0 = .ok (.aload_n 0, 1) := by decide +kernel
theorem dX9_saying_1 : decode cX9_saying 1 = .ok (.getfield 19, 3) := by decide +kernel
theorem dX9_saying_4 : decode cX9_saying 4 = .ok (.iload_n 1, 1) := by decide +kernel
theorem dX9_saying_5 : decode cX9_saying 5 = .ok (.invokevirtual 133, 3) := by decide +kernel
theorem dX9_saying_8 : decode cX9_saying 8 = .ok (.ifCond .ne 5, 3) := by decide +kernel
theorem dX9_saying_11 : decode cX9_saying 11 = .ok (.iconst (-1), 1) := by decide +kernel
theorem dX9_saying_12 : decode cX9_saying 12 = .ok (.ireturn, 1) := by decide +kernel
theorem dX9_saying_13 : decode cX9_saying 13 = .ok (.iload_n 2, 1) := by decide +kernel
theorem dX9_saying_14 : decode cX9_saying 14 = .ok (.lookupswitch 52 #[(0, 26), (1, 35)], 26) := by decide +kernel
theorem dX9_saying_40 : decode cX9_saying 40 = .ok (.aload_n 0, 1) := by decide +kernel
theorem dX9_saying_41 : decode cX9_saying 41 = .ok (.getfield 19, 3) := by decide +kernel
theorem dX9_saying_44 : decode cX9_saying 44 = .ok (.iload_n 1, 1) := by decide +kernel
theorem dX9_saying_45 : decode cX9_saying 45 = .ok (.invokevirtual 136, 3) := by decide +kernel
theorem dX9_saying_48 : decode cX9_saying 48 = .ok (.ireturn, 1) := by decide +kernel
theorem dX9_saying_49 : decode cX9_saying 49 = .ok (.aload_n 0, 1) := by decide +kernel
theorem dX9_saying_50 : decode cX9_saying 50 = .ok (.getfield 19, 3) := by decide +kernel
theorem dX9_saying_53 : decode cX9_saying 53 = .ok (.iload_n 1, 1) := by decide +kernel
theorem dX9_saying_54 : decode cX9_saying 54 = .ok (.invokevirtual 139, 3) := by decide +kernel
theorem dX9_saying_57 : decode cX9_saying 57 = .ok (.ifCond .eq 7, 3) := by decide +kernel
theorem dX9_saying_60 : decode cX9_saying 60 = .ok (.iconst 1, 1) := by decide +kernel
theorem dX9_saying_61 : decode cX9_saying 61 = .ok (.goto 4, 3) := by decide +kernel
theorem dX9_saying_64 : decode cX9_saying 64 = .ok (.iconst 0, 1) := by decide +kernel
theorem dX9_saying_65 : decode cX9_saying 65 = .ok (.ireturn, 1) := by decide +kernel
theorem dX9_saying_66 : decode cX9_saying 66 = .ok (.iconst (-1), 1) := by decide +kernel
theorem dX9_saying_67 : decode cX9_saying 67 = .ok (.ireturn, 1) := by decide +kernel
set_option maxRecDepth 20000 in
theorem ggX9_asking_X2_hasSaying : GoodIn wsX9_asking wsX2_hasSaying := goodIn_r _ [7, 8, 59, 60, 61, 62, 63, 64, 65, 66, 67] (by decide +kernel) (by decide +kernel)
set_option maxRecDepth 20000 in
theorem gX9_asking_X2_hasSaying : GoodIn wsX9_asking (wsV RX9 133 RX2 yX2_hasSaying wsX2_hasSaying) := goodIn_app (goodIn_of _ (by decide +kernel)) ggX9_asking_X2_hasSaying
set_option maxRecDepth 20000 in
theorem ggX9_asking_X2_hasRelative : GoodIn wsX9_asking wsX2_hasRelative := goodIn_r _ [12, 13, 59, 60, 61, 62, 63, 64, 65, 66, 67] (by decide +kernel) (by decide +kernel)
set_option maxRecDepth 20000 in
theorem gX9_asking_X2_hasRelative : GoodIn wsX9_asking (wsV RX9 107 RX2 yX2_hasRelative wsX2_hasRelative) := goodIn_app (goodIn_of _ (by decide +kernel)) ggX9_asking_X2_hasRelative
set_option maxRecDepth 20000 in
theorem ggX9_asking_X1_deed : GoodIn wsX9_asking wsX1_deed := goodIn_r _ [18, 19, 68, 69, 70, 71, 72, 73, 74, 75] (by decide +kernel) (by decide +kernel)
set_option maxRecDepth 20000 in
theorem gX9_asking_X1_deed : GoodIn wsX9_asking (wsV RX9 142 RX1 yX1_deed wsX1_deed) := goodIn_app (goodIn_of _ (by decide +kernel)) ggX9_asking_X1_deed
set_option maxRecDepth 20000 in
theorem ggX9_asking_X2_isAsking : GoodIn wsX9_asking wsX2_isAsking := goodIn_r _ [23, 24, 25, 26, 27, 6, 28, 29, 30, 4, 5, 7, 8, 31, 32, 33, 34, 35, 36, 37, 38, 39, 40, 41, 10, 11, 12, 13, 42, 43, 44, 45, 46, 47, 48, 59, 60, 61, 62, 63, 64, 65, 66, 67] (by decide +kernel) (by decide +kernel)
set_option maxRecDepth 20000 in
theorem gX9_asking_X2_isAsking : GoodIn wsX9_asking (wsV RX9 145 RX2 yX2_isAsking wsX2_isAsking) := goodIn_app (goodIn_of _ (by decide +kernel)) ggX9_asking_X2_isAsking
theorem dX9_asking_0 : decode cX9_asking 0 = .ok (.aload_n 0, 1) := by decide +kernel
theorem dX9_asking_1 : decode cX9_asking 1 = .ok (.getfield 19, 3) := by decide +kernel
theorem dX9_asking_4 : decode cX9_asking 4 = .ok (.iload_n 1, 1) := by decide +kernel
theorem dX9_asking_5 : decode cX9_asking 5 = .ok (.invokevirtual 133, 3) := by decide +kernel
theorem dX9_asking_8 : decode cX9_asking 8 = .ok (.ifCond .eq 14, 3) := by decide +kernel
theorem dX9_asking_11 : decode cX9_asking 11 = .ok (.aload_n 0, 1) := by decide +kernel
theorem dX9_asking_12 : decode cX9_asking 12 = .ok (.getfield 19, 3) := by decide +kernel
theorem dX9_asking_15 : decode cX9_asking 15 = .ok (.iload_n 2, 1) := by decide +kernel
theorem dX9_asking_16 : decode cX9_asking 16 = .ok (.invokevirtual 107, 3) := by decide +kernel
theorem dX9_asking_19 : decode cX9_asking 19 = .ok (.ifCond .ne 5, 3) := by decide +kernel
theorem dX9_asking_22 : decode cX9_asking 22 = .ok (.iconst (-1), 1) := by decide +kernel
theorem dX9_asking_23 : decode cX9_asking 23 = .ok (.ireturn, 1) := by decide +kernel
theorem dX9_asking_24 : decode cX9_asking 24 = .ok (.aload_n 0, 1) := by decide +kernel
theorem dX9_asking_25 : decode cX9_asking 25 = .ok (.getfield 19, 3) := by decide +kernel
theorem dX9_asking_28 : decode cX9_asking 28 = .ok (.iload_n 1, 1) := by decide +kernel
theorem dX9_asking_29 : decode cX9_asking 29 = .ok (.iload_n 2, 1) := by decide +kernel
theorem dX9_asking_30 : decode cX9_asking 30 = .ok (.aload_n 0, 1) := by decide +kernel
theorem dX9_asking_31 : decode cX9_asking 31 = .ok (.getfield 29, 3) := by decide +kernel
theorem dX9_asking_34 : decode cX9_asking 34 = .ok (.invokevirtual 142, 3) := by decide +kernel
theorem dX9_asking_37 : decode cX9_asking 37 = .ok (.invokevirtual 145, 3) := by decide +kernel
theorem dX9_asking_40 : decode cX9_asking 40 = .ok (.ifCond .eq 7, 3) := by decide +kernel
theorem dX9_asking_43 : decode cX9_asking 43 = .ok (.iconst 1, 1) := by decide +kernel
theorem dX9_asking_44 : decode cX9_asking 44 = .ok (.goto 4, 3) := by decide +kernel
theorem dX9_asking_47 : decode cX9_asking 47 = .ok (.iconst 0, 1) := by decide +kernel
theorem dX9_asking_48 : decode cX9_asking 48 = .ok (.ireturn, 1) := by decide +kernel
set_option maxRecDepth 20000 in
theorem ggX9_knows_X2_hasRelative : GoodIn wsX9_knows wsX2_hasRelative := goodIn_r _ [7, 8, 48, 49, 50, 51, 52, 53, 54, 55, 56] (by decide +kernel) (by decide +kernel)
set_option maxRecDepth 20000 in
theorem gX9_knows_X2_hasRelative : GoodIn wsX9_knows (wsV RX9 107 RX2 yX2_hasRelative wsX2_hasRelative) := goodIn_app (goodIn_of _ (by decide +kernel)) ggX9_knows_X2_hasRelative
set_option maxRecDepth 20000 in
theorem ggX9_knows_X1_agoKnown : GoodIn wsX9_knows wsX1_agoKnown := goodIn_r _ [13, 14, 15, 16, 17, 18, 19, 20, 21, 22, 23, 24, 25, 26, 27, 28, 29, 6, 30, 31, 32, 4, 5, 7, 8, 33, 34, 35, 12, 36, 37, 57, 58, 59, 60, 61, 62, 63, 64, 65, 66, 67, 68, 69, 48, 49, 50, 51, 52, 53, 54, 55, 56] (by decide +kernel) (by decide +kernel)
set_option maxRecDepth 20000 in
theorem gX9_knows_X1_agoKnown : GoodIn wsX9_knows (wsV RX9 149 RX1 yX1_agoKnown wsX1_agoKnown) := goodIn_app (goodIn_of _ (by decide +kernel)) ggX9_knows_X1_agoKnown
theorem dX9_knows_0 : decode cX9_knows 0 = .ok (.aload_n 0, 1) := by decide +kernel
theorem dX9_knows_1 : decode cX9_knows 1 = .ok (.getfield 19, 3) := by decide +kernel
theorem dX9_knows_4 : decode cX9_knows 4 = .ok (.iload_n 1, 1) := by decide +kernel
theorem dX9_knows_5 : decode cX9_knows 5 = .ok (.invokevirtual 107, 3) := by decide +kernel
theorem dX9_knows_8 : decode cX9_knows 8 = .ok (.ifCond .eq 14, 3) := by decide +kernel
theorem dX9_knows_11 : decode cX9_knows 11 = .ok (.aload_n 0, 1) := by decide +kernel
theorem dX9_knows_12 : decode cX9_knows 12 = .ok (.getfield 19, 3) := by decide +kernel
theorem dX9_knows_15 : decode cX9_knows 15 = .ok (.iload_n 2, 1) := by decide +kernel
theorem dX9_knows_16 : decode cX9_knows 16 = .ok (.invokevirtual 107, 3) := by decide +kernel
theorem dX9_knows_19 : decode cX9_knows 19 = .ok (.ifCond .ne 5, 3) := by decide +kernel
theorem dX9_knows_22 : decode cX9_knows 22 = .ok (.iconst (-1), 1) := by decide +kernel
theorem dX9_knows_23 : decode cX9_knows 23 = .ok (.ireturn, 1) := by decide +kernel
theorem dX9_knows_24 : decode cX9_knows 24 = .ok (.aload_n 0, 1) := by decide +kernel
theorem dX9_knows_25 : decode cX9_knows 25 = .ok (.getfield 29, 3) := by decide +kernel
theorem dX9_knows_28 : decode cX9_knows 28 = .ok (.aload_n 0, 1) := by decide +kernel
theorem dX9_knows_29 : decode cX9_knows 29 = .ok (.getfield 19, 3) := by decide +kernel
theorem dX9_knows_32 : decode cX9_knows 32 = .ok (.iload_n 1, 1) := by decide +kernel
theorem dX9_knows_33 : decode cX9_knows 33 = .ok (.iload_n 2, 1) := by decide +kernel
theorem dX9_knows_34 : decode cX9_knows 34 = .ok (.invokevirtual 149, 3) := by decide +kernel
theorem dX9_knows_37 : decode cX9_knows 37 = .ok (.ireturn, 1) := by decide +kernel
set_option maxRecDepth 20000 in
theorem ggX9_say_X2_hasRelative : GoodIn wsX9_say wsX2_hasRelative := goodIn_r _ [8, 9, 118, 119, 120, 121, 122, 123, 124, 125, 126] (by decide +kernel) (by decide +kernel)
set_option maxRecDepth 20000 in
theorem gX9_say_X2_hasRelative : GoodIn wsX9_say (wsV RX9 107 RX2 yX2_hasRelative wsX2_hasRelative) := goodIn_app (goodIn_of _ (by decide +kernel)) ggX9_say_X2_hasRelative
set_option maxRecDepth 20000 in
theorem ggX9_say_X2_hasSaying : GoodIn wsX9_say wsX2_hasSaying := goodIn_r _ [13, 14, 118, 119, 120, 121, 122, 123, 124, 125, 126] (by decide +kernel) (by decide +kernel)
set_option maxRecDepth 20000 in
theorem gX9_say_X2_hasSaying : GoodIn wsX9_say (wsV RX9 133 RX2 yX2_hasSaying wsX2_hasSaying) := goodIn_app (goodIn_of _ (by decide +kernel)) ggX9_say_X2_hasSaying
set_option maxRecDepth 20000 in
theorem ggX9_say_X1_saidToday : GoodIn wsX9_say wsX1_saidToday := goodIn_r _ [19, 20, 127, 128, 129, 130, 131, 132, 133, 134] (by decide +kernel) (by decide +kernel)
set_option maxRecDepth 20000 in
theorem gX9_say_X1_saidToday : GoodIn wsX9_say (wsV RX9 153 RX1 yX1_saidToday wsX1_saidToday) := goodIn_app (goodIn_of _ (by decide +kernel)) ggX9_say_X1_saidToday
set_option maxRecDepth 20000 in
theorem ggX9_say_X3_push : GoodIn wsX9_say wsX3_push := goodIn_r _ [25, 26, 27, 28, 29, 30, 31, 32, 33, 34, 35, 24, 36, 37, 38, 39, 18, 40, 41, 42, 43, 44, 45, 46, 47, 48, 49, 50, 20, 51, 52, 53, 54, 55, 56, 57, 58, 59, 60, 61, 62, 135, 136, 137, 127, 128, 129, 130, 131, 132, 133, 134, 138, 139, 140, 141, 142] (by decide +kernel) (by decide +kernel)
set_option maxRecDepth 20000 in
theorem gX9_say_X3_push : GoodIn wsX9_say (wsV RX9 156 RX3 yX3_push wsX3_push) := goodIn_app (goodIn_of _ (by decide +kernel)) ggX9_say_X3_push
set_option maxRecDepth 20000 in
theorem ggX9_say_X1_hear : GoodIn wsX9_say wsX1_hear := goodIn_r _ [66, 20, 51, 41, 47, 42, 67, 68, 69, 18, 70, 49, 50, 48, 71, 72, 73, 55, 74, 60, 75, 76, 77, 7, 78, 79, 80, 81, 82, 83, 84, 85, 11, 12, 13, 14, 86, 87, 88, 89, 90, 91, 92, 93, 94, 95, 96, 5, 6, 8, 9, 97, 98, 99, 100, 101, 102, 103, 104, 105, 106, 107, 59, 57, 61, 127, 128, 129, 130, 131, 132, 133, 134, 138, 139, 140, 141, 142, 118, 119, 120, 121, 122, 123, 124, 125, 126] (by decide +kernel) (by decide +kernel)
set_option maxRecDepth 20000 in
theorem gX9_say_X1_hear : GoodIn wsX9_say (wsV RX9 160 RX1 yX1_hear wsX1_hear) := goodIn_app (goodIn_of _ (by decide +kernel)) ggX9_say_X1_hear
theorem dX9_say_0 : decode cX9_say 0 = .ok (.aload_n 0, 1) := by decide +kernel
theorem dX9_say_1 : decode cX9_say 1 = .ok (.getfield 19, 3) := by decide +kernel
theorem dX9_say_4 : decode cX9_say 4 = .ok (.iload_n 1, 1) := by decide +kernel
theorem dX9_say_5 : decode cX9_say 5 = .ok (.invokevirtual 107, 3) := by decide +kernel
theorem dX9_say_8 : decode cX9_say 8 = .ok (.ifCond .eq 14, 3) := by decide +kernel
theorem dX9_say_11 : decode cX9_say 11 = .ok (.aload_n 0, 1) := by decide +kernel
theorem dX9_say_12 : decode cX9_say 12 = .ok (.getfield 19, 3) := by decide +kernel
theorem dX9_say_15 : decode cX9_say 15 = .ok (.iload_n 2, 1) := by decide +kernel
theorem dX9_say_16 : decode cX9_say 16 = .ok (.invokevirtual 133, 3) := by decide +kernel
theorem dX9_say_19 : decode cX9_say 19 = .ok (.ifCond .ne 5, 3) := by decide +kernel
theorem dX9_say_22 : decode cX9_say 22 = .ok (.iconst (-1), 1) := by decide +kernel
theorem dX9_say_23 : decode cX9_say 23 = .ok (.ireturn, 1) := by decide +kernel
theorem dX9_say_24 : decode cX9_say 24 = .ok (.aload_n 0, 1) := by decide +kernel
theorem dX9_say_25 : decode cX9_say 25 = .ok (.getfield 29, 3) := by decide +kernel
theorem dX9_say_28 : decode cX9_say 28 = .ok (.invokevirtual 153, 3) := by decide +kernel
theorem dX9_say_31 : decode cX9_say 31 = .ok (.iconst 4, 1) := by decide +kernel
theorem dX9_say_32 : decode cX9_say 32 = .ok (.if_icmp .lt 6, 3) := by decide +kernel
theorem dX9_say_35 : decode cX9_say 35 = .ok (.bipush (-3), 2) := by decide +kernel
theorem dX9_say_37 : decode cX9_say 37 = .ok (.ireturn, 1) := by decide +kernel
theorem dX9_say_38 : decode cX9_say 38 = .ok (.aload_n 0, 1) := by decide +kernel
theorem dX9_say_39 : decode cX9_say 39 = .ok (.getfield 38, 3) := by decide +kernel
theorem dX9_say_42 : decode cX9_say 42 = .ok (.aload_n 0, 1) := by decide +kernel
theorem dX9_say_43 : decode cX9_say 43 = .ok (.getfield 29, 3) := by decide +kernel
theorem dX9_say_46 : decode cX9_say 46 = .ok (.invokevirtual 156, 3) := by decide +kernel
theorem dX9_say_49 : decode cX9_say 49 = .ok (.aload_n 0, 1) := by decide +kernel
theorem dX9_say_50 : decode cX9_say 50 = .ok (.getfield 29, 3) := by decide +kernel
theorem dX9_say_53 : decode cX9_say 53 = .ok (.aload_n 0, 1) := by decide +kernel
theorem dX9_say_54 : decode cX9_say 54 = .ok (.getfield 19, 3) := by decide +kernel
theorem dX9_say_57 : decode cX9_say 57 = .ok (.iload_n 1, 1) := by decide +kernel
theorem dX9_say_58 : decode cX9_say 58 = .ok (.iload_n 2, 1) := by decide +kernel
theorem dX9_say_59 : decode cX9_say 59 = .ok (.invokevirtual 160, 3) := by decide +kernel
theorem dX9_say_62 : decode cX9_say 62 = .ok (.ifCond .eq 7, 3) := by decide +kernel
theorem dX9_say_65 : decode cX9_say 65 = .ok (.iconst 1, 1) := by decide +kernel
theorem dX9_say_66 : decode cX9_say 66 = .ok (.goto 4, 3) := by decide +kernel
theorem dX9_say_69 : decode cX9_say 69 = .ok (.iconst 0, 1) := by decide +kernel
theorem dX9_say_70 : decode cX9_say 70 = .ok (.ireturn, 1) := by decide +kernel
set_option maxRecDepth 20000 in
theorem ggX9_noon_X1_trust : GoodIn wsX9_noon wsX1_trust := goodIn_r _ [7, 8, 85, 86, 87, 88, 89, 90, 91, 92] (by decide +kernel) (by decide +kernel)
set_option maxRecDepth 20000 in
theorem gX9_noon_X1_trust : GoodIn wsX9_noon (wsV RX9 115 RX1 yX1_trust wsX1_trust) := goodIn_app (goodIn_of _ (by decide +kernel)) ggX9_noon_X1_trust
set_option maxRecDepth 20000 in
theorem ggX9_noon_X6_day : GoodIn wsX9_noon wsX6_day := goodIn_r _ [13, 14, 93, 94, 95, 96, 97] (by decide +kernel) (by decide +kernel)
set_option maxRecDepth 20000 in
theorem gX9_noon_X6_day : GoodIn wsX9_noon (wsV RX9 164 RX6 yX6_day wsX6_day) := goodIn_app (goodIn_of _ (by decide +kernel)) ggX9_noon_X6_day
set_option maxRecDepth 20000 in
theorem ggX9_noon_X3_push : GoodIn wsX9_noon wsX3_push := goodIn_r _ [19, 20, 21, 22, 23, 24, 25, 26, 27, 28, 29, 18, 30, 31, 32, 33, 6, 34, 8, 35, 36, 37, 38, 39, 40, 41, 42, 43, 44, 45, 46, 47, 48, 12, 49, 50, 51, 52, 14, 53, 54, 98, 99, 100, 85, 86, 87, 88, 89, 90, 91, 92, 93, 94, 95, 96, 97] (by decide +kernel) (by decide +kernel)
set_option maxRecDepth 20000 in
theorem gX9_noon_X3_push : GoodIn wsX9_noon (wsV RX9 156 RX3 yX3_push wsX3_push) := goodIn_app (goodIn_of _ (by decide +kernel)) ggX9_noon_X3_push
set_option maxRecDepth 20000 in
theorem ggX9_noon_X1_passNoon : GoodIn wsX9_noon wsX1_passNoon := goodIn_r _ [58, 8, 44, 35, 59, 60, 61, 12, 62, 53, 54, 14, 63, 64, 65, 66, 52, 67, 68, 69, 70, 50, 85, 86, 87, 88, 89, 90, 91, 92, 93, 94, 95, 96, 97] (by decide +kernel) (by decide +kernel)
set_option maxRecDepth 20000 in
theorem gX9_noon_X1_passNoon : GoodIn wsX9_noon (wsV RX9 167 RX1 yX1_passNoon wsX1_passNoon) := goodIn_app (goodIn_of _ (by decide +kernel)) ggX9_noon_X1_passNoon
set_option maxRecDepth 20000 in
theorem ggX9_noon_X6_owner : GoodIn wsX9_noon wsX6_owner := goodIn_r _ [74, 54, 93, 94, 95, 96, 97] (by decide +kernel) (by decide +kernel)
set_option maxRecDepth 20000 in
theorem gX9_noon_X6_owner : GoodIn wsX9_noon (wsV RX9 127 RX6 yX6_owner wsX6_owner) := goodIn_app (goodIn_of _ (by decide +kernel)) ggX9_noon_X6_owner
theorem dX9_noon_0 : decode cX9_noon 0 = .ok (.aload_n 0, 1) := by decide +kernel
theorem dX9_noon_1 : decode cX9_noon 1 = .ok (.getfield 29, 3) := by decide +kernel
theorem dX9_noon_4 : decode cX9_noon 4 = .ok (.invokevirtual 115, 3) := by decide +kernel
theorem dX9_noon_7 : decode cX9_noon 7 = .ok (.invokevirtual 164, 3) := by decide +kernel
theorem dX9_noon_10 : decode cX9_noon 10 = .ok (.sipush 9999, 3) := by decide +kernel
theorem dX9_noon_13 : decode cX9_noon 13 = .ok (.if_icmp .lt 6, 3) := by decide +kernel
theorem dX9_noon_16 : decode cX9_noon 16 = .ok (.bipush (-2), 2) := by decide +kernel
theorem dX9_noon_18 : decode cX9_noon 18 = .ok (.ireturn, 1) := by decide +kernel
theorem dX9_noon_19 : decode cX9_noon 19 = .ok (.aload_n 0, 1) := by decide +kernel
theorem dX9_noon_20 : decode cX9_noon 20 = .ok (.getfield 38, 3) := by decide +kernel
theorem dX9_noon_23 : decode cX9_noon 23 = .ok (.aload_n 0, 1) := by decide +kernel
theorem dX9_noon_24 : decode cX9_noon 24 = .ok (.getfield 29, 3) := by decide +kernel
theorem dX9_noon_27 : decode cX9_noon 27 = .ok (.invokevirtual 156, 3) := by decide +kernel
theorem dX9_noon_30 : decode cX9_noon 30 = .ok (.aload_n 0, 1) := by decide +kernel
theorem dX9_noon_31 : decode cX9_noon 31 = .ok (.getfield 29, 3) := by decide +kernel
theorem dX9_noon_34 : decode cX9_noon 34 = .ok (.invokevirtual 167, 3) := by decide +kernel
theorem dX9_noon_37 : decode cX9_noon 37 = .ok (.aload_n 0, 1) := by decide +kernel
theorem dX9_noon_38 : decode cX9_noon 38 = .ok (.getfield 29, 3) := by decide +kernel
theorem dX9_noon_41 : decode cX9_noon 41 = .ok (.invokevirtual 115, 3) := by decide +kernel
theorem dX9_noon_44 : decode cX9_noon 44 = .ok (.invokevirtual 127, 3) := by decide +kernel
theorem dX9_noon_47 : decode cX9_noon 47 = .ok (.ireturn, 1) := by decide +kernel
set_option maxRecDepth 20000 in
theorem ggX9_mend_X1_deed : GoodIn wsX9_mend wsX1_deed := goodIn_r _ [7, 8, 65, 66, 67, 68, 69, 70, 71, 72] (by decide +kernel) (by decide +kernel)
set_option maxRecDepth 20000 in
theorem gX9_mend_X1_deed : GoodIn wsX9_mend (wsV RX9 142 RX1 yX1_deed wsX1_deed) := goodIn_app (goodIn_of _ (by decide +kernel)) ggX9_mend_X1_deed
set_option maxRecDepth 20000 in
theorem ggX9_mend_X3_push : GoodIn wsX9_mend wsX3_push := goodIn_r _ [13, 14, 15, 16, 17, 18, 19, 20, 21, 22, 23, 12, 24, 25, 26, 27, 6, 28, 29, 30, 31, 32, 33, 34, 35, 36, 37, 38, 39, 8, 40, 41, 42, 43, 44, 45, 46, 47, 48, 49, 50, 73, 74, 75, 65, 66, 67, 68, 69, 70, 71, 72, 76, 77, 78, 79, 80] (by decide +kernel) (by decide +kernel)
set_option maxRecDepth 20000 in
theorem gX9_mend_X3_push : GoodIn wsX9_mend (wsV RX9 156 RX3 yX3_push wsX3_push) := goodIn_app (goodIn_of _ (by decide +kernel)) ggX9_mend_X3_push
set_option maxRecDepth 20000 in
theorem ggX9_mend_X1_setDeed : GoodIn wsX9_mend wsX1_setDeed := goodIn_r _ [54, 8, 65, 66, 67, 68, 69, 70, 71, 72] (by decide +kernel) (by decide +kernel)
set_option maxRecDepth 20000 in
theorem gX9_mend_X1_setDeed : GoodIn wsX9_mend (wsV RX9 170 RX1 yX1_setDeed wsX1_setDeed) := goodIn_app (goodIn_of _ (by decide +kernel)) ggX9_mend_X1_setDeed
theorem dX9_mend_0 : decode cX9_mend 0 = .ok (.iload_n 1, 1) := by decide +kernel
theorem dX9_mend_1 : decode cX9_mend 1 = .ok (.ifCond .lt 9, 3) := by decide +kernel
theorem dX9_mend_4 : decode cX9_mend 4 = .ok (.iload_n 1, 1) := by decide +kernel
theorem dX9_mend_5 : decode cX9_mend 5 = .ok (.bipush 64, 2) := by decide +kernel
theorem dX9_mend_7 : decode cX9_mend 7 = .ok (.if_icmp .lt 5, 3) := by decide +kernel
theorem dX9_mend_10 : decode cX9_mend 10 = .ok (.iconst (-1), 1) := by decide +kernel
theorem dX9_mend_11 : decode cX9_mend 11 = .ok (.ireturn, 1) := by decide +kernel
theorem dX9_mend_12 : decode cX9_mend 12 = .ok (.aload_n 0, 1) := by decide +kernel
theorem dX9_mend_13 : decode cX9_mend 13 = .ok (.getfield 29, 3) := by decide +kernel
theorem dX9_mend_16 : decode cX9_mend 16 = .ok (.invokevirtual 142, 3) := by decide +kernel
theorem dX9_mend_19 : decode cX9_mend 19 = .ok (.istore_n 2, 1) := by decide +kernel
theorem dX9_mend_20 : decode cX9_mend 20 = .ok (.aload_n 0, 1) := by decide +kernel
theorem dX9_mend_21 : decode cX9_mend 21 = .ok (.getfield 38, 3) := by decide +kernel
theorem dX9_mend_24 : decode cX9_mend 24 = .ok (.aload_n 0, 1) := by decide +kernel
theorem dX9_mend_25 : decode cX9_mend 25 = .ok (.getfield 29, 3) := by decide +kernel
theorem dX9_mend_28 : decode cX9_mend 28 = .ok (.invokevirtual 156, 3) := by decide +kernel
theorem dX9_mend_31 : decode cX9_mend 31 = .ok (.aload_n 0, 1) := by decide +kernel
theorem dX9_mend_32 : decode cX9_mend 32 = .ok (.getfield 29, 3) := by decide +kernel
theorem dX9_mend_35 : decode cX9_mend 35 = .ok (.iload_n 1, 1) := by decide +kernel
theorem dX9_mend_36 : decode cX9_mend 36 = .ok (.invokevirtual 170, 3) := by decide +kernel
theorem dX9_mend_39 : decode cX9_mend 39 = .ok (.iload_n 2, 1) := by decide +kernel
theorem dX9_mend_40 : decode cX9_mend 40 = .ok (.ireturn, 1) := by decide +kernel
set_option maxRecDepth 20000 in
theorem ggX9_undo_X3_held : GoodIn wsX9_undo wsX3_held := goodIn_r _ [7, 8, 57, 58, 59] (by decide +kernel) (by decide +kernel)
set_option maxRecDepth 20000 in
theorem gX9_undo_X3_held : GoodIn wsX9_undo (wsV RX9 173 RX3 yX3_held wsX3_held) := goodIn_app (goodIn_of _ (by decide +kernel)) ggX9_undo_X3_held
set_option maxRecDepth 20000 in
theorem ggX9_undo_X3_pop : GoodIn wsX9_undo wsX3_pop := goodIn_r _ [12, 8, 13, 14, 15, 16, 17, 6, 18, 19, 20, 21, 22, 23, 24, 25, 26, 27, 28, 29, 30, 31, 32, 33, 34, 35, 36, 37, 38, 39, 40, 41, 42, 43, 44, 45, 46, 57, 58, 59, 60, 61, 62, 63, 64, 65, 66, 67, 68, 69, 70, 71, 72] (by decide +kernel) (by decide +kernel)
set_option maxRecDepth 20000 in
theorem gX9_undo_X3_pop : GoodIn wsX9_undo (wsV RX9 176 RX3 yX3_pop wsX3_pop) := goodIn_app (goodIn_of _ (by decide +kernel)) ggX9_undo_X3_pop
theorem dX9_undo_0 : decode cX9_undo 0 = .ok (.aload_n 0, 1) := by decide +kernel
theorem dX9_undo_1 : decode cX9_undo 1 = .ok (.getfield 38, 3) := by decide +kernel
theorem dX9_undo_4 : decode cX9_undo 4 = .ok (.invokevirtual 173, 3) := by decide +kernel
theorem dX9_undo_7 : decode cX9_undo 7 = .ok (.ifCond .ne 6, 3) := by decide +kernel
theorem dX9_undo_10 : decode cX9_undo 10 = .ok (.bipush (-2), 2) := by decide +kernel
theorem dX9_undo_12 : decode cX9_undo 12 = .ok (.ireturn, 1) := by decide +kernel
theorem dX9_undo_13 : decode cX9_undo 13 = .ok (.aload_n 0, 1) := by decide +kernel
theorem dX9_undo_14 : decode cX9_undo 14 = .ok (.getfield 38, 3) := by decide +kernel
theorem dX9_undo_17 : decode cX9_undo 17 = .ok (.aload_n 0, 1) := by decide +kernel
theorem dX9_undo_18 : decode cX9_undo 18 = .ok (.getfield 29, 3) := by decide +kernel
theorem dX9_undo_21 : decode cX9_undo 21 = .ok (.invokevirtual 176, 3) := by decide +kernel
theorem dX9_undo_24 : decode cX9_undo 24 = .ok (.aload_n 0, 1) := by decide +kernel
theorem dX9_undo_25 : decode cX9_undo 25 = .ok (.getfield 38, 3) := by decide +kernel
theorem dX9_undo_28 : decode cX9_undo 28 = .ok (.invokevirtual 173, 3) := by decide +kernel
theorem dX9_undo_31 : decode cX9_undo 31 = .ok (.ireturn, 1) := by decide +kernel
set_option maxRecDepth 20000 in
theorem ggX9_heir_X2_hasRelative : GoodIn wsX9_heir wsX2_hasRelative := goodIn_r _ [7, 8, 37, 38, 39, 40, 41, 42, 43, 44, 45] (by decide +kernel) (by decide +kernel)
set_option maxRecDepth 20000 in
theorem gX9_heir_X2_hasRelative : GoodIn wsX9_heir (wsV RX9 107 RX2 yX2_hasRelative wsX2_hasRelative) := goodIn_app (goodIn_of _ (by decide +kernel)) ggX9_heir_X2_hasRelative
set_option maxRecDepth 20000 in
theorem ggX9_heir_X1_trust : GoodIn wsX9_heir wsX1_trust := goodIn_r _ [13, 14, 46, 47, 48, 49, 50, 51, 52, 53] (by decide +kernel) (by decide +kernel)
set_option maxRecDepth 20000 in
theorem gX9_heir_X1_trust : GoodIn wsX9_heir (wsV RX9 115 RX1 yX1_trust wsX1_trust) := goodIn_app (goodIn_of _ (by decide +kernel)) ggX9_heir_X1_trust
set_option maxRecDepth 20000 in
theorem ggX9_heir_X6_longestIf : GoodIn wsX9_heir wsX6_longestIf := goodIn_r _ [19, 20, 21, 22, 23, 18, 24, 25, 26, 54, 55, 56, 57, 58] (by decide +kernel) (by decide +kernel)
set_option maxRecDepth 20000 in
theorem gX9_heir_X6_longestIf : GoodIn wsX9_heir (wsV RX9 179 RX6 yX6_longestIf wsX6_longestIf) := goodIn_app (goodIn_of _ (by decide +kernel)) ggX9_heir_X6_longestIf
theorem dX9_heir_0 : decode cX9_heir 0 = .ok (.aload_n 0, 1) := by decide +kernel
theorem dX9_heir_1 : decode cX9_heir 1 = .ok (.getfield 19, 3) := by decide +kernel
theorem dX9_heir_4 : decode cX9_heir 4 = .ok (.iload_n 1, 1) := by decide +kernel
theorem dX9_heir_5 : decode cX9_heir 5 = .ok (.invokevirtual 107, 3) := by decide +kernel
theorem dX9_heir_8 : decode cX9_heir 8 = .ok (.ifCond .eq 19, 3) := by decide +kernel
theorem dX9_heir_11 : decode cX9_heir 11 = .ok (.aload_n 0, 1) := by decide +kernel
theorem dX9_heir_12 : decode cX9_heir 12 = .ok (.getfield 29, 3) := by decide +kernel
theorem dX9_heir_15 : decode cX9_heir 15 = .ok (.invokevirtual 115, 3) := by decide +kernel
theorem dX9_heir_18 : decode cX9_heir 18 = .ok (.iconst 1, 1) := by decide +kernel
theorem dX9_heir_19 : decode cX9_heir 19 = .ok (.iload_n 1, 1) := by decide +kernel
theorem dX9_heir_20 : decode cX9_heir 20 = .ok (.ishl, 1) := by decide +kernel
theorem dX9_heir_21 : decode cX9_heir 21 = .ok (.invokevirtual 179, 3) := by decide +kernel
theorem dX9_heir_24 : decode cX9_heir 24 = .ok (.goto 4, 3) := by decide +kernel
theorem dX9_heir_27 : decode cX9_heir 27 = .ok (.iconst (-1), 1) := by decide +kernel
theorem dX9_heir_28 : decode cX9_heir 28 = .ok (.ireturn, 1) := by decide +kernel
set_option maxRecDepth 20000 in
theorem ggX9_among_X1_trust : GoodIn wsX9_among wsX1_trust := goodIn_r _ [6, 7, 34, 35, 36, 37, 38, 39, 40, 41] (by decide +kernel) (by decide +kernel)
set_option maxRecDepth 20000 in
theorem gX9_among_X1_trust : GoodIn wsX9_among (wsV RX9 115 RX1 yX1_trust wsX1_trust) := goodIn_app (goodIn_of _ (by decide +kernel)) ggX9_among_X1_trust
set_option maxRecDepth 20000 in
theorem ggX9_among_X6_heirs : GoodIn wsX9_among wsX6_heirs := goodIn_r _ [12, 13, 14, 15, 16, 11, 17, 18, 19, 20, 21, 22, 23, 42, 43, 44, 45, 46] (by decide +kernel) (by decide +kernel)
set_option maxRecDepth 20000 in
theorem gX9_among_X6_heirs : GoodIn wsX9_among (wsV RX9 182 RX6 yX6_heirs wsX6_heirs) := goodIn_app (goodIn_of _ (by decide +kernel)) ggX9_among_X6_heirs
theorem dX9_among_0 : decode cX9_among 0 = .ok (.aload_n 0, 1) := by decide +kernel
theorem dX9_among_1 : decode cX9_among 1 = .ok (.getfield 29, 3) := by decide +kernel
theorem dX9_among_4 : decode cX9_among 4 = .ok (.invokevirtual 115, 3) := by decide +kernel
theorem dX9_among_7 : decode cX9_among 7 = .ok (.invokevirtual 182, 3) := by decide +kernel
theorem dX9_among_10 : decode cX9_among 10 = .ok (.ireturn, 1) := by decide +kernel
set_option maxRecDepth 20000 in
theorem ggX9_thinks_X2_hasRelative : GoodIn wsX9_thinks wsX2_hasRelative := goodIn_r _ [7, 8, 56, 57, 58, 59, 60, 61, 62, 63, 64] (by decide +kernel) (by decide +kernel)
set_option maxRecDepth 20000 in
theorem gX9_thinks_X2_hasRelative : GoodIn wsX9_thinks (wsV RX9 107 RX2 yX2_hasRelative wsX2_hasRelative) := goodIn_app (goodIn_of _ (by decide +kernel)) ggX9_thinks_X2_hasRelative
set_option maxRecDepth 20000 in
theorem ggX9_thinks_X1_longestKnown : GoodIn wsX9_thinks wsX1_longestKnown := goodIn_r _ [13, 14, 15, 16, 6, 17, 8, 18, 19, 20, 12, 21, 22, 23, 24, 25, 26, 27, 28, 29, 30, 31, 32, 33, 34, 35, 36, 37, 38, 39, 40, 4, 5, 7, 41, 42, 43, 44, 45, 56, 57, 58, 59, 60, 61, 62, 63, 64, 65, 66, 67, 68, 69, 70, 71, 72, 73, 74, 75, 76, 77] (by decide +kernel) (by decide +kernel)
set_option maxRecDepth 20000 in
theorem gX9_thinks_X1_longestKnown : GoodIn wsX9_thinks (wsV RX9 185 RX1 yX1_longestKnown wsX1_longestKnown) := goodIn_app (goodIn_of _ (by decide +kernel)) ggX9_thinks_X1_longestKnown
theorem dX9_thinks_0 : decode cX9_thinks 0 = .ok (.aload_n 0, 1) := by decide +kernel
theorem dX9_thinks_1 : decode cX9_thinks 1 = .ok (.getfield 19, 3) := by decide +kernel
theorem dX9_thinks_4 : decode cX9_thinks 4 = .ok (.iload_n 1, 1) := by decide +kernel
theorem dX9_thinks_5 : decode cX9_thinks 5 = .ok (.invokevirtual 107, 3) := by decide +kernel
theorem dX9_thinks_8 : decode cX9_thinks 8 = .ok (.ifCond .eq 18, 3) := by decide +kernel
theorem dX9_thinks_11 : decode cX9_thinks 11 = .ok (.aload_n 0, 1) := by decide +kernel
theorem dX9_thinks_12 : decode cX9_thinks 12 = .ok (.getfield 29, 3) := by decide +kernel
theorem dX9_thinks_15 : decode cX9_thinks 15 = .ok (.aload_n 0, 1) := by decide +kernel
theorem dX9_thinks_16 : decode cX9_thinks 16 = .ok (.getfield 19, 3) := by decide +kernel
theorem dX9_thinks_19 : decode cX9_thinks 19 = .ok (.iload_n 1, 1) := by decide +kernel
theorem dX9_thinks_20 : decode cX9_thinks 20 = .ok (.invokevirtual 185, 3) := by decide +kernel
theorem dX9_thinks_23 : decode cX9_thinks 23 = .ok (.goto 4, 3) := by decide +kernel
theorem dX9_thinks_26 : decode cX9_thinks 26 = .ok (.iconst (-1), 1) := by decide +kernel
theorem dX9_thinks_27 : decode cX9_thinks 27 = .ok (.ireturn, 1) := by decide +kernel
set_option maxRecDepth 20000 in
theorem ggX9_make_X2_hasRelative : GoodIn wsX9_make wsX2_hasRelative := goodIn_r _ [7, 8, 49, 50, 51, 52, 53, 54, 55, 56, 57] (by decide +kernel) (by decide +kernel)
set_option maxRecDepth 20000 in
theorem gX9_make_X2_hasRelative : GoodIn wsX9_make (wsV RX9 107 RX2 yX2_hasRelative wsX2_hasRelative) := goodIn_app (goodIn_of _ (by decide +kernel)) ggX9_make_X2_hasRelative
set_option maxRecDepth 20000 in
theorem ggX9_make_X1_trust : GoodIn wsX9_make wsX1_trust := goodIn_r _ [13, 14, 58, 59, 60, 61, 62, 63, 64, 65] (by decide +kernel) (by decide +kernel)
set_option maxRecDepth 20000 in
theorem gX9_make_X1_trust : GoodIn wsX9_make (wsV RX9 115 RX1 yX1_trust wsX1_trust) := goodIn_app (goodIn_of _ (by decide +kernel)) ggX9_make_X1_trust
set_option maxRecDepth 20000 in
theorem ggX9_make_X6_fewestFor : GoodIn wsX9_make wsX6_fewestFor := goodIn_r _ [19, 20, 21, 22, 23, 24, 25, 26, 27, 28, 29, 30, 31, 18, 32, 33, 34, 35, 36, 37, 38, 66, 67, 68, 69, 70] (by decide +kernel) (by decide +kernel)
set_option maxRecDepth 20000 in
theorem gX9_make_X6_fewestFor : GoodIn wsX9_make (wsV RX9 189 RX6 yX6_fewestFor wsX6_fewestFor) := goodIn_app (goodIn_of _ (by decide +kernel)) ggX9_make_X6_fewestFor
theorem dX9_make_0 : decode cX9_make 0 = .ok (.aload_n 0, 1) := by decide +kernel
theorem dX9_make_1 : decode cX9_make 1 = .ok (.getfield 19, 3) := by decide +kernel
theorem dX9_make_4 : decode cX9_make 4 = .ok (.iload_n 1, 1) := by decide +kernel
theorem dX9_make_5 : decode cX9_make 5 = .ok (.invokevirtual 107, 3) := by decide +kernel
theorem dX9_make_8 : decode cX9_make 8 = .ok (.ifCond .eq 17, 3) := by decide +kernel
theorem dX9_make_11 : decode cX9_make 11 = .ok (.aload_n 0, 1) := by decide +kernel
theorem dX9_make_12 : decode cX9_make 12 = .ok (.getfield 29, 3) := by decide +kernel
theorem dX9_make_15 : decode cX9_make 15 = .ok (.invokevirtual 115, 3) := by decide +kernel
theorem dX9_make_18 : decode cX9_make 18 = .ok (.iload_n 1, 1) := by decide +kernel
theorem dX9_make_19 : decode cX9_make 19 = .ok (.invokevirtual 189, 3) := by decide +kernel
theorem dX9_make_22 : decode cX9_make 22 = .ok (.goto 4, 3) := by decide +kernel
theorem dX9_make_25 : decode cX9_make 25 = .ok (.iconst (-1), 1) := by decide +kernel
theorem dX9_make_26 : decode cX9_make 26 = .ok (.ireturn, 1) := by decide +kernel
set_option maxRecDepth 20000 in
theorem ggX9_byTurns_X1_trust : GoodIn wsX9_byTurns wsX1_trust := goodIn_r _ [7, 8, 89, 90, 91, 92, 93, 94, 95, 96] (by decide +kernel) (by decide +kernel)
set_option maxRecDepth 20000 in
theorem gX9_byTurns_X1_trust : GoodIn wsX9_byTurns (wsV RX9 115 RX1 yX1_trust wsX1_trust) := goodIn_app (goodIn_of _ (by decide +kernel)) ggX9_byTurns_X1_trust
set_option maxRecDepth 20000 in
theorem ggX9_byTurns_X7_play : GoodIn wsX9_byTurns wsX7_play := goodIn_r _ [13, 14, 15, 16, 17, 18, 19, 20, 21, 22, 23, 24, 25, 26, 27, 12, 28, 29, 30, 31, 32, 33, 34, 35, 36, 37, 38, 39, 40, 41, 42, 43, 44, 45, 46, 47, 48, 49, 50, 51, 52, 53, 54, 55, 56, 57, 58, 59, 60, 61, 62, 63, 64, 65, 66, 67, 68, 69, 70, 97, 98, 99, 100, 101, 102, 103, 104] (by decide +kernel) (by decide +kernel)
set_option maxRecDepth 20000 in
theorem gX9_byTurns_X7_play : GoodIn wsX9_byTurns (wsV RX9 192 RX7 yX7_play wsX7_play) := goodIn_app (goodIn_of _ (by decide +kernel)) ggX9_byTurns_X7_play
set_option maxRecDepth 20000 in
theorem ggX9_byTurns_X7_owner : GoodIn wsX9_byTurns wsX7_owner := goodIn_r _ [74, 18, 97, 98, 99] (by decide +kernel) (by decide +kernel)
set_option maxRecDepth 20000 in
theorem gX9_byTurns_X7_owner : GoodIn wsX9_byTurns (wsV RX9 196 RX7 yX7_owner wsX7_owner) := goodIn_app (goodIn_of _ (by decide +kernel)) ggX9_byTurns_X7_owner
set_option maxRecDepth 20000 in
theorem ggX9_byTurns_X7_firstAsks : GoodIn wsX9_byTurns wsX7_firstAsks := goodIn_r _ [78, 66, 97, 98, 99] (by decide +kernel) (by decide +kernel)
set_option maxRecDepth 20000 in
theorem gX9_byTurns_X7_firstAsks : GoodIn wsX9_byTurns (wsV RX9 197 RX7 yX7_firstAsks wsX7_firstAsks) := goodIn_app (goodIn_of _ (by decide +kernel)) ggX9_byTurns_X7_firstAsks
theorem dX9_byTurns_0 : decode cX9_byTurns 0 = .ok (.iload_n 1, 1) := by decide +kernel
theorem dX9_byTurns_1 : decode cX9_byTurns 1 = .ok (.iconst 1, 1) := by decide +kernel
theorem dX9_byTurns_2 : decode cX9_byTurns 2 = .ok (.if_icmp .lt 18, 3) := by decide +kernel
theorem dX9_byTurns_5 : decode cX9_byTurns 5 = .ok (.iload_n 1, 1) := by decide +kernel
theorem dX9_byTurns_6 : decode cX9_byTurns 6 = .ok (.bipush 6, 2) := by decide +kernel
theorem dX9_byTurns_8 : decode cX9_byTurns 8 = .ok (.if_icmp .gt 12, 3) := by decide +kernel
theorem dX9_byTurns_11 : decode cX9_byTurns 11 = .ok (.iload_n 2, 1) := by decide +kernel
theorem dX9_byTurns_12 : decode cX9_byTurns 12 = .ok (.ifCond .lt 8, 3) := by decide +kernel
theorem dX9_byTurns_15 : decode cX9_byTurns 15 = .ok (.iload_n 2, 1) := by decide +kernel
theorem dX9_byTurns_16 : decode cX9_byTurns 16 = .ok (.iconst 1, 1) := by decide +kernel
theorem dX9_byTurns_17 : decode cX9_byTurns 17 = .ok (.if_icmp .le 5, 3) := by decide +kernel
theorem dX9_byTurns_20 : decode cX9_byTurns 20 = .ok (.iconst (-1), 1) := by decide +kernel
theorem dX9_byTurns_21 : decode cX9_byTurns 21 = .ok (.ireturn, 1) := by decide +kernel
theorem dX9_byTurns_22 : decode cX9_byTurns 22 = .ok (.aload_n 0, 1) := by decide +kernel
theorem dX9_byTurns_23 : decode cX9_byTurns 23 = .ok (.getfield 55, 3) := by decide +kernel
theorem dX9_byTurns_26 : decode cX9_byTurns 26 = .ok (.aload_n 0, 1) := by decide +kernel
theorem dX9_byTurns_27 : decode cX9_byTurns 27 = .ok (.getfield 29, 3) := by decide +kernel
theorem dX9_byTurns_30 : decode cX9_byTurns 30 = .ok (.invokevirtual 115, 3) := by decide +kernel
theorem dX9_byTurns_33 : decode cX9_byTurns 33 = .ok (.iload_n 1, 1) := by decide +kernel
theorem dX9_byTurns_34 : decode cX9_byTurns 34 = .ok (.invokevirtual 192, 3) := by decide +kernel
theorem dX9_byTurns_37 : decode cX9_byTurns 37 = .ok (.iload_n 2, 1) := by decide +kernel
theorem dX9_byTurns_38 : decode cX9_byTurns 38 = .ok (.ifCond .ne 11, 3) := by decide +kernel
theorem dX9_byTurns_41 : decode cX9_byTurns 41 = .ok (.aload_n 0, 1) := by decide +kernel
theorem dX9_byTurns_42 : decode cX9_byTurns 42 = .ok (.getfield 55, 3) := by decide +kernel
theorem dX9_byTurns_45 : decode cX9_byTurns 45 = .ok (.invokevirtual 196, 3) := by decide +kernel
theorem dX9_byTurns_48 : decode cX9_byTurns 48 = .ok (.ireturn, 1) := by decide +kernel
theorem dX9_byTurns_49 : decode cX9_byTurns 49 = .ok (.aload_n 0, 1) := by decide +kernel
theorem dX9_byTurns_50 : decode cX9_byTurns 50 = .ok (.getfield 55, 3) := by decide +kernel
theorem dX9_byTurns_53 : decode cX9_byTurns 53 = .ok (.invokevirtual 197, 3) := by decide +kernel
theorem dX9_byTurns_56 : decode cX9_byTurns 56 = .ok (.ifCond .eq 7, 3) := by decide +kernel
theorem dX9_byTurns_59 : decode cX9_byTurns 59 = .ok (.iconst 1, 1) := by decide +kernel
theorem dX9_byTurns_60 : decode cX9_byTurns 60 = .ok (.goto 4, 3) := by decide +kernel
theorem dX9_byTurns_63 : decode cX9_byTurns 63 = .ok (.iconst 0, 1) := by decide +kernel
theorem dX9_byTurns_64 : decode cX9_byTurns 64 = .ok (.ireturn, 1) := by decide +kernel
set_option maxRecDepth 20000 in
theorem ggX9_took_X1_trust : GoodIn wsX9_took wsX1_trust := goodIn_r _ [8, 9, 44, 45, 46, 47, 48, 49, 50, 51] (by decide +kernel) (by decide +kernel)
set_option maxRecDepth 20000 in
theorem gX9_took_X1_trust : GoodIn wsX9_took (wsV RX9 115 RX1 yX1_trust wsX1_trust) := goodIn_app (goodIn_of _ (by decide +kernel)) ggX9_took_X1_trust
set_option maxRecDepth 20000 in
theorem ggX9_took_X6_day : GoodIn wsX9_took wsX6_day := goodIn_r _ [14, 15, 52, 53, 54, 55, 56] (by decide +kernel) (by decide +kernel)
set_option maxRecDepth 20000 in
theorem gX9_took_X6_day : GoodIn wsX9_took (wsV RX9 164 RX6 yX6_day wsX6_day) := goodIn_app (goodIn_of _ (by decide +kernel)) ggX9_took_X6_day
set_option maxRecDepth 20000 in
theorem ggX9_took_X2_hasRelative : GoodIn wsX9_took wsX2_hasRelative := goodIn_r _ [20, 21, 57, 58, 59, 60, 61, 62, 63, 64, 65] (by decide +kernel) (by decide +kernel)
set_option maxRecDepth 20000 in
theorem gX9_took_X2_hasRelative : GoodIn wsX9_took (wsV RX9 107 RX2 yX2_hasRelative wsX2_hasRelative) := goodIn_app (goodIn_of _ (by decide +kernel)) ggX9_took_X2_hasRelative
set_option maxRecDepth 20000 in
theorem ggX9_took_X5_tell : GoodIn wsX9_took wsX5_tell := goodIn_r _ [26, 27, 28, 29, 66, 67, 68, 69] (by decide +kernel) (by decide +kernel)
set_option maxRecDepth 20000 in
theorem gX9_took_X5_tell : GoodIn wsX9_took (wsV RX9 200 RX5 yX5_tell wsX5_tell) := goodIn_app (goodIn_of _ (by decide +kernel)) ggX9_took_X5_tell
set_option maxRecDepth 20000 in
theorem ggX9_took_X5_size : GoodIn wsX9_took wsX5_size := goodIn_r _ [33, 27, 66, 67, 68, 69] (by decide +kernel) (by decide +kernel)
set_option maxRecDepth 20000 in
theorem gX9_took_X5_size : GoodIn wsX9_took (wsV RX9 204 RX5 yX5_size wsX5_size) := goodIn_app (goodIn_of _ (by decide +kernel)) ggX9_took_X5_size
theorem dX9_took_0 : decode cX9_took 0 = .ok (.iload_n 1, 1) := by decide +kernel
theorem dX9_took_1 : decode cX9_took 1 = .ok (.iconst 1, 1) := by decide +kernel
theorem dX9_took_2 : decode cX9_took 2 = .ok (.if_icmp .lt 27, 3) := by decide +kernel
theorem dX9_took_5 : decode cX9_took 5 = .ok (.iload_n 1, 1) := by decide +kernel
theorem dX9_took_6 : decode cX9_took 6 = .ok (.bipush 10, 2) := by decide +kernel
theorem dX9_took_8 : decode cX9_took 8 = .ok (.if_icmp .gt 21, 3) := by decide +kernel
theorem dX9_took_11 : decode cX9_took 11 = .ok (.iload_n 1, 1) := by decide +kernel
theorem dX9_took_12 : decode cX9_took 12 = .ok (.aload_n 0, 1) := by decide +kernel
theorem dX9_took_13 : decode cX9_took 13 = .ok (.getfield 29, 3) := by decide +kernel
theorem dX9_took_16 : decode cX9_took 16 = .ok (.invokevirtual 115, 3) := by decide +kernel
theorem dX9_took_19 : decode cX9_took 19 = .ok (.invokevirtual 164, 3) := by decide +kernel
theorem dX9_took_22 : decode cX9_took 22 = .ok (.if_icmp .gt 7, 3) := by decide +kernel
theorem dX9_took_25 : decode cX9_took 25 = .ok (.iconst 1, 1) := by decide +kernel
theorem dX9_took_26 : decode cX9_took 26 = .ok (.goto 4, 3) := by decide +kernel
theorem dX9_took_29 : decode cX9_took 29 = .ok (.iconst 0, 1) := by decide +kernel
theorem dX9_took_30 : decode cX9_took 30 = .ok (.istore_n 3, 1) := by decide +kernel
theorem dX9_took_31 : decode cX9_took 31 = .ok (.iload_n 3, 1) := by decide +kernel
theorem dX9_took_32 : decode cX9_took 32 = .ok (.ifCond .eq 14, 3) := by decide +kernel
theorem dX9_took_35 : decode cX9_took 35 = .ok (.aload_n 0, 1) := by decide +kernel
theorem dX9_took_36 : decode cX9_took 36 = .ok (.getfield 19, 3) := by decide +kernel
theorem dX9_took_39 : decode cX9_took 39 = .ok (.iload_n 2, 1) := by decide +kernel
theorem dX9_took_40 : decode cX9_took 40 = .ok (.invokevirtual 107, 3) := by decide +kernel
theorem dX9_took_43 : decode cX9_took 43 = .ok (.ifCond .ne 5, 3) := by decide +kernel
theorem dX9_took_46 : decode cX9_took 46 = .ok (.iconst (-1), 1) := by decide +kernel
theorem dX9_took_47 : decode cX9_took 47 = .ok (.ireturn, 1) := by decide +kernel
theorem dX9_took_48 : decode cX9_took 48 = .ok (.aload_n 0, 1) := by decide +kernel
theorem dX9_took_49 : decode cX9_took 49 = .ok (.getfield 48, 3) := by decide +kernel
theorem dX9_took_52 : decode cX9_took 52 = .ok (.iload_n 1, 1) := by decide +kernel
theorem dX9_took_53 : decode cX9_took 53 = .ok (.iload_n 2, 1) := by decide +kernel
theorem dX9_took_54 : decode cX9_took 54 = .ok (.invokevirtual 200, 3) := by decide +kernel
theorem dX9_took_57 : decode cX9_took 57 = .ok (.ifCond .eq 13, 3) := by decide +kernel
theorem dX9_took_60 : decode cX9_took 60 = .ok (.aload_n 0, 1) := by decide +kernel
theorem dX9_took_61 : decode cX9_took 61 = .ok (.getfield 48, 3) := by decide +kernel
theorem dX9_took_64 : decode cX9_took 64 = .ok (.invokevirtual 204, 3) := by decide +kernel
theorem dX9_took_67 : decode cX9_took 67 = .ok (.goto 5, 3) := by decide +kernel
theorem dX9_took_70 : decode cX9_took 70 = .ok (.bipush (-3), 2) := by decide +kernel
theorem dX9_took_72 : decode cX9_took 72 = .ok (.ireturn, 1) := by decide +kernel
set_option maxRecDepth 20000 in
theorem ggX9_forget_X5_size : GoodIn wsX9_forget wsX5_size := goodIn_r _ [6, 7, 22, 23, 24, 25] (by decide +kernel) (by decide +kernel)
set_option maxRecDepth 20000 in
theorem gX9_forget_X5_size : GoodIn wsX9_forget (wsV RX9 204 RX5 yX5_size wsX5_size) := goodIn_app (goodIn_of _ (by decide +kernel)) ggX9_forget_X5_size
set_option maxRecDepth 20000 in
theorem ggX9_forget_X5_clear : GoodIn wsX9_forget wsX5_clear := goodIn_r _ [11, 7, 22, 23, 24, 25] (by decide +kernel) (by decide +kernel)
set_option maxRecDepth 20000 in
theorem gX9_forget_X5_clear : GoodIn wsX9_forget (wsV RX9 207 RX5 yX5_clear wsX5_clear) := goodIn_app (goodIn_of _ (by decide +kernel)) ggX9_forget_X5_clear
theorem dX9_forget_0 : decode cX9_forget 0 = .ok (.aload_n 0, 1) := by decide +kernel
theorem dX9_forget_1 : decode cX9_forget 1 = .ok (.getfield 48, 3) := by decide +kernel
theorem dX9_forget_4 : decode cX9_forget 4 = .ok (.invokevirtual 204, 3) := by decide +kernel
theorem dX9_forget_7 : decode cX9_forget 7 = .ok (.istore_n 1, 1) := by decide +kernel
theorem dX9_forget_8 : decode cX9_forget 8 = .ok (.aload_n 0, 1) := by decide +kernel
theorem dX9_forget_9 : decode cX9_forget 9 = .ok (.getfield 48, 3) := by decide +kernel
theorem dX9_forget_12 : decode cX9_forget 12 = .ok (.invokevirtual 207, 3) := by decide +kernel
theorem dX9_forget_15 : decode cX9_forget 15 = .ok (.iload_n 1, 1) := by decide +kernel
theorem dX9_forget_16 : decode cX9_forget 16 = .ok (.ireturn, 1) := by decide +kernel
set_option maxRecDepth 20000 in
theorem ggX9_deeds_X5_deedsThatFit : GoodIn wsX9_deeds wsX5_deedsThatFit := goodIn_r _ [8, 9, 10, 11, 7, 12, 13, 14, 15, 16, 17, 18, 19, 20, 21, 22, 23, 24, 25, 26, 27, 28, 29, 30, 31, 32, 33, 34, 35, 36, 37, 38, 39, 40, 41, 42, 43, 44, 45, 46, 47, 48, 49, 50, 51, 52, 53, 54, 55, 56, 57, 58, 59, 60, 61, 62, 63, 64, 65, 66, 67, 68, 69, 70, 71, 72, 73, 74, 75, 76, 77, 78, 79, 80, 81, 82, 83, 84, 85, 86, 87, 88, 89, 90, 91, 92, 93, 94, 95, 96, 97, 98, 99, 100, 101, 102, 103, 104, 105, 106, 107, 108, 109, 124, 125, 126, 127, 128, 129, 130, 131, 132, 133, 134, 135, 136, 137, 138, 139, 140, 141, 142, 143, 144, 145, 146, 147, 148, 149] (by decide +kernel) (by decide +kernel)
set_option maxRecDepth 20000 in
theorem gX9_deeds_X5_deedsThatFit : GoodIn wsX9_deeds (wsV RX9 208 RX5 yX5_deedsThatFit wsX5_deedsThatFit) := goodIn_app (goodIn_of _ (by decide +kernel)) ggX9_deeds_X5_deedsThatFit
set_option maxRecDepth 20000 in
theorem ggX9_deeds_X5_lowestThatFits : GoodIn wsX9_deeds wsX5_lowestThatFits := goodIn_r _ [113, 9, 10, 11, 7, 12, 13, 14, 15, 16, 17, 18, 19, 20, 21, 22, 23, 24, 25, 26, 27, 28, 29, 30, 31, 32, 33, 34, 35, 36, 37, 38, 39, 40, 41, 42, 43, 44, 45, 46, 47, 48, 49, 50, 51, 52, 53, 54, 55, 56, 57, 58, 59, 60, 61, 62, 63, 64, 65, 66, 67, 68, 69, 70, 71, 72, 73, 74, 75, 76, 77, 78, 79, 80, 81, 82, 83, 84, 85, 86, 87, 88, 89, 90, 91, 92, 93, 94, 95, 96, 97, 98, 99, 100, 101, 102, 103, 104, 105, 106, 107, 108, 109, 124, 125, 126, 127, 128, 129, 130, 131, 132, 133, 134, 135, 136, 137, 138, 139, 140, 141, 142, 143, 144, 145, 146, 147, 148, 149] (by decide +kernel) (by decide +kernel)
set_option maxRecDepth 20000 in
theorem gX9_deeds_X5_lowestThatFits : GoodIn wsX9_deeds (wsV RX9 212 RX5 yX5_lowestThatFits wsX5_lowestThatFits) := goodIn_app (goodIn_of _ (by decide +kernel)) ggX9_deeds_X5_lowestThatFits
theorem dX9_deeds_0 : decode cX9_deeds 0 = .ok (.iload_n 1, 1) := by decide +kernel
theorem dX9_deeds_1 : decode cX9_deeds 1 = .ok (.lookupswitch 59 #[(0, 27), (1, 43)], 27) := by decide +kernel
theorem dX9_deeds_28 : decode cX9_deeds 28 = .ok (.aload_n 0, 1) := by decide +kernel
theorem dX9_deeds_29 : decode cX9_deeds 29 = .ok (.getfield 48, 3) := by decide +kernel
theorem dX9_deeds_32 : decode cX9_deeds 32 = .ok (.aload_n 0, 1) := by decide +kernel
theorem dX9_deeds_33 : decode cX9_deeds 33 = .ok (.getfield 19, 3) := by decide +kernel
theorem dX9_deeds_36 : decode cX9_deeds 36 = .ok (.aload_n 0, 1) := by decide +kernel
theorem dX9_deeds_37 : decode cX9_deeds 37 = .ok (.getfield 29, 3) := by decide +kernel
theorem dX9_deeds_40 : decode cX9_deeds 40 = .ok (.invokevirtual 208, 3) := by decide +kernel
theorem dX9_deeds_43 : decode cX9_deeds 43 = .ok (.ireturn, 1) := by decide +kernel
theorem dX9_deeds_44 : decode cX9_deeds 44 = .ok (.aload_n 0, 1) := by decide +kernel
theorem dX9_deeds_45 : decode cX9_deeds 45 = .ok (.getfield 48, 3) := by decide +kernel
theorem dX9_deeds_48 : decode cX9_deeds 48 = .ok (.aload_n 0, 1) := by decide +kernel
theorem dX9_deeds_49 : decode cX9_deeds 49 = .ok (.getfield 19, 3) := by decide +kernel
theorem dX9_deeds_52 : decode cX9_deeds 52 = .ok (.aload_n 0, 1) := by decide +kernel
theorem dX9_deeds_53 : decode cX9_deeds 53 = .ok (.getfield 29, 3) := by decide +kernel
theorem dX9_deeds_56 : decode cX9_deeds 56 = .ok (.invokevirtual 212, 3) := by decide +kernel
theorem dX9_deeds_59 : decode cX9_deeds 59 = .ok (.ireturn, 1) := by decide +kernel
theorem dX9_deeds_60 : decode cX9_deeds 60 = .ok (.iconst (-1), 1) := by decide +kernel
theorem dX9_deeds_61 : decode cX9_deeds 61 = .ok (.ireturn, 1) := by decide +kernel
set_option maxRecDepth 20000 in
theorem ggX9_quiet_X1_deed : GoodIn wsX9_quiet wsX1_deed := goodIn_r _ [7, 8, 61, 62, 63, 64, 65, 66, 67, 68] (by decide +kernel) (by decide +kernel)
set_option maxRecDepth 20000 in
theorem gX9_quiet_X1_deed : GoodIn wsX9_quiet (wsV RX9 142 RX1 yX1_deed wsX1_deed) := goodIn_app (goodIn_of _ (by decide +kernel)) ggX9_quiet_X1_deed
set_option maxRecDepth 20000 in
theorem ggX9_quiet_X2_quietSayings : GoodIn wsX9_quiet wsX2_quietSayings := goodIn_r _ [13, 14, 15, 16, 17, 18, 12, 19, 20, 21, 22, 23, 24, 25, 26, 27, 28, 29, 30, 31, 32, 33, 34, 35, 36, 37, 38, 39, 40, 41, 42, 43, 44, 45, 46, 47, 48, 49, 50, 69, 70, 71, 72, 73, 74, 75, 76, 77] (by decide +kernel) (by decide +kernel)
set_option maxRecDepth 20000 in
theorem gX9_quiet_X2_quietSayings : GoodIn wsX9_quiet (wsV RX9 215 RX2 yX2_quietSayings wsX2_quietSayings) := goodIn_app (goodIn_of _ (by decide +kernel)) ggX9_quiet_X2_quietSayings
theorem dX9_quiet_0 : decode cX9_quiet 0 = .ok (.aload_n 0, 1) := by decide +kernel
theorem dX9_quiet_1 : decode cX9_quiet 1 = .ok (.getfield 19, 3) := by decide +kernel
theorem dX9_quiet_4 : decode cX9_quiet 4 = .ok (.aload_n 0, 1) := by decide +kernel
theorem dX9_quiet_5 : decode cX9_quiet 5 = .ok (.getfield 29, 3) := by decide +kernel
theorem dX9_quiet_8 : decode cX9_quiet 8 = .ok (.invokevirtual 142, 3) := by decide +kernel
theorem dX9_quiet_11 : decode cX9_quiet 11 = .ok (.invokevirtual 215, 3) := by decide +kernel
theorem dX9_quiet_14 : decode cX9_quiet 14 = .ok (.ireturn, 1) := by decide +kernel
set_option maxRecDepth 20000 in
theorem ggX9_cloak_X2_hasRelative : GoodIn wsX9_cloak wsX2_hasRelative := goodIn_r _ [7, 8, 67, 68, 69, 70, 71, 72, 73, 74, 75] (by decide +kernel) (by decide +kernel)
set_option maxRecDepth 20000 in
theorem gX9_cloak_X2_hasRelative : GoodIn wsX9_cloak (wsV RX9 107 RX2 yX2_hasRelative wsX2_hasRelative) := goodIn_app (goodIn_of _ (by decide +kernel)) ggX9_cloak_X2_hasRelative
set_option maxRecDepth 20000 in
theorem ggX9_cloak_X1_deed : GoodIn wsX9_cloak wsX1_deed := goodIn_r _ [13, 14, 76, 77, 78, 79, 80, 81, 82, 83] (by decide +kernel) (by decide +kernel)
set_option maxRecDepth 20000 in
theorem gX9_cloak_X1_deed : GoodIn wsX9_cloak (wsV RX9 142 RX1 yX1_deed wsX1_deed) := goodIn_app (goodIn_of _ (by decide +kernel)) ggX9_cloak_X1_deed
set_option maxRecDepth 20000 in
theorem ggX9_cloak_X2_cloakOf : GoodIn wsX9_cloak wsX2_cloakOf := goodIn_r _ [18, 19, 20, 21, 22, 6, 23, 24, 25, 26, 27, 28, 29, 30, 31, 32, 33, 34, 35, 36, 37, 38, 39, 40, 41, 42, 43, 44, 4, 5, 7, 8, 45, 46, 47, 48, 49, 50, 51, 52, 53, 54, 55, 67, 68, 69, 70, 71, 72, 73, 74, 75] (by decide +kernel) (by decide +kernel)
set_option maxRecDepth 20000 in
theorem gX9_cloak_X2_cloakOf : GoodIn wsX9_cloak (wsV RX9 218 RX2 yX2_cloakOf wsX2_cloakOf) := goodIn_app (goodIn_of _ (by decide +kernel)) ggX9_cloak_X2_cloakOf
set_option maxRecDepth 20000 in
theorem ggX9_cloak_X2_topicsOnDeed : GoodIn wsX9_cloak wsX2_topicsOnDeed := goodIn_r _ [55, 34, 35, 36, 6, 37, 38, 30, 31, 32, 33, 19, 45, 46, 47, 48, 49, 50, 51, 67, 68, 69, 70, 71, 72, 73, 74, 75] (by decide +kernel) (by decide +kernel)
set_option maxRecDepth 20000 in
theorem gX9_cloak_X2_topicsOnDeed : GoodIn wsX9_cloak (wsV RX9 222 RX2 yX2_topicsOnDeed wsX2_topicsOnDeed) := goodIn_app (goodIn_of _ (by decide +kernel)) ggX9_cloak_X2_topicsOnDeed
theorem dX9_cloak_0 : decode cX9_cloak 0 = .ok (.aload_n 0, 1) := by decide +kernel
theorem dX9_cloak_1 : decode cX9_cloak 1 = .ok (.getfield 19, 3) := by decide +kernel
theorem dX9_cloak_4 : decode cX9_cloak 4 = .ok (.iload_n 1, 1) := by decide +kernel
theorem dX9_cloak_5 : decode cX9_cloak 5 = .ok (.invokevirtual 107, 3) := by decide +kernel
theorem dX9_cloak_8 : decode cX9_cloak 8 = .ok (.ifCond .eq 12, 3) := by decide +kernel
theorem dX9_cloak_11 : decode cX9_cloak 11 = .ok (.iload_n 2, 1) := by decide +kernel
theorem dX9_cloak_12 : decode cX9_cloak 12 = .ok (.ifCond .lt 8, 3) := by decide +kernel
theorem dX9_cloak_15 : decode cX9_cloak 15 = .ok (.iload_n 2, 1) := by decide +kernel
theorem dX9_cloak_16 : decode cX9_cloak 16 = .ok (.iconst 1, 1) := by decide +kernel
theorem dX9_cloak_17 : decode cX9_cloak 17 = .ok (.if_icmp .le 5, 3) := by decide +kernel
theorem dX9_cloak_20 : decode cX9_cloak 20 = .ok (.iconst (-1), 1) := by decide +kernel
theorem dX9_cloak_21 : decode cX9_cloak 21 = .ok (.ireturn, 1) := by decide +kernel
theorem dX9_cloak_22 : decode cX9_cloak 22 = .ok (.aload_n 0, 1) := by decide +kernel
theorem dX9_cloak_23 : decode cX9_cloak 23 = .ok (.getfield 19, 3) := by decide +kernel
theorem dX9_cloak_26 : decode cX9_cloak 26 = .ok (.iload_n 1, 1) := by decide +kernel
theorem dX9_cloak_27 : decode cX9_cloak 27 = .ok (.aload_n 0, 1) := by decide +kernel
theorem dX9_cloak_28 : decode cX9_cloak 28 = .ok (.getfield 29, 3) := by decide +kernel
theorem dX9_cloak_31 : decode cX9_cloak 31 = .ok (.invokevirtual 142, 3) := by decide +kernel
theorem dX9_cloak_34 : decode cX9_cloak 34 = .ok (.invokevirtual 218, 3) := by decide +kernel
theorem dX9_cloak_37 : decode cX9_cloak 37 = .ok (.istore_n 3, 1) := by decide +kernel
theorem dX9_cloak_38 : decode cX9_cloak 38 = .ok (.iload_n 3, 1) := by decide +kernel
theorem dX9_cloak_39 : decode cX9_cloak 39 = .ok (.bipush (-4), 2) := by decide +kernel
theorem dX9_cloak_41 : decode cX9_cloak 41 = .ok (.if_icmp .eq 7, 3) := by decide +kernel
theorem dX9_cloak_44 : decode cX9_cloak 44 = .ok (.iload_n 2, 1) := by decide +kernel
theorem dX9_cloak_45 : decode cX9_cloak 45 = .ok (.ifCond .ne 5, 3) := by decide +kernel
theorem dX9_cloak_48 : decode cX9_cloak 48 = .ok (.iload_n 3, 1) := by decide +kernel
theorem dX9_cloak_49 : decode cX9_cloak 49 = .ok (.ireturn, 1) := by decide +kernel
theorem dX9_cloak_50 : decode cX9_cloak 50 = .ok (.aload_n 0, 1) := by decide +kernel
theorem dX9_cloak_51 : decode cX9_cloak 51 = .ok (.getfield 19, 3) := by decide +kernel
theorem dX9_cloak_54 : decode cX9_cloak 54 = .ok (.iload_n 3, 1) := by decide +kernel
theorem dX9_cloak_55 : decode cX9_cloak 55 = .ok (.aload_n 0, 1) := by decide +kernel
theorem dX9_cloak_56 : decode cX9_cloak 56 = .ok (.getfield 29, 3) := by decide +kernel
theorem dX9_cloak_59 : decode cX9_cloak 59 = .ok (.invokevirtual 142, 3) := by decide +kernel
theorem dX9_cloak_62 : decode cX9_cloak 62 = .ok (.invokevirtual 222, 3) := by decide +kernel
theorem dX9_cloak_65 : decode cX9_cloak 65 = .ok (.ireturn, 1) := by decide +kernel
set_option maxRecDepth 20000 in
theorem ggX9_allKnow_X1_daysUntilAllKnow : GoodIn wsX9_allKnow wsX1_daysUntilAllKnow := goodIn_r _ [7, 8, 9, 10, 6, 11, 12, 13, 14, 15, 16, 17, 18, 19, 20, 21, 22, 23, 24, 25, 26, 27, 28, 29, 30, 31, 32, 33, 34, 35, 46, 47, 48, 49, 50, 51, 52, 53, 54, 55, 56, 57, 58, 59, 60, 61, 62] (by decide +kernel) (by decide +kernel)
set_option maxRecDepth 20000 in
theorem gX9_allKnow_X1_daysUntilAllKnow : GoodIn wsX9_allKnow (wsV RX9 225 RX1 yX1_daysUntilAllKnow wsX1_daysUntilAllKnow) := goodIn_app (goodIn_of _ (by decide +kernel)) ggX9_allKnow_X1_daysUntilAllKnow
theorem dX9_allKnow_0 : decode cX9_allKnow 0 = .ok (.aload_n 0, 1) := by decide +kernel
theorem dX9_allKnow_1 : decode cX9_allKnow 1 = .ok (.getfield 29, 3) := by decide +kernel
theorem dX9_allKnow_4 : decode cX9_allKnow 4 = .ok (.aload_n 0, 1) := by decide +kernel
theorem dX9_allKnow_5 : decode cX9_allKnow 5 = .ok (.getfield 19, 3) := by decide +kernel
theorem dX9_allKnow_8 : decode cX9_allKnow 8 = .ok (.invokevirtual 225, 3) := by decide +kernel
theorem dX9_allKnow_11 : decode cX9_allKnow 11 = .ok (.ireturn, 1) := by decide +kernel
set_option maxRecDepth 20000 in
theorem ggX9_lasts_X1_trust : GoodIn wsX9_lasts wsX1_trust := goodIn_r _ [9, 10, 88, 89, 90, 91, 92, 93, 94, 95] (by decide +kernel) (by decide +kernel)
set_option maxRecDepth 20000 in
theorem gX9_lasts_X1_trust : GoodIn wsX9_lasts (wsV RX9 115 RX1 yX1_trust wsX1_trust) := goodIn_app (goodIn_of _ (by decide +kernel)) ggX9_lasts_X1_trust
set_option maxRecDepth 20000 in
theorem ggX9_lasts_X2_lowestChild : GoodIn wsX9_lasts wsX2_lowestChild := goodIn_r _ [15, 16, 17, 18, 19, 14, 20, 21, 22, 23, 24, 25, 96, 97, 98, 99, 100, 101, 102, 103, 104] (by decide +kernel) (by decide +kernel)
set_option maxRecDepth 20000 in
theorem gX9_lasts_X2_lowestChild : GoodIn wsX9_lasts (wsV RX9 230 RX2 yX2_lowestChild wsX2_lowestChild) := goodIn_app (goodIn_of _ (by decide +kernel)) ggX9_lasts_X2_lowestChild
set_option maxRecDepth 20000 in
theorem ggX9_lasts_X0_reckon : GoodIn wsX9_lasts wsX0_reckon := goodIn_r _ [30, 31, 32, 33, 34, 35, 36, 37, 38, 39, 40, 41, 42, 43, 44, 45, 46, 47, 48, 49, 50, 51, 52, 53, 54, 55, 56, 57, 58, 59, 60, 61, 62, 63, 64, 65, 66, 67, 68, 29, 69, 105, 106, 107, 108, 109, 110, 111, 112] (by decide +kernel) (by decide +kernel)
set_option maxRecDepth 20000 in
theorem gX9_lasts_X0_reckon : GoodIn wsX9_lasts (wsV RX9 233 RX0 yX0_reckon wsX0_reckon) := goodIn_app (goodIn_of _ (by decide +kernel)) ggX9_lasts_X0_reckon
set_option maxRecDepth 20000 in
theorem ggX9_lasts_X0_above : GoodIn wsX9_lasts wsX0_above := goodIn_r _ [73, 32, 105, 106, 107] (by decide +kernel) (by decide +kernel)
set_option maxRecDepth 20000 in
theorem gX9_lasts_X0_above : GoodIn wsX9_lasts (wsV RX9 237 RX0 yX0_above wsX0_above) := goodIn_app (goodIn_of _ (by decide +kernel)) ggX9_lasts_X0_above
set_option maxRecDepth 20000 in
theorem ggX9_lasts_X0_below : GoodIn wsX9_lasts wsX0_below := goodIn_r _ [77, 33, 105, 106, 107] (by decide +kernel) (by decide +kernel)
set_option maxRecDepth 20000 in
theorem gX9_lasts_X0_below : GoodIn wsX9_lasts (wsV RX9 241 RX0 yX0_below wsX0_below) := goodIn_app (goodIn_of _ (by decide +kernel)) ggX9_lasts_X0_below
theorem dX9_lasts_0 : decode cX9_lasts 0 = .ok (.iload_n 1, 1) := by decide +kernel
theorem dX9_lasts_1 : decode cX9_lasts 1 = .ok (.ifCond .lt 28, 3) := by decide +kernel
theorem dX9_lasts_4 : decode cX9_lasts 4 = .ok (.iload_n 1, 1) := by decide +kernel
theorem dX9_lasts_5 : decode cX9_lasts 5 = .ok (.bipush 9, 2) := by decide +kernel
theorem dX9_lasts_7 : decode cX9_lasts 7 = .ok (.if_icmp .gt 22, 3) := by decide +kernel
theorem dX9_lasts_10 : decode cX9_lasts 10 = .ok (.iload_n 2, 1) := by decide +kernel
theorem dX9_lasts_11 : decode cX9_lasts 11 = .ok (.ifCond .lt 18, 3) := by decide +kernel
theorem dX9_lasts_14 : decode cX9_lasts 14 = .ok (.iload_n 2, 1) := by decide +kernel
theorem dX9_lasts_15 : decode cX9_lasts 15 = .ok (.bipush 10, 2) := by decide +kernel
theorem dX9_lasts_17 : decode cX9_lasts 17 = .ok (.if_icmp .gt 12, 3) := by decide +kernel
theorem dX9_lasts_20 : decode cX9_lasts 20 = .ok (.iload_n 3, 1) := by decide +kernel
theorem dX9_lasts_21 : decode cX9_lasts 21 = .ok (.ifCond .lt 8, 3) := by decide +kernel
theorem dX9_lasts_24 : decode cX9_lasts 24 = .ok (.iload_n 3, 1) := by decide +kernel
theorem dX9_lasts_25 : decode cX9_lasts 25 = .ok (.iconst 1, 1) := by decide +kernel
theorem dX9_lasts_26 : decode cX9_lasts 26 = .ok (.if_icmp .le 7, 3) := by decide +kernel
theorem dX9_lasts_29 : decode cX9_lasts 29 = .ok (.ldc2_w 228, 3) := by decide +kernel
theorem dX9_lasts_32 : decode cX9_lasts 32 = .ok (.lreturn, 1) := by decide +kernel
theorem dX9_lasts_33 : decode cX9_lasts 33 = .ok (.aload_n 0, 1) := by decide +kernel
theorem dX9_lasts_34 : decode cX9_lasts 34 = .ok (.getfield 62, 3) := by decide +kernel
theorem dX9_lasts_37 : decode cX9_lasts 37 = .ok (.aload_n 0, 1) := by decide +kernel
theorem dX9_lasts_38 : decode cX9_lasts 38 = .ok (.getfield 29, 3) := by decide +kernel
