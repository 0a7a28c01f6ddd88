set_option maxRecDepth 20000 in
theorem ggX5_known_X5_fittingWorths : GoodIn wsX5_known wsX5_fittingWorths := goodIn_r _ [17, 18, 19, 20, 21, 22, 23, 24, 25, 26, 27, 28, 29, 30, 31, 32, 33, 34, 35, 36, 37, 38, 39, 40, 41, 42, 43, 3, 44, 45, 46, 47, 48, 49, 50, 51, 52, 53, 54, 55, 56, 57, 58, 59, 60, 61, 62, 63, 64, 65, 66, 67, 68, 69, 70, 71, 72, 73, 74, 75, 76, 77, 78, 79, 80, 81, 89, 90, 91, 92, 93, 94, 95, 96, 97, 98, 99, 100, 101, 102, 103, 104, 105, 106, 107, 108, 109, 110, 111, 112] (by decide +kernel) (by decide +kernel)
set_option maxRecDepth 20000 in
theorem gX5_known_X5_fittingWorths : GoodIn wsX5_known (wsV RX5 187 RX5 yX5_fittingWorths wsX5_fittingWorths) := goodIn_app (goodIn_of _ (by decide +kernel)) ggX5_known_X5_fittingWorths
set_option maxRecDepth 20000 in
theorem ggX5_known_J6_bitCount_0f7a4 : GoodIn wsX5_known wsJ6_bitCount_0f7a4 := goodIn_r _ [85, 86, 87, 88] (by decide +kernel) (by decide +kernel)
set_option maxRecDepth 20000 in
theorem gX5_known_J6_bitCount_0f7a4 : GoodIn wsX5_known (va_wsS RX5 193 yJ6_bitCount_0f7a4 wsJ6_bitCount_0f7a4) := goodIn_app (goodIn_of _ (by decide +kernel)) ggX5_known_J6_bitCount_0f7a4
theorem dX5_known_0 : decode cX5_known 0 = .ok (.iload_n 1, 1) := by decide +kernel
theorem dX5_known_1 : decode cX5_known 1 = .ok (.invokestatic 65, 3) := by decide +kernel
theorem dX5_known_4 : decode cX5_known 4 = .ok (.ifCond .ne 9, 3) := by decide +kernel
theorem dX5_known_7 : decode cX5_known 7 = .ok (.aload_n 0, 1) := by decide +kernel
theorem dX5_known_8 : decode cX5_known 8 = .ok (.iconst 0, 1) := by decide +kernel
theorem dX5_known_9 : decode cX5_known 9 = .ok (.invokevirtual 55, 3) := by decide +kernel
theorem dX5_known_12 : decode cX5_known 12 = .ok (.ireturn, 1) := by decide +kernel
theorem dX5_known_13 : decode cX5_known 13 = .ok (.iconst 0, 1) := by decide +kernel
theorem dX5_known_14 : decode cX5_known 14 = .ok (.istore_n 2, 1) := by decide +kernel
theorem dX5_known_15 : decode cX5_known 15 = .ok (.bipush 22, 2) := by decide +kernel
theorem dX5_known_17 : decode cX5_known 17 = .ok (.istore_n 3, 1) := by decide +kernel
theorem dX5_known_18 : decode cX5_known 18 = .ok (.iconst 0, 1) := by decide +kernel
theorem dX5_known_19 : decode cX5_known 19 = .ok (.istore 4, 2) := by decide +kernel
theorem dX5_known_21 : decode cX5_known 21 = .ok (.iload 4, 2) := by decide +kernel
theorem dX5_known_23 : decode cX5_known 23 = .ok (.iconst 5, 1) := by decide +kernel
theorem dX5_known_24 : decode cX5_known 24 = .ok (.if_icmp .ge 33, 3) := by decide +kernel
theorem dX5_known_27 : decode cX5_known 27 = .ok (.aload_n 0, 1) := by decide +kernel
theorem dX5_known_28 : decode cX5_known 28 = .ok (.iload_n 1, 1) := by decide +kernel
theorem dX5_known_29 : decode cX5_known 29 = .ok (.iload 4, 2) := by decide +kernel
theorem dX5_known_31 : decode cX5_known 31 = .ok (.invokevirtual 187, 3) := by decide +kernel
theorem dX5_known_34 : decode cX5_known 34 = .ok (.invokestatic 193, 3) := by decide +kernel
theorem dX5_known_37 : decode cX5_known 37 = .ok (.istore 5, 2) := by decide +kernel
theorem dX5_known_39 : decode cX5_known 39 = .ok (.iload 5, 2) := by decide +kernel
theorem dX5_known_41 : decode cX5_known 41 = .ok (.iload_n 3, 1) := by decide +kernel
theorem dX5_known_42 : decode cX5_known 42 = .ok (.if_icmp .ge 9, 3) := by decide +kernel
theorem dX5_known_45 : decode cX5_known 45 = .ok (.iload 4, 2) := by decide +kernel
theorem dX5_known_47 : decode cX5_known 47 = .ok (.istore_n 2, 1) := by decide +kernel
theorem dX5_known_48 : decode cX5_known 48 = .ok (.iload 5, 2) := by decide +kernel
theorem dX5_known_50 : decode cX5_known 50 = .ok (.istore_n 3, 1) := by decide +kernel
theorem dX5_known_51 : decode cX5_known 51 = .ok (.iinc 4 1, 3) := by decide +kernel
theorem dX5_known_54 : decode cX5_known 54 = .ok (.goto (-33), 3) := by decide +kernel
theorem dX5_known_57 : decode cX5_known 57 = .ok (.iload_n 2, 1) := by decide +kernel
theorem dX5_known_58 : decode cX5_known 58 = .ok (.ireturn, 1) := by decide +kernel
set_option maxRecDepth 20000 in
theorem ggX5_season_X5_isIn : GoodIn wsX5_season wsX5_isIn := goodIn_r _ [7] (by decide +kernel) (by decide +kernel)
set_option maxRecDepth 20000 in
theorem gX5_season_X5_isIn : GoodIn wsX5_season (va_wsS RX5 68 yX5_isIn wsX5_isIn) := goodIn_app (goodIn_of _ (by decide +kernel)) ggX5_season_X5_isIn
set_option maxRecDepth 20000 in
theorem ggX5_season_X5_finding : GoodIn wsX5_season wsX5_finding := goodIn_r _ [11, 12, 13, 130, 131, 132, 133, 134, 135, 136] (by decide +kernel) (by decide +kernel)
set_option maxRecDepth 20000 in
theorem gX5_season_X5_finding : GoodIn wsX5_season (wsV RX5 55 RX5 yX5_finding wsX5_finding) := goodIn_app (goodIn_of _ (by decide +kernel)) ggX5_season_X5_finding
set_option maxRecDepth 20000 in
theorem ggX5_season_X5_isTooLate : GoodIn wsX5_season wsX5_isTooLate := goodIn_r _ [17, 1, 2, 18, 130, 131, 132, 133, 134, 135, 136, 137, 138, 139, 140, 141, 142, 143, 144, 145, 146, 147, 148, 149, 150] (by decide +kernel) (by decide +kernel)
set_option maxRecDepth 20000 in
theorem gX5_season_X5_isTooLate : GoodIn wsX5_season (wsV RX5 136 RX5 yX5_isTooLate wsX5_isTooLate) := goodIn_app (goodIn_of _ (by decide +kernel)) ggX5_season_X5_isTooLate
set_option maxRecDepth 20000 in
theorem ggX5_season_X4_draw : GoodIn wsX5_season wsX4_draw := goodIn_r _ [23, 24, 25, 137, 138, 139, 140] (by decide +kernel) (by decide +kernel)
set_option maxRecDepth 20000 in
theorem gX5_season_X4_draw : GoodIn wsX5_season (wsV RX5 198 RX4 yX4_draw wsX4_draw) := goodIn_app (goodIn_of _ (by decide +kernel)) ggX5_season_X4_draw
set_option maxRecDepth 20000 in
theorem ggX5_season_X1_mayLay : GoodIn wsX5_season wsX1_mayLay := goodIn_r _ [30, 31, 32, 33, 141, 142, 143, 144, 145, 146, 147, 148, 149, 150] (by decide +kernel) (by decide +kernel)
set_option maxRecDepth 20000 in
theorem gX5_season_X1_mayLay : GoodIn wsX5_season (wsV RX5 100 RX1 yX1_mayLay wsX1_mayLay) := goodIn_app (goodIn_of _ (by decide +kernel)) ggX5_season_X1_mayLay
set_option maxRecDepth 20000 in
theorem ggX5_season_X1_layDown : GoodIn wsX5_season wsX1_layDown := goodIn_r _ [37, 31, 33, 141, 142, 143, 144, 145, 146, 147, 148, 149, 150] (by decide +kernel) (by decide +kernel)
set_option maxRecDepth 20000 in
theorem gX5_season_X1_layDown : GoodIn wsX5_season (wsV RX5 103 RX1 yX1_layDown wsX1_layDown) := goodIn_app (goodIn_of _ (by decide +kernel)) ggX5_season_X1_layDown
set_option maxRecDepth 20000 in
theorem ggX5_season_X5_goNights : GoodIn wsX5_season wsX5_goNights := goodIn_r _ [41, 1, 2, 42, 43, 44, 45, 29, 46, 47, 48, 49, 50, 51, 32, 52, 53, 54, 55, 33, 56, 57, 58, 59, 60, 61, 62, 63, 64, 65, 66, 67, 68, 69, 70, 71, 72, 73, 74, 75, 76, 77, 78, 79, 80, 81, 82, 83, 84, 85, 86, 87, 88, 89, 90, 91, 92, 93, 94, 95, 96, 97, 98, 99, 100, 101, 102, 103, 104, 105, 106, 107, 31, 108, 109, 110, 111, 112, 113, 114, 115, 116, 117, 118, 119, 120, 121, 122, 123, 124, 125, 126, 127, 128, 129, 130, 131, 132, 133, 134, 135, 136, 137, 138, 139, 140, 141, 142, 143, 144, 145, 146, 147, 148, 149, 150, 151, 152, 153] (by decide +kernel) (by decide +kernel)
set_option maxRecDepth 20000 in
theorem gX5_season_X5_goNights : GoodIn wsX5_season (wsV RX5 139 RX5 yX5_goNights wsX5_goNights) := goodIn_app (goodIn_of _ (by decide +kernel)) ggX5_season_X5_goNights
theorem dX5_season_0 : decode cX5_season 0 = .ok (.iload_n 1, 1) := by decide +kernel
theorem dX5_season_1 : decode cX5_season 1 = .ok (.iconst 1, 1) := by decide +kernel
theorem dX5_season_2 : decode cX5_season 2 = .ok (.bipush 12, 2) := by decide +kernel
theorem dX5_season_4 : decode cX5_season 4 = .ok (.invokestatic 68, 3) := by decide +kernel
theorem dX5_season_7 : decode cX5_season 7 = .ok (.ifCond .ne 9, 3) := by decide +kernel
theorem dX5_season_10 : decode cX5_season 10 = .ok (.aload_n 0, 1) := by decide +kernel
theorem dX5_season_11 : decode cX5_season 11 = .ok (.iconst 0, 1) := by decide +kernel
theorem dX5_season_12 : decode cX5_season 12 = .ok (.invokevirtual 55, 3) := by decide +kernel
theorem dX5_season_15 : decode cX5_season 15 = .ok (.ireturn, 1) := by decide +kernel
theorem dX5_season_16 : decode cX5_season 16 = .ok (.aload_n 0, 1) := by decide +kernel
theorem dX5_season_17 : decode cX5_season 17 = .ok (.iconst 2, 1) := by decide +kernel
theorem dX5_season_18 : decode cX5_season 18 = .ok (.iload_n 1, 1) := by decide +kernel
theorem dX5_season_19 : decode cX5_season 19 = .ok (.imul, 1) := by decide +kernel
theorem dX5_season_20 : decode cX5_season 20 = .ok (.invokevirtual 136, 3) := by decide +kernel
theorem dX5_season_23 : decode cX5_season 23 = .ok (.ifCond .eq 9, 3) := by decide +kernel
theorem dX5_season_26 : decode cX5_season 26 = .ok (.aload_n 0, 1) := by decide +kernel
theorem dX5_season_27 : decode cX5_season 27 = .ok (.iconst 4, 1) := by decide +kernel
theorem dX5_season_28 : decode cX5_season 28 = .ok (.invokevirtual 55, 3) := by decide +kernel
theorem dX5_season_31 : decode cX5_season 31 = .ok (.ireturn, 1) := by decide +kernel
theorem dX5_season_32 : decode cX5_season 32 = .ok (.iconst 0, 1) := by decide +kernel
theorem dX5_season_33 : decode cX5_season 33 = .ok (.istore_n 2, 1) := by decide +kernel
theorem dX5_season_34 : decode cX5_season 34 = .ok (.iconst 0, 1) := by decide +kernel
theorem dX5_season_35 : decode cX5_season 35 = .ok (.istore_n 3, 1) := by decide +kernel
theorem dX5_season_36 : decode cX5_season 36 = .ok (.iload_n 3, 1) := by decide +kernel
theorem dX5_season_37 : decode cX5_season 37 = .ok (.iload_n 1, 1) := by decide +kernel
theorem dX5_season_38 : decode cX5_season 38 = .ok (.if_icmp .ge 93, 3) := by decide +kernel
theorem dX5_season_41 : decode cX5_season 41 = .ok (.aload_n 0, 1) := by decide +kernel
theorem dX5_season_42 : decode cX5_season 42 = .ok (.getfield 10, 3) := by decide +kernel
theorem dX5_season_45 : decode cX5_season 45 = .ok (.getfield 59, 3) := by decide +kernel
theorem dX5_season_48 : decode cX5_season 48 = .ok (.aload_n 0, 1) := by decide +kernel
theorem dX5_season_49 : decode cX5_season 49 = .ok (.getfield 10, 3) := by decide +kernel
theorem dX5_season_52 : decode cX5_season 52 = .ok (.invokevirtual 198, 3) := by decide +kernel
theorem dX5_season_55 : decode cX5_season 55 = .ok (.bipush 10, 2) := by decide +kernel
theorem dX5_season_57 : decode cX5_season 57 = .ok (.irem, 1) := by decide +kernel
theorem dX5_season_58 : decode cX5_season 58 = .ok (.putfield 85, 3) := by decide +kernel
theorem dX5_season_61 : decode cX5_season 61 = .ok (.aload_n 0, 1) := by decide +kernel
theorem dX5_season_62 : decode cX5_season 62 = .ok (.getfield 10, 3) := by decide +kernel
theorem dX5_season_65 : decode cX5_season 65 = .ok (.invokevirtual 198, 3) := by decide +kernel
theorem dX5_season_68 : decode cX5_season 68 = .ok (.iconst 2, 1) := by decide +kernel
theorem dX5_season_69 : decode cX5_season 69 = .ok (.irem, 1) := by decide +kernel
theorem dX5_season_70 : decode cX5_season 70 = .ok (.istore 4, 2) := by decide +kernel
theorem dX5_season_72 : decode cX5_season 72 = .ok (.aload_n 0, 1) := by decide +kernel
theorem dX5_season_73 : decode cX5_season 73 = .ok (.getfield 10, 3) := by decide +kernel
theorem dX5_season_76 : decode cX5_season 76 = .ok (.invokevirtual 198, 3) := by decide +kernel
theorem dX5_season_79 : decode cX5_season 79 = .ok (.iconst 5, 1) := by decide +kernel
theorem dX5_season_80 : decode cX5_season 80 = .ok (.irem, 1) := by decide +kernel
theorem dX5_season_81 : decode cX5_season 81 = .ok (.istore 5, 2) := by decide +kernel
theorem dX5_season_83 : decode cX5_season 83 = .ok (.aload_n 0, 1) := by decide +kernel
theorem dX5_season_84 : decode cX5_season 84 = .ok (.getfield 10, 3) := by decide +kernel
theorem dX5_season_87 : decode cX5_season 87 = .ok (.getfield 59, 3) := by decide +kernel
theorem dX5_season_90 : decode cX5_season 90 = .ok (.iload 4, 2) := by decide +kernel
theorem dX5_season_92 : decode cX5_season 92 = .ok (.iload 5, 2) := by decide +kernel
theorem dX5_season_94 : decode cX5_season 94 = .ok (.iconst 1, 1) := by decide +kernel
theorem dX5_season_95 : decode cX5_season 95 = .ok (.invokevirtual 100, 3) := by decide +kernel
theorem dX5_season_98 : decode cX5_season 98 = .ok (.ifCond .eq 19, 3) := by decide +kernel
theorem dX5_season_101 : decode cX5_season 101 = .ok (.aload_n 0, 1) := by decide +kernel
theorem dX5_season_102 : decode cX5_season 102 = .ok (.getfield 10, 3) := by decide +kernel
theorem dX5_season_105 : decode cX5_season 105 = .ok (.getfield 59, 3) := by decide +kernel
theorem dX5_season_108 : decode cX5_season 108 = .ok (.iload 4, 2) := by decide +kernel
theorem dX5_season_110 : decode cX5_season 110 = .ok (.iload 5, 2) := by decide +kernel
theorem dX5_season_112 : decode cX5_season 112 = .ok (.iconst 1, 1) := by decide +kernel
theorem dX5_season_113 : decode cX5_season 113 = .ok (.invokevirtual 103, 3) := by decide +kernel
theorem dX5_season_116 : decode cX5_season 116 = .ok (.pop, 1) := by decide +kernel
theorem dX5_season_117 : decode cX5_season 117 = .ok (.iload_n 2, 1) := by decide +kernel
theorem dX5_season_118 : decode cX5_season 118 = .ok (.aload_n 0, 1) := by decide +kernel
theorem dX5_season_119 : decode cX5_season 119 = .ok (.iconst 2, 1) := by decide +kernel
theorem dX5_season_120 : decode cX5_season 120 = .ok (.invokevirtual 139, 3) := by decide +kernel
theorem dX5_season_123 : decode cX5_season 123 = .ok (.iadd, 1) := by decide +kernel
theorem dX5_season_124 : decode cX5_season 124 = .ok (.istore_n 2, 1) := by decide +kernel
theorem dX5_season_125 : decode cX5_season 125 = .ok (.iinc 3 1, 3) := by decide +kernel
theorem dX5_season_128 : decode cX5_season 128 = .ok (.goto (-92), 3) := by decide +kernel
theorem dX5_season_131 : decode cX5_season 131 = .ok (.iload_n 2, 1) := by decide +kernel
theorem dX5_season_132 : decode cX5_season 132 = .ok (.ireturn, 1) := by decide +kernel
theorem dX5_seed_0 : decode cX5_seed 0 = .ok (.aload_n 0, 1) := by decide +kernel
theorem dX5_seed_1 : decode cX5_seed 1 = .ok (.getfield 10, 3) := by decide +kernel
theorem dX5_seed_4 : decode cX5_seed 4 = .ok (.getfield 201, 3) := by decide +kernel
theorem dX5_seed_7 : decode cX5_seed 7 = .ok (.istore_n 2, 1) := by decide +kernel
theorem dX5_seed_8 : decode cX5_seed 8 = .ok (.aload_n 0, 1) := by decide +kernel
theorem dX5_seed_9 : decode cX5_seed 9 = .ok (.getfield 10, 3) := by decide +kernel
theorem dX5_seed_12 : decode cX5_seed 12 = .ok (.iload_n 1, 1) := by decide +kernel
theorem dX5_seed_13 : decode cX5_seed 13 = .ok (.putfield 201, 3) := by decide +kernel
theorem dX5_seed_16 : decode cX5_seed 16 = .ok (.iload_n 2, 1) := by decide +kernel
theorem dX5_seed_17 : decode cX5_seed 17 = .ok (.ireturn, 1) := by decide +kernel
set_option maxRecDepth 20000 in
theorem ggX5_feed_X5_isIn : GoodIn wsX5_feed wsX5_isIn := goodIn_r _ [6] (by decide +kernel) (by decide +kernel)
set_option maxRecDepth 20000 in
theorem gX5_feed_X5_isIn : GoodIn wsX5_feed (va_wsS RX5 68 yX5_isIn wsX5_isIn) := goodIn_app (goodIn_of _ (by decide +kernel)) ggX5_feed_X5_isIn
set_option maxRecDepth 20000 in
theorem ggX5_feed_X5_finding : GoodIn wsX5_feed wsX5_finding := goodIn_r _ [10, 11, 12, 20, 21, 22, 23, 24, 25, 26] (by decide +kernel) (by decide +kernel)
set_option maxRecDepth 20000 in
theorem gX5_feed_X5_finding : GoodIn wsX5_feed (wsV RX5 55 RX5 yX5_finding wsX5_finding) := goodIn_app (goodIn_of _ (by decide +kernel)) ggX5_feed_X5_finding
set_option maxRecDepth 20000 in
theorem ggX5_feed_X2_append : GoodIn wsX5_feed wsX2_append := goodIn_r _ [17, 18, 19, 27, 28, 29, 30, 31, 32] (by decide +kernel) (by decide +kernel)
set_option maxRecDepth 20000 in
theorem gX5_feed_X2_append : GoodIn wsX5_feed (wsV RX5 205 RX2 yX2_append wsX2_append) := goodIn_app (goodIn_of _ (by decide +kernel)) ggX5_feed_X2_append
theorem dX5_feed_0 : decode cX5_feed 0 = .ok (.iload_n 2, 1) := by decide +kernel
theorem dX5_feed_1 : decode cX5_feed 1 = .ok (.iconst 1, 1) := by decide +kernel
theorem dX5_feed_2 : decode cX5_feed 2 = .ok (.iconst 4, 1) := by decide +kernel
theorem dX5_feed_3 : decode cX5_feed 3 = .ok (.invokestatic 68, 3) := by decide +kernel
theorem dX5_feed_6 : decode cX5_feed 6 = .ok (.ifCond .ne 9, 3) := by decide +kernel
theorem dX5_feed_9 : decode cX5_feed 9 = .ok (.aload_n 0, 1) := by decide +kernel
theorem dX5_feed_10 : decode cX5_feed 10 = .ok (.iconst 0, 1) := by decide +kernel
theorem dX5_feed_11 : decode cX5_feed 11 = .ok (.invokevirtual 55, 3) := by decide +kernel
theorem dX5_feed_14 : decode cX5_feed 14 = .ok (.ireturn, 1) := by decide +kernel
theorem dX5_feed_15 : decode cX5_feed 15 = .ok (.aload_n 0, 1) := by decide +kernel
theorem dX5_feed_16 : decode cX5_feed 16 = .ok (.getfield 33, 3) := by decide +kernel
theorem dX5_feed_19 : decode cX5_feed 19 = .ok (.getfield 204, 3) := by decide +kernel
theorem dX5_feed_22 : decode cX5_feed 22 = .ok (.iload_n 2, 1) := by decide +kernel
theorem dX5_feed_23 : decode cX5_feed 23 = .ok (.iadd, 1) := by decide +kernel
theorem dX5_feed_24 : decode cX5_feed 24 = .ok (.bipush 120, 2) := by decide +kernel
theorem dX5_feed_26 : decode cX5_feed 26 = .ok (.if_icmp .le 9, 3) := by decide +kernel
theorem dX5_feed_29 : decode cX5_feed 29 = .ok (.aload_n 0, 1) := by decide +kernel
theorem dX5_feed_30 : decode cX5_feed 30 = .ok (.iconst 1, 1) := by decide +kernel
theorem dX5_feed_31 : decode cX5_feed 31 = .ok (.invokevirtual 55, 3) := by decide +kernel
theorem dX5_feed_34 : decode cX5_feed 34 = .ok (.ireturn, 1) := by decide +kernel
theorem dX5_feed_35 : decode cX5_feed 35 = .ok (.iload_n 2, 1) := by decide +kernel
theorem dX5_feed_36 : decode cX5_feed 36 = .ok (.iconst 1, 1) := by decide +kernel
theorem dX5_feed_37 : decode cX5_feed 37 = .ok (.isub, 1) := by decide +kernel
theorem dX5_feed_38 : decode cX5_feed 38 = .ok (.istore_n 3, 1) := by decide +kernel
theorem dX5_feed_39 : decode cX5_feed 39 = .ok (.iload_n 3, 1) := by decide +kernel
theorem dX5_feed_40 : decode cX5_feed 40 = .ok (.ifCond .lt 26, 3) := by decide +kernel
theorem dX5_feed_43 : decode cX5_feed 43 = .ok (.aload_n 0, 1) := by decide +kernel
theorem dX5_feed_44 : decode cX5_feed 44 = .ok (.getfield 33, 3) := by decide +kernel
theorem dX5_feed_47 : decode cX5_feed 47 = .ok (.iload_n 1, 1) := by decide +kernel
theorem dX5_feed_48 : decode cX5_feed 48 = .ok (.bipush 8, 2) := by decide +kernel
theorem dX5_feed_50 : decode cX5_feed 50 = .ok (.iload_n 3, 1) := by decide +kernel
theorem dX5_feed_51 : decode cX5_feed 51 = .ok (.imul, 1) := by decide +kernel
theorem dX5_feed_52 : decode cX5_feed 52 = .ok (.iushr, 1) := by decide +kernel
theorem dX5_feed_53 : decode cX5_feed 53 = .ok (.sipush 255, 3) := by decide +kernel
theorem dX5_feed_56 : decode cX5_feed 56 = .ok (.iand, 1) := by decide +kernel
theorem dX5_feed_57 : decode cX5_feed 57 = .ok (.invokevirtual 205, 3) := by decide +kernel
theorem dX5_feed_60 : decode cX5_feed 60 = .ok (.iinc 3 (-1), 3) := by decide +kernel
theorem dX5_feed_63 : decode cX5_feed 63 = .ok (.goto (-24), 3) := by decide +kernel
theorem dX5_feed_66 : decode cX5_feed 66 = .ok (.aload_n 0, 1) := by decide +kernel
theorem dX5_feed_67 : decode cX5_feed 67 = .ok (.getfield 33, 3) := by decide +kernel
theorem dX5_feed_70 : decode cX5_feed 70 = .ok (.getfield 204, 3) := by decide +kernel
theorem dX5_feed_73 : decode cX5_feed 73 = .ok (.ireturn, 1) := by decide +kernel
theorem dX5_wipe_0 : decode cX5_wipe 0 = .ok (.aload_n 0, 1) := by decide +kernel
theorem dX5_wipe_1 : decode cX5_wipe 1 = .ok (.getfield 33, 3) := by decide +kernel
theorem dX5_wipe_4 : decode cX5_wipe 4 = .ok (.getfield 204, 3) := by decide +kernel
theorem dX5_wipe_7 : decode cX5_wipe 7 = .ok (.istore_n 1, 1) := by decide +kernel
theorem dX5_wipe_8 : decode cX5_wipe 8 = .ok (.aload_n 0, 1) := by decide +kernel
theorem dX5_wipe_9 : decode cX5_wipe 9 = .ok (.getfield 33, 3) := by decide +kernel
theorem dX5_wipe_12 : decode cX5_wipe 12 = .ok (.iconst 0, 1) := by decide +kernel
theorem dX5_wipe_13 : decode cX5_wipe 13 = .ok (.putfield 204, 3) := by decide +kernel
theorem dX5_wipe_16 : decode cX5_wipe 16 = .ok (.iload_n 1, 1) := by decide +kernel
theorem dX5_wipe_17 : decode cX5_wipe 17 = .ok (.ireturn, 1) := by decide +kernel
set_option maxRecDepth 20000 in
theorem ggX5_text_X1_copyFrom : GoodIn wsX5_text wsX1_copyFrom := goodIn_r _ [10, 11, 12, 13, 14, 15, 16, 17, 18, 19, 20, 21, 22, 23, 24, 173, 174, 175, 176, 177, 178, 179, 180, 181, 182] (by decide +kernel) (by decide +kernel)
set_option maxRecDepth 20000 in
theorem gX5_text_X1_copyFrom : GoodIn wsX5_text (wsV RX5 161 RX1 yX1_copyFrom wsX1_copyFrom) := goodIn_app (goodIn_of _ (by decide +kernel)) ggX5_text_X1_copyFrom
set_option maxRecDepth 20000 in
theorem ggX5_text_X2_tell : GoodIn wsX5_text wsX2_tell := goodIn_r _ [29, 30, 31, 32, 33, 34, 35, 28, 36, 37, 38, 39, 40, 41, 42, 43, 44, 45, 46, 47, 48, 49, 50, 51, 52, 53, 54, 55, 56, 57, 58, 59, 60, 61, 62, 63, 64, 65, 66, 67, 68, 69, 70, 71, 72, 73, 74, 75, 76, 77, 78, 79, 80, 81, 82, 83, 84, 85, 86, 87, 88, 89, 90, 91, 92, 93, 94, 95, 96, 97, 98, 99, 100, 101, 102, 103, 104, 105, 106, 107, 108, 109, 110, 111, 112, 113, 114, 115, 116, 117, 118, 119, 120, 121, 122, 123, 124, 125, 126, 127, 128, 129, 130, 131, 132, 133, 134, 135, 136, 137, 138, 139, 140, 141, 142, 143, 144, 145, 146, 147, 148, 149, 9, 150, 16, 17, 18, 151, 152, 153, 154, 155, 167, 168, 169, 170, 171, 172, 173, 174, 175, 176, 177, 178, 179, 180, 181, 182] (by decide +kernel) (by decide +kernel)
set_option maxRecDepth 20000 in
theorem gX5_text_X2_tell : GoodIn wsX5_text (wsV RX5 208 RX2 yX2_tell wsX2_tell) := goodIn_app (goodIn_of _ (by decide +kernel)) ggX5_text_X2_tell
theorem dX5_text_0 : decode cX5_text 0 = .ok (.aload_n 0, 1) := by decide +kernel
theorem dX5_text_1 : decode cX5_text 1 = .ok (.getfield 26, 3) := by decide +kernel
theorem dX5_text_4 : decode cX5_text 4 = .ok (.aload_n 0, 1) := by decide +kernel
theorem dX5_text_5 : decode cX5_text 5 = .ok (.getfield 10, 3) := by decide +kernel
theorem dX5_text_8 : decode cX5_text 8 = .ok (.getfield 59, 3) := by decide +kernel
theorem dX5_text_11 : decode cX5_text 11 = .ok (.invokevirtual 161, 3) := by decide +kernel
theorem dX5_text_14 : decode cX5_text 14 = .ok (.aload_n 0, 1) := by decide +kernel
theorem dX5_text_15 : decode cX5_text 15 = .ok (.getfield 33, 3) := by decide +kernel
theorem dX5_text_18 : decode cX5_text 18 = .ok (.aload_n 0, 1) := by decide +kernel
theorem dX5_text_19 : decode cX5_text 19 = .ok (.getfield 26, 3) := by decide +kernel
theorem dX5_text_22 : decode cX5_text 22 = .ok (.invokevirtual 208, 3) := by decide +kernel
theorem dX5_text_25 : decode cX5_text 25 = .ok (.istore_n 1, 1) := by decide +kernel
theorem dX5_text_26 : decode cX5_text 26 = .ok (.aload_n 0, 1) := by decide +kernel
theorem dX5_text_27 : decode cX5_text 27 = .ok (.getfield 33, 3) := by decide +kernel
theorem dX5_text_30 : decode cX5_text 30 = .ok (.iconst 0, 1) := by decide +kernel
theorem dX5_text_31 : decode cX5_text 31 = .ok (.putfield 204, 3) := by decide +kernel
theorem dX5_text_34 : decode cX5_text 34 = .ok (.iload_n 1, 1) := by decide +kernel
theorem dX5_text_35 : decode cX5_text 35 = .ok (.ifCond .lt 17, 3) := by decide +kernel
theorem dX5_text_38 : decode cX5_text 38 = .ok (.aload_n 0, 1) := by decide +kernel
theorem dX5_text_39 : decode cX5_text 39 = .ok (.getfield 10, 3) := by decide +kernel
theorem dX5_text_42 : decode cX5_text 42 = .ok (.getfield 59, 3) := by decide +kernel
theorem dX5_text_45 : decode cX5_text 45 = .ok (.aload_n 0, 1) := by decide +kernel
theorem dX5_text_46 : decode cX5_text 46 = .ok (.getfield 26, 3) := by decide +kernel
theorem dX5_text_49 : decode cX5_text 49 = .ok (.invokevirtual 161, 3) := by decide +kernel
theorem dX5_text_52 : decode cX5_text 52 = .ok (.iload_n 1, 1) := by decide +kernel
theorem dX5_text_53 : decode cX5_text 53 = .ok (.ireturn, 1) := by decide +kernel
set_option maxRecDepth 20000 in
theorem ggX5_hold_X5_isIn : GoodIn wsX5_hold wsX5_isIn := goodIn_r _ [6] (by decide +kernel) (by decide +kernel)
set_option maxRecDepth 20000 in
theorem gX5_hold_X5_isIn : GoodIn wsX5_hold (va_wsS RX5 68 yX5_isIn wsX5_isIn) := goodIn_app (goodIn_of _ (by decide +kernel)) ggX5_hold_X5_isIn
set_option maxRecDepth 20000 in
theorem ggX5_hold_X5_finding : GoodIn wsX5_hold wsX5_finding := goodIn_r _ [10, 11, 12, 13, 14, 15, 16, 17, 18, 19] (by decide +kernel) (by decide +kernel)
set_option maxRecDepth 20000 in
theorem gX5_hold_X5_finding : GoodIn wsX5_hold (wsV RX5 55 RX5 yX5_finding wsX5_finding) := goodIn_app (goodIn_of _ (by decide +kernel)) ggX5_hold_X5_finding
theorem dX5_hold_0 : decode cX5_hold 0 = .ok (.iload_n 1, 1) := by decide +kernel
theorem dX5_hold_1 : decode cX5_hold 1 = .ok (.iconst 0, 1) := by decide +kernel
theorem dX5_hold_2 : decode cX5_hold 2 = .ok (.bipush 9, 2) := by decide +kernel
theorem dX5_hold_4 : decode cX5_hold 4 = .ok (.invokestatic 68, 3) := by decide +kernel
theorem dX5_hold_7 : decode cX5_hold 7 = .ok (.ifCond .eq 12, 3) := by decide +kernel
theorem dX5_hold_10 : decode cX5_hold 10 = .ok (.iload_n 2, 1) := by decide +kernel
theorem dX5_hold_11 : decode cX5_hold 11 = .ok (.iconst (-1), 1) := by decide +kernel
theorem dX5_hold_12 : decode cX5_hold 12 = .ok (.iconst 4, 1) := by decide +kernel
theorem dX5_hold_13 : decode cX5_hold 13 = .ok (.invokestatic 68, 3) := by decide +kernel
theorem dX5_hold_16 : decode cX5_hold 16 = .ok (.ifCond .ne 9, 3) := by decide +kernel
theorem dX5_hold_19 : decode cX5_hold 19 = .ok (.aload_n 0, 1) := by decide +kernel
theorem dX5_hold_20 : decode cX5_hold 20 = .ok (.iconst 0, 1) := by decide +kernel
theorem dX5_hold_21 : decode cX5_hold 21 = .ok (.invokevirtual 55, 3) := by decide +kernel
theorem dX5_hold_24 : decode cX5_hold 24 = .ok (.ireturn, 1) := by decide +kernel
theorem dX5_hold_25 : decode cX5_hold 25 = .ok (.aload_n 0, 1) := by decide +kernel
theorem dX5_hold_26 : decode cX5_hold 26 = .ok (.getfield 10, 3) := by decide +kernel
theorem dX5_hold_29 : decode cX5_hold 29 = .ok (.getfield 212, 3) := by decide +kernel
theorem dX5_hold_32 : decode cX5_hold 32 = .ok (.iload_n 1, 1) := by decide +kernel
theorem dX5_hold_33 : decode cX5_hold 33 = .ok (.iload_n 2, 1) := by decide +kernel
theorem dX5_hold_34 : decode cX5_hold 34 = .ok (.iastore, 1) := by decide +kernel
theorem dX5_hold_35 : decode cX5_hold 35 = .ok (.iconst 1, 1) := by decide +kernel
theorem dX5_hold_36 : decode cX5_hold 36 = .ok (.ireturn, 1) := by decide +kernel
set_option maxRecDepth 20000 in
theorem ggX5_as_X5_isIn : GoodIn wsX5_as wsX5_isIn := goodIn_r _ [8] (by decide +kernel) (by decide +kernel)
set_option maxRecDepth 20000 in
theorem gX5_as_X5_isIn : GoodIn wsX5_as (va_wsS RX5 68 yX5_isIn wsX5_isIn) := goodIn_app (goodIn_of _ (by decide +kernel)) ggX5_as_X5_isIn
set_option maxRecDepth 20000 in
theorem ggX5_as_X5_isKind : GoodIn wsX5_as wsX5_isKind := goodIn_r _ [11, 5, 6, 7, 8] (by decide +kernel) (by decide +kernel)
set_option maxRecDepth 20000 in
theorem gX5_as_X5_isKind : GoodIn wsX5_as (va_wsS RX5 52 yX5_isKind wsX5_isKind) := goodIn_app (goodIn_of _ (by decide +kernel)) ggX5_as_X5_isKind
set_option maxRecDepth 20000 in
theorem ggX5_as_X5_finding : GoodIn wsX5_as wsX5_finding := goodIn_r _ [15, 16, 17, 25, 26, 27, 28, 29, 30, 31] (by decide +kernel) (by decide +kernel)
set_option maxRecDepth 20000 in
theorem gX5_as_X5_finding : GoodIn wsX5_as (wsV RX5 55 RX5 yX5_finding wsX5_finding) := goodIn_app (goodIn_of _ (by decide +kernel)) ggX5_as_X5_finding
set_option maxRecDepth 20000 in
theorem ggX5_as_X5_isThing : GoodIn wsX5_as wsX5_isThing := goodIn_r _ [20, 5, 6, 7, 8] (by decide +kernel) (by decide +kernel)
set_option maxRecDepth 20000 in
theorem gX5_as_X5_isThing : GoodIn wsX5_as (va_wsS RX5 48 yX5_isThing wsX5_isThing) := goodIn_app (goodIn_of _ (by decide +kernel)) ggX5_as_X5_isThing
set_option maxRecDepth 20000 in
theorem ggX5_as_X5_isUnder : GoodIn wsX5_as wsX5_isUnder := goodIn_r _ [23, 24, 9, 10, 7, 11, 5, 6, 8] (by decide +kernel) (by decide +kernel)
set_option maxRecDepth 20000 in
theorem gX5_as_X5_isUnder : GoodIn wsX5_as (va_wsS RX5 215 yX5_isUnder wsX5_isUnder) := goodIn_app (goodIn_of _ (by decide +kernel)) ggX5_as_X5_isUnder
theorem dX5_as_0 : decode cX5_as 0 = .ok (.iload_n 1, 1) := by decide +kernel
theorem dX5_as_1 : decode cX5_as 1 = .ok (.iconst 0, 1) := by decide +kernel
theorem dX5_as_2 : decode cX5_as 2 = .ok (.bipush 9, 2) := by decide +kernel
theorem dX5_as_4 : decode cX5_as 4 = .ok (.invokestatic 68, 3) := by decide +kernel
theorem dX5_as_7 : decode cX5_as 7 = .ok (.ifCond .eq 10, 3) := by decide +kernel
theorem dX5_as_10 : decode cX5_as 10 = .ok (.iload_n 2, 1) := by decide +kernel
theorem dX5_as_11 : decode cX5_as 11 = .ok (.invokestatic 52, 3) := by decide +kernel
theorem dX5_as_14 : decode cX5_as 14 = .ok (.ifCond .ne 9, 3) := by decide +kernel
theorem dX5_as_17 : decode cX5_as 17 = .ok (.aload_n 0, 1) := by decide +kernel
theorem dX5_as_18 : decode cX5_as 18 = .ok (.iconst 0, 1) := by decide +kernel
theorem dX5_as_19 : decode cX5_as 19 = .ok (.invokevirtual 55, 3) := by decide +kernel
theorem dX5_as_22 : decode cX5_as 22 = .ok (.ireturn, 1) := by decide +kernel
theorem dX5_as_23 : decode cX5_as 23 = .ok (.aload_n 0, 1) := by decide +kernel
theorem dX5_as_24 : decode cX5_as 24 = .ok (.getfield 10, 3) := by decide +kernel
theorem dX5_as_27 : decode cX5_as 27 = .ok (.getfield 212, 3) := by decide +kernel
theorem dX5_as_30 : decode cX5_as 30 = .ok (.iload_n 1, 1) := by decide +kernel
theorem dX5_as_31 : decode cX5_as 31 = .ok (.iaload, 1) := by decide +kernel
theorem dX5_as_32 : decode cX5_as 32 = .ok (.istore_n 3, 1) := by decide +kernel
theorem dX5_as_33 : decode cX5_as 33 = .ok (.iload_n 3, 1) := by decide +kernel
theorem dX5_as_34 : decode cX5_as 34 = .ok (.invokestatic 48, 3) := by decide +kernel
theorem dX5_as_37 : decode cX5_as 37 = .ok (.ifCond .ne 9, 3) := by decide +kernel
theorem dX5_as_40 : decode cX5_as 40 = .ok (.aload_n 0, 1) := by decide +kernel
theorem dX5_as_41 : decode cX5_as 41 = .ok (.iconst 5, 1) := by decide +kernel
theorem dX5_as_42 : decode cX5_as 42 = .ok (.invokevirtual 55, 3) := by decide +kernel
theorem dX5_as_45 : decode cX5_as 45 = .ok (.ireturn, 1) := by decide +kernel
theorem dX5_as_46 : decode cX5_as 46 = .ok (.aload_n 0, 1) := by decide +kernel
theorem dX5_as_47 : decode cX5_as 47 = .ok (.getfield 10, 3) := by decide +kernel
theorem dX5_as_50 : decode cX5_as 50 = .ok (.getfield 59, 3) := by decide +kernel
theorem dX5_as_53 : decode cX5_as 53 = .ok (.getfield 62, 3) := by decide +kernel
theorem dX5_as_56 : decode cX5_as 56 = .ok (.iload_n 3, 1) := by decide +kernel
theorem dX5_as_57 : decode cX5_as 57 = .ok (.iaload, 1) := by decide +kernel
theorem dX5_as_58 : decode cX5_as 58 = .ok (.iload_n 2, 1) := by decide +kernel
theorem dX5_as_59 : decode cX5_as 59 = .ok (.invokestatic 215, 3) := by decide +kernel
theorem dX5_as_62 : decode cX5_as 62 = .ok (.ifCond .ne 9, 3) := by decide +kernel
theorem dX5_as_65 : decode cX5_as 65 = .ok (.aload_n 0, 1) := by decide +kernel
theorem dX5_as_66 : decode cX5_as 66 = .ok (.iconst 2, 1) := by decide +kernel
theorem dX5_as_67 : decode cX5_as 67 = .ok (.invokevirtual 55, 3) := by decide +kernel
theorem dX5_as_70 : decode cX5_as 70 = .ok (.ireturn, 1) := by decide +kernel
theorem dX5_as_71 : decode cX5_as 71 = .ok (.iload_n 3, 1) := by decide +kernel
theorem dX5_as_72 : decode cX5_as 72 = .ok (.ireturn, 1) := by decide +kernel
set_option maxRecDepth 20000 in
theorem ggX5_sheet_X5_isSheet : GoodIn wsX5_sheet wsX5_isSheet := goodIn_r _ [5, 6, 7, 4, 8] (by decide +kernel) (by decide +kernel)
set_option maxRecDepth 20000 in
theorem gX5_sheet_X5_isSheet : GoodIn wsX5_sheet (va_wsS RX5 218 yX5_isSheet wsX5_isSheet) := goodIn_app (goodIn_of _ (by decide +kernel)) ggX5_sheet_X5_isSheet
set_option maxRecDepth 20000 in
theorem ggX5_sheet_X5_finding : GoodIn wsX5_sheet wsX5_finding := goodIn_r _ [12, 13, 14, 27, 28, 29, 30, 31, 32, 33] (by decide +kernel) (by decide +kernel)
set_option maxRecDepth 20000 in
theorem gX5_sheet_X5_finding : GoodIn wsX5_sheet (wsV RX5 55 RX5 yX5_finding wsX5_finding) := goodIn_app (goodIn_of _ (by decide +kernel)) ggX5_sheet_X5_finding
set_option maxRecDepth 20000 in
theorem ggX5_sheet_X3_begin : GoodIn wsX5_sheet wsX3_begin := goodIn_r _ [19, 20, 21, 22, 23, 24, 25, 26, 34, 35, 36] (by decide +kernel) (by decide +kernel)
set_option maxRecDepth 20000 in
theorem gX5_sheet_X3_begin : GoodIn wsX5_sheet (wsV RX5 221 RX3 yX3_begin wsX3_begin) := goodIn_app (goodIn_of _ (by decide +kernel)) ggX5_sheet_X3_begin
theorem dX5_sheet_0 : decode cX5_sheet 0 = .ok (.iload_n 1, 1) := by decide +kernel
theorem dX5_sheet_1 : decode cX5_sheet 1 = .ok (.invokestatic 218, 3) := by decide +kernel
theorem dX5_sheet_4 : decode cX5_sheet 4 = .ok (.ifCond .eq 25, 3) := by decide +kernel
theorem dX5_sheet_7 : decode cX5_sheet 7 = .ok (.iload_n 2, 1) := by decide +kernel
theorem dX5_sheet_8 : decode cX5_sheet 8 = .ok (.ifCond .eq 27, 3) := by decide +kernel
theorem dX5_sheet_11 : decode cX5_sheet 11 = .ok (.iload_n 2, 1) := by decide +kernel
theorem dX5_sheet_12 : decode cX5_sheet 12 = .ok (.bipush 8, 2) := by decide +kernel
theorem dX5_sheet_14 : decode cX5_sheet 14 = .ok (.if_icmp .eq 21, 3) := by decide +kernel
theorem dX5_sheet_17 : decode cX5_sheet 17 = .ok (.iload_n 2, 1) := by decide +kernel
theorem dX5_sheet_18 : decode cX5_sheet 18 = .ok (.bipush 16, 2) := by decide +kernel
theorem dX5_sheet_20 : decode cX5_sheet 20 = .ok (.if_icmp .eq 15, 3) := by decide +kernel
theorem dX5_sheet_23 : decode cX5_sheet 23 = .ok (.iload_n 2, 1) := by decide +kernel
theorem dX5_sheet_24 : decode cX5_sheet 24 = .ok (.bipush 32, 2) := by decide +kernel
theorem dX5_sheet_26 : decode cX5_sheet 26 = .ok (.if_icmp .eq 9, 3) := by decide +kernel
theorem dX5_sheet_29 : decode cX5_sheet 29 = .ok (.aload_n 0, 1) := by decide +kernel
theorem dX5_sheet_30 : decode cX5_sheet 30 = .ok (.iconst 0, 1) := by decide +kernel
theorem dX5_sheet_31 : decode cX5_sheet 31 = .ok (.invokevirtual 55, 3) := by decide +kernel
theorem dX5_sheet_34 : decode cX5_sheet 34 = .ok (.ireturn, 1) := by decide +kernel
theorem dX5_sheet_35 : decode cX5_sheet 35 = .ok (.iload_n 3, 1) := by decide +kernel
theorem dX5_sheet_36 : decode cX5_sheet 36 = .ok (.ifCond .ge 10, 3) := by decide +kernel
theorem dX5_sheet_39 : decode cX5_sheet 39 = .ok (.aload_n 0, 1) := by decide +kernel
theorem dX5_sheet_40 : decode cX5_sheet 40 = .ok (.bipush 6, 2) := by decide +kernel
theorem dX5_sheet_42 : decode cX5_sheet 42 = .ok (.invokevirtual 55, 3) := by decide +kernel
theorem dX5_sheet_45 : decode cX5_sheet 45 = .ok (.ireturn, 1) := by decide +kernel
theorem dX5_sheet_46 : decode cX5_sheet 46 = .ok (.iload_n 3, 1) := by decide +kernel
theorem dX5_sheet_47 : decode cX5_sheet 47 = .ok (.bipush 40, 2) := by decide +kernel
theorem dX5_sheet_49 : decode cX5_sheet 49 = .ok (.if_icmp .le 9, 3) := by decide +kernel
theorem dX5_sheet_52 : decode cX5_sheet 52 = .ok (.aload_n 0, 1) := by decide +kernel
theorem dX5_sheet_53 : decode cX5_sheet 53 = .ok (.iconst 0, 1) := by decide +kernel
theorem dX5_sheet_54 : decode cX5_sheet 54 = .ok (.invokevirtual 55, 3) := by decide +kernel
theorem dX5_sheet_57 : decode cX5_sheet 57 = .ok (.ireturn, 1) := by decide +kernel
theorem dX5_sheet_58 : decode cX5_sheet 58 = .ok (.aload_n 0, 1) := by decide +kernel
theorem dX5_sheet_59 : decode cX5_sheet 59 = .ok (.getfield 39, 3) := by decide +kernel
theorem dX5_sheet_62 : decode cX5_sheet 62 = .ok (.iload_n 1, 1) := by decide +kernel
theorem dX5_sheet_63 : decode cX5_sheet 63 = .ok (.aaload, 1) := by decide +kernel
theorem dX5_sheet_64 : decode cX5_sheet 64 = .ok (.iload_n 2, 1) := by decide +kernel
theorem dX5_sheet_65 : decode cX5_sheet 65 = .ok (.iload_n 3, 1) := by decide +kernel
theorem dX5_sheet_66 : decode cX5_sheet 66 = .ok (.invokevirtual 221, 3) := by decide +kernel
theorem dX5_sheet_69 : decode cX5_sheet 69 = .ok (.ireturn, 1) := by decide +kernel
set_option maxRecDepth 20000 in
theorem ggX5_write_X5_isSheet : GoodIn wsX5_write wsX5_isSheet := goodIn_r _ [6, 7, 8, 5, 9] (by decide +kernel) (by decide +kernel)
set_option maxRecDepth 20000 in
theorem gX5_write_X5_isSheet : GoodIn wsX5_write (va_wsS RX5 218 yX5_isSheet wsX5_isSheet) := goodIn_app (goodIn_of _ (by decide +kernel)) ggX5_write_X5_isSheet
set_option maxRecDepth 20000 in
theorem ggX5_write_X5_finding : GoodIn wsX5_write wsX5_finding := goodIn_r _ [13, 14, 15, 27, 28, 29, 30, 31, 32, 33] (by decide +kernel) (by decide +kernel)
set_option maxRecDepth 20000 in
theorem gX5_write_X5_finding : GoodIn wsX5_write (wsV RX5 55 RX5 yX5_finding wsX5_finding) := goodIn_app (goodIn_of _ (by decide +kernel)) ggX5_write_X5_finding
set_option maxRecDepth 20000 in
theorem ggX5_write_X3_isMissing : GoodIn wsX5_write wsX3_isMissing := goodIn_r _ [20, 21, 34, 35, 36] (by decide +kernel) (by decide +kernel)
set_option maxRecDepth 20000 in
theorem gX5_write_X3_isMissing : GoodIn wsX5_write (wsV RX5 224 RX3 yX3_isMissing wsX3_isMissing) := goodIn_app (goodIn_of _ (by decide +kernel)) ggX5_write_X3_isMissing
set_option maxRecDepth 20000 in
theorem ggX5_write_X5_isIn : GoodIn wsX5_write wsX5_isIn := goodIn_r _ [9] (by decide +kernel) (by decide +kernel)
set_option maxRecDepth 20000 in
theorem gX5_write_X5_isIn : GoodIn wsX5_write (va_wsS RX5 68 yX5_isIn wsX5_isIn) := goodIn_app (goodIn_of _ (by decide +kernel)) ggX5_write_X5_isIn
set_option maxRecDepth 20000 in
theorem ggX5_write_X3_put : GoodIn wsX5_write wsX3_put := goodIn_r _ [25, 21, 26, 34, 35, 36] (by decide +kernel) (by decide +kernel)
set_option maxRecDepth 20000 in
theorem gX5_write_X3_put : GoodIn wsX5_write (wsV RX5 229 RX3 yX3_put wsX3_put) := goodIn_app (goodIn_of _ (by decide +kernel)) ggX5_write_X3_put
theorem dX5_write_0 : decode cX5_write 0 = .ok (.iload_n 1, 1) := by decide +kernel
theorem dX5_write_1 : decode cX5_write 1 = .ok (.invokestatic 218, 3) := by decide +kernel
theorem dX5_write_4 : decode cX5_write 4 = .ok (.ifCond .ne 9, 3) := by decide +kernel
theorem dX5_write_7 : decode cX5_write 7 = .ok (.aload_n 0, 1) := by decide +kernel
theorem dX5_write_8 : decode cX5_write 8 = .ok (.iconst 0, 1) := by decide +kernel
theorem dX5_write_9 : decode cX5_write 9 = .ok (.invokevirtual 55, 3) := by decide +kernel
theorem dX5_write_12 : decode cX5_write 12 = .ok (.ireturn, 1) := by decide +kernel
theorem dX5_write_13 : decode cX5_write 13 = .ok (.aload_n 0, 1) := by decide +kernel
theorem dX5_write_14 : decode cX5_write 14 = .ok (.getfield 39, 3) := by decide +kernel
theorem dX5_write_17 : decode cX5_write 17 = .ok (.iload_n 1, 1) := by decide +kernel
theorem dX5_write_18 : decode cX5_write 18 = .ok (.aaload, 1) := by decide +kernel
theorem dX5_write_19 : decode cX5_write 19 = .ok (.invokevirtual 224, 3) := by decide +kernel
theorem dX5_write_22 : decode cX5_write 22 = .ok (.ifCond .eq 9, 3) := by decide +kernel
theorem dX5_write_25 : decode cX5_write 25 = .ok (.aload_n 0, 1) := by decide +kernel
theorem dX5_write_26 : decode cX5_write 26 = .ok (.iconst 5, 1) := by decide +kernel
theorem dX5_write_27 : decode cX5_write 27 = .ok (.invokevirtual 55, 3) := by decide +kernel
theorem dX5_write_30 : decode cX5_write 30 = .ok (.ireturn, 1) := by decide +kernel
theorem dX5_write_31 : decode cX5_write 31 = .ok (.iload_n 2, 1) := by decide +kernel
theorem dX5_write_32 : decode cX5_write 32 = .ok (.iconst 0, 1) := by decide +kernel
theorem dX5_write_33 : decode cX5_write 33 = .ok (.aload_n 0, 1) := by decide +kernel
theorem dX5_write_34 : decode cX5_write 34 = .ok (.getfield 39, 3) := by decide +kernel
theorem dX5_write_37 : decode cX5_write 37 = .ok (.iload_n 1, 1) := by decide +kernel
theorem dX5_write_38 : decode cX5_write 38 = .ok (.aaload, 1) := by decide +kernel
theorem dX5_write_39 : decode cX5_write 39 = .ok (.getfield 228, 3) := by decide +kernel
theorem dX5_write_42 : decode cX5_write 42 = .ok (.iconst 1, 1) := by decide +kernel
theorem dX5_write_43 : decode cX5_write 43 = .ok (.isub, 1) := by decide +kernel
theorem dX5_write_44 : decode cX5_write 44 = .ok (.invokestatic 68, 3) := by decide +kernel
theorem dX5_write_47 : decode cX5_write 47 = .ok (.ifCond .ne 9, 3) := by decide +kernel
theorem dX5_write_50 : decode cX5_write 50 = .ok (.aload_n 0, 1) := by decide +kernel
theorem dX5_write_51 : decode cX5_write 51 = .ok (.iconst 0, 1) := by decide +kernel
theorem dX5_write_52 : decode cX5_write 52 = .ok (.invokevirtual 55, 3) := by decide +kernel
theorem dX5_write_55 : decode cX5_write 55 = .ok (.ireturn, 1) := by decide +kernel
theorem dX5_write_56 : decode cX5_write 56 = .ok (.aload_n 0, 1) := by decide +kernel
theorem dX5_write_57 : decode cX5_write 57 = .ok (.getfield 39, 3) := by decide +kernel
theorem dX5_write_60 : decode cX5_write 60 = .ok (.iload_n 1, 1) := by decide +kernel
theorem dX5_write_61 : decode cX5_write 61 = .ok (.aaload, 1) := by decide +kernel
theorem dX5_write_62 : decode cX5_write 62 = .ok (.iload_n 2, 1) := by decide +kernel
theorem dX5_write_63 : decode cX5_write 63 = .ok (.iload_n 3, 1) := by decide +kernel
theorem dX5_write_64 : decode cX5_write 64 = .ok (.invokevirtual 229, 3) := by decide +kernel
theorem dX5_write_67 : decode cX5_write 67 = .ok (.iconst 1, 1) := by decide +kernel
theorem dX5_write_68 : decode cX5_write 68 = .ok (.ireturn, 1) := by decide +kernel
set_option maxRecDepth 20000 in
theorem ggX5_copy_X5_isSheet : GoodIn wsX5_copy wsX5_isSheet := goodIn_r _ [11, 12, 13, 10, 14] (by decide +kernel) (by decide +kernel)
set_option maxRecDepth 20000 in
theorem gX5_copy_X5_isSheet : GoodIn wsX5_copy (va_wsS RX5 218 yX5_isSheet wsX5_isSheet) := goodIn_app (goodIn_of _ (by decide +kernel)) ggX5_copy_X5_isSheet
set_option maxRecDepth 20000 in
theorem ggX5_copy_X5_finding : GoodIn wsX5_copy wsX5_finding := goodIn_r _ [18, 19, 20, 32, 33, 34, 35, 36, 37, 38] (by decide +kernel) (by decide +kernel)
set_option maxRecDepth 20000 in
theorem gX5_copy_X5_finding : GoodIn wsX5_copy (wsV RX5 55 RX5 yX5_finding wsX5_finding) := goodIn_app (goodIn_of _ (by decide +kernel)) ggX5_copy_X5_finding
set_option maxRecDepth 20000 in
theorem ggX5_copy_X3_isMissing : GoodIn wsX5_copy wsX3_isMissing := goodIn_r _ [25, 26, 39, 40, 41] (by decide +kernel) (by decide +kernel)
set_option maxRecDepth 20000 in
theorem gX5_copy_X3_isMissing : GoodIn wsX5_copy (wsV RX5 224 RX3 yX3_isMissing wsX3_isMissing) := goodIn_app (goodIn_of _ (by decide +kernel)) ggX5_copy_X3_isMissing
set_option maxRecDepth 20000 in
theorem ggX5_copy_X3_has : GoodIn wsX5_copy wsX3_has := goodIn_r _ [30, 31, 39, 40, 41] (by decide +kernel) (by decide +kernel)
set_option maxRecDepth 20000 in
theorem gX5_copy_X3_has : GoodIn wsX5_copy (wsV RX5 235 RX3 yX3_has wsX3_has) := goodIn_app (goodIn_of _ (by decide +kernel)) ggX5_copy_X3_has
theorem dX5_copy_0 : decode cX5_copy 0 = .ok (.iload_n 1, 1) := by decide +kernel
theorem dX5_copy_1 : decode cX5_copy 1 = .ok (.invokestatic 218, 3) := by decide +kernel
theorem dX5_copy_4 : decode cX5_copy 4 = .ok (.ifCond .eq 10, 3) := by decide +kernel
theorem dX5_copy_7 : decode cX5_copy 7 = .ok (.iload_n 3, 1) := by decide +kernel
theorem dX5_copy_8 : decode cX5_copy 8 = .ok (.invokestatic 218, 3) := by decide +kernel
theorem dX5_copy_11 : decode cX5_copy 11 = .ok (.ifCond .ne 9, 3) := by decide +kernel
theorem dX5_copy_14 : decode cX5_copy 14 = .ok (.aload_n 0, 1) := by decide +kernel
theorem dX5_copy_15 : decode cX5_copy 15 = .ok (.iconst 0, 1) := by decide +kernel
theorem dX5_copy_16 : decode cX5_copy 16 = .ok (.invokevirtual 55, 3) := by decide +kernel
theorem dX5_copy_19 : decode cX5_copy 19 = .ok (.ireturn, 1) := by decide +kernel
theorem dX5_copy_20 : decode cX5_copy 20 = .ok (.aload_n 0, 1) := by decide +kernel
theorem dX5_copy_21 : decode cX5_copy 21 = .ok (.getfield 39, 3) := by decide +kernel
theorem dX5_copy_24 : decode cX5_copy 24 = .ok (.iload_n 1, 1) := by decide +kernel
theorem dX5_copy_25 : decode cX5_copy 25 = .ok (.aaload, 1) := by decide +kernel
theorem dX5_copy_26 : decode cX5_copy 26 = .ok (.astore 6, 2) := by decide +kernel
theorem dX5_copy_28 : decode cX5_copy 28 = .ok (.aload_n 0, 1) := by decide +kernel
theorem dX5_copy_29 : decode cX5_copy 29 = .ok (.getfield 39, 3) := by decide +kernel
theorem dX5_copy_32 : decode cX5_copy 32 = .ok (.iload_n 3, 1) := by decide +kernel
theorem dX5_copy_33 : decode cX5_copy 33 = .ok (.aaload, 1) := by decide +kernel
theorem dX5_copy_34 : decode cX5_copy 34 = .ok (.astore 7, 2) := by decide +kernel
theorem dX5_copy_36 : decode cX5_copy 36 = .ok (.aload 6, 2) := by decide +kernel
theorem dX5_copy_38 : decode cX5_copy 38 = .ok (.invokevirtual 224, 3) := by decide +kernel
theorem dX5_copy_41 : decode cX5_copy 41 = .ok (.ifCond .ne 11, 3) := by decide +kernel
theorem dX5_copy_44 : decode cX5_copy 44 = .ok (.aload 7, 2) := by decide +kernel
theorem dX5_copy_46 : decode cX5_copy 46 = .ok (.invokevirtual 224, 3) := by decide +kernel
theorem dX5_copy_49 : decode cX5_copy 49 = .ok (.ifCond .eq 9, 3) := by decide +kernel
theorem dX5_copy_52 : decode cX5_copy 52 = .ok (.aload_n 0, 1) := by decide +kernel
theorem dX5_copy_53 : decode cX5_copy 53 = .ok (.iconst 5, 1) := by decide +kernel
theorem dX5_copy_54 : decode cX5_copy 54 = .ok (.invokevirtual 55, 3) := by decide +kernel
theorem dX5_copy_57 : decode cX5_copy 57 = .ok (.ireturn, 1) := by decide +kernel
theorem dX5_copy_58 : decode cX5_copy 58 = .ok (.aload 6, 2) := by decide +kernel
theorem dX5_copy_60 : decode cX5_copy 60 = .ok (.getfield 232, 3) := by decide +kernel
theorem dX5_copy_63 : decode cX5_copy 63 = .ok (.aload 7, 2) := by decide +kernel
theorem dX5_copy_65 : decode cX5_copy 65 = .ok (.getfield 232, 3) := by decide +kernel
theorem dX5_copy_68 : decode cX5_copy 68 = .ok (.if_icmp .eq 9, 3) := by decide +kernel
theorem dX5_copy_71 : decode cX5_copy 71 = .ok (.aload_n 0, 1) := by decide +kernel
theorem dX5_copy_72 : decode cX5_copy 72 = .ok (.iconst 2, 1) := by decide +kernel
theorem dX5_copy_73 : decode cX5_copy 73 = .ok (.invokevirtual 55, 3) := by decide +kernel
theorem dX5_copy_76 : decode cX5_copy 76 = .ok (.ireturn, 1) := by decide +kernel
theorem dX5_copy_77 : decode cX5_copy 77 = .ok (.aload 6, 2) := by decide +kernel
theorem dX5_copy_79 : decode cX5_copy 79 = .ok (.iload_n 2, 1) := by decide +kernel
theorem dX5_copy_80 : decode cX5_copy 80 = .ok (.iload 5, 2) := by decide +kernel
theorem dX5_copy_82 : decode cX5_copy 82 = .ok (.invokevirtual 235, 3) := by decide +kernel
theorem dX5_copy_85 : decode cX5_copy 85 = .ok (.ifCond .eq 15, 3) := by decide +kernel
theorem dX5_copy_88 : decode cX5_copy 88 = .ok (.aload 7, 2) := by decide +kernel
theorem dX5_copy_90 : decode cX5_copy 90 = .ok (.iload 4, 2) := by decide +kernel
theorem dX5_copy_92 : decode cX5_copy 92 = .ok (.iload 5, 2) := by decide +kernel
theorem dX5_copy_94 : decode cX5_copy 94 = .ok (.invokevirtual 235, 3) := by decide +kernel
theorem dX5_copy_97 : decode cX5_copy 97 = .ok (.ifCond .ne 9, 3) := by decide +kernel
theorem dX5_copy_100 : decode cX5_copy 100 = .ok (.aload_n 0, 1) := by decide +kernel
theorem dX5_copy_101 : decode cX5_copy 101 = .ok (.iconst 0, 1) := by decide +kernel
theorem dX5_copy_102 : decode cX5_copy 102 = .ok (.invokevirtual 55, 3) := by decide +kernel
theorem dX5_copy_105 : decode cX5_copy 105 = .ok (.ireturn, 1) := by decide +kernel
theorem dX5_copy_106 : decode cX5_copy 106 = .ok (.aload 6, 2) := by decide +kernel
theorem dX5_copy_108 : decode cX5_copy 108 = .ok (.getfield 238, 3) := by decide +kernel
theorem dX5_copy_111 : decode cX5_copy 111 = .ok (.iload_n 2, 1) := by decide +kernel
theorem dX5_copy_112 : decode cX5_copy 112 = .ok (.aload 7, 2) := by decide +kernel
theorem dX5_copy_114 : decode cX5_copy 114 = .ok (.getfield 238, 3) := by decide +kernel
theorem dX5_copy_117 : decode cX5_copy 117 = .ok (.iload 4, 2) := by decide +kernel
theorem dX5_copy_119 : decode cX5_copy 119 = .ok (.iload 5, 2) := by decide +kernel
theorem dX5_copy_121 : decode cX5_copy 121 = .ok (.invokestatic 241, 3) := by decide +kernel
theorem dX5_copy_124 : decode cX5_copy 124 = .ok (.iload 5, 2) := by decide +kernel
theorem dX5_copy_126 : decode cX5_copy 126 = .ok (.ireturn, 1) := by decide +kernel
set_option maxRecDepth 20000 in
theorem ggX5_load_X5_isSheet : GoodIn wsX5_load wsX5_isSheet := goodIn_r _ [10, 11, 12, 9, 13] (by decide +kernel) (by decide +kernel)
set_option maxRecDepth 20000 in
theorem gX5_load_X5_isSheet : GoodIn wsX5_load (va_wsS RX5 218 yX5_isSheet wsX5_isSheet) := goodIn_app (goodIn_of _ (by decide +kernel)) ggX5_load_X5_isSheet
set_option maxRecDepth 20000 in
theorem ggX5_load_X5_finding : GoodIn wsX5_load wsX5_finding := goodIn_r _ [17, 18, 19, 26, 27, 28, 29, 30, 31, 32] (by decide +kernel) (by decide +kernel)
set_option maxRecDepth 20000 in
theorem gX5_load_X5_finding : GoodIn wsX5_load (wsV RX5 55 RX5 yX5_finding wsX5_finding) := goodIn_app (goodIn_of _ (by decide +kernel)) ggX5_load_X5_finding
set_option maxRecDepth 20000 in
theorem ggX5_load_X3_isMissing : GoodIn wsX5_load wsX3_isMissing := goodIn_r _ [24, 25, 33, 34, 35] (by decide +kernel) (by decide +kernel)
set_option maxRecDepth 20000 in
theorem gX5_load_X3_isMissing : GoodIn wsX5_load (wsV RX5 224 RX3 yX3_isMissing wsX3_isMissing) := goodIn_app (goodIn_of _ (by decide +kernel)) ggX5_load_X3_isMissing
set_option maxRecDepth 20000 in
theorem ggX5_load_X5_isIn : GoodIn wsX5_load wsX5_isIn := goodIn_r _ [13] (by decide +kernel) (by decide +kernel)
set_option maxRecDepth 20000 in
theorem gX5_load_X5_isIn : GoodIn wsX5_load (va_wsS RX5 68 yX5_isIn wsX5_isIn) := goodIn_app (goodIn_of _ (by decide +kernel)) ggX5_load_X5_isIn
theorem dX5_load_0 : decode cX5_load 0 = .ok (.iload_n 1, 1) := by decide +kernel
theorem dX5_load_1 : decode cX5_load 1 = .ok (.invokestatic 218, 3) := by decide +kernel
theorem dX5_load_4 : decode cX5_load 4 = .ok (.ifCond .ne 9, 3) := by decide +kernel
theorem dX5_load_7 : decode cX5_load 7 = .ok (.aload_n 0, 1) := by decide +kernel
theorem dX5_load_8 : decode cX5_load 8 = .ok (.iconst 0, 1) := by decide +kernel
theorem dX5_load_9 : decode cX5_load 9 = .ok (.invokevirtual 55, 3) := by decide +kernel
theorem dX5_load_12 : decode cX5_load 12 = .ok (.ireturn, 1) := by decide +kernel
theorem dX5_load_13 : decode cX5_load 13 = .ok (.aload_n 0, 1) := by decide +kernel
theorem dX5_load_14 : decode cX5_load 14 = .ok (.getfield 39, 3) := by decide +kernel
theorem dX5_load_17 : decode cX5_load 17 = .ok (.iload_n 1, 1) := by decide +kernel
theorem dX5_load_18 : decode cX5_load 18 = .ok (.aaload, 1) := by decide +kernel
theorem dX5_load_19 : decode cX5_load 19 = .ok (.astore_n 2, 1) := by decide +kernel
theorem dX5_load_20 : decode cX5_load 20 = .ok (.aload_n 2, 1) := by decide +kernel
theorem dX5_load_21 : decode cX5_load 21 = .ok (.invokevirtual 224, 3) := by decide +kernel
theorem dX5_load_24 : decode cX5_load 24 = .ok (.ifCond .eq 9, 3) := by decide +kernel
theorem dX5_load_27 : decode cX5_load 27 = .ok (.aload_n 0, 1) := by decide +kernel
theorem dX5_load_28 : decode cX5_load 28 = .ok (.iconst 5, 1) := by decide +kernel
theorem dX5_load_29 : decode cX5_load 29 = .ok (.invokevirtual 55, 3) := by decide +kernel
theorem dX5_load_32 : decode cX5_load 32 = .ok (.ireturn, 1) := by decide +kernel
theorem dX5_load_33 : decode cX5_load 33 = .ok (.iconst 0, 1) := by decide +kernel
theorem dX5_load_34 : decode cX5_load 34 = .ok (.istore_n 3, 1) := by decide +kernel
theorem dX5_load_35 : decode cX5_load 35 = .ok (.iload_n 3, 1) := by decide +kernel
theorem dX5_load_36 : decode cX5_load 36 = .ok (.iconst 5, 1) := by decide +kernel
theorem dX5_load_37 : decode cX5_load 37 = .ok (.if_icmp .ge 52, 3) := by decide +kernel
theorem dX5_load_40 : decode cX5_load 40 = .ok (.iload_n 3, 1) := by decide +kernel
theorem dX5_load_41 : decode cX5_load 41 = .ok (.aload_n 2, 1) := by decide +kernel
theorem dX5_load_42 : decode cX5_load 42 = .ok (.getfield 228, 3) := by decide +kernel
theorem dX5_load_45 : decode cX5_load 45 = .ok (.if_icmp .ge 44, 3) := by decide +kernel
theorem dX5_load_48 : decode cX5_load 48 = .ok (.aload_n 2, 1) := by decide +kernel
theorem dX5_load_49 : decode cX5_load 49 = .ok (.getfield 238, 3) := by decide +kernel
theorem dX5_load_52 : decode cX5_load 52 = .ok (.iload_n 3, 1) := by decide +kernel
theorem dX5_load_53 : decode cX5_load 53 = .ok (.iaload, 1) := by decide +kernel
theorem dX5_load_54 : decode cX5_load 54 = .ok (.iconst 0, 1) := by decide +kernel
theorem dX5_load_55 : decode cX5_load 55 = .ok (.bipush 20, 2) := by decide +kernel
theorem dX5_load_57 : decode cX5_load 57 = .ok (.invokestatic 68, 3) := by decide +kernel
theorem dX5_load_60 : decode cX5_load 60 = .ok (.ifCond .eq 29, 3) := by decide +kernel
theorem dX5_load_63 : decode cX5_load 63 = .ok (.aload_n 0, 1) := by decide +kernel
theorem dX5_load_64 : decode cX5_load 64 = .ok (.getfield 10, 3) := by decide +kernel
theorem dX5_load_67 : decode cX5_load 67 = .ok (.getfield 59, 3) := by decide +kernel
theorem dX5_load_70 : decode cX5_load 70 = .ok (.getfield 247, 3) := by decide +kernel
theorem dX5_load_73 : decode cX5_load 73 = .ok (.iconst 5, 1) := by decide +kernel
theorem dX5_load_74 : decode cX5_load 74 = .ok (.iload_n 3, 1) := by decide +kernel
theorem dX5_load_75 : decode cX5_load 75 = .ok (.iadd, 1) := by decide +kernel
theorem dX5_load_76 : decode cX5_load 76 = .ok (.aload_n 2, 1) := by decide +kernel
theorem dX5_load_77 : decode cX5_load 77 = .ok (.getfield 238, 3) := by decide +kernel
theorem dX5_load_80 : decode cX5_load 80 = .ok (.iload_n 3, 1) := by decide +kernel
theorem dX5_load_81 : decode cX5_load 81 = .ok (.iaload, 1) := by decide +kernel
theorem dX5_load_82 : decode cX5_load 82 = .ok (.iastore, 1) := by decide +kernel
theorem dX5_load_83 : decode cX5_load 83 = .ok (.iinc 3 1, 3) := by decide +kernel
theorem dX5_load_86 : decode cX5_load 86 = .ok (.goto (-51), 3) := by decide +kernel
theorem dX5_load_89 : decode cX5_load 89 = .ok (.iload_n 3, 1) := by decide +kernel
theorem dX5_load_90 : decode cX5_load 90 = .ok (.ireturn, 1) := by decide +kernel
set_option maxRecDepth 20000 in
theorem ggX5_judge_X5_isSheet : GoodIn wsX5_judge wsX5_isSheet := goodIn_r _ [10, 11, 12, 9, 13] (by decide +kernel) (by decide +kernel)
set_option maxRecDepth 20000 in
theorem gX5_judge_X5_isSheet : GoodIn wsX5_judge (va_wsS RX5 218 yX5_isSheet wsX5_isSheet) := goodIn_app (goodIn_of _ (by decide +kernel)) ggX5_judge_X5_isSheet
set_option maxRecDepth 20000 in
theorem ggX5_judge_X5_finding : GoodIn wsX5_judge wsX5_finding := goodIn_r _ [17, 18, 19, 114, 115, 116, 117, 118, 119, 120] (by decide +kernel) (by decide +kernel)
set_option maxRecDepth 20000 in
theorem gX5_judge_X5_finding : GoodIn wsX5_judge (wsV RX5 55 RX5 yX5_finding wsX5_finding) := goodIn_app (goodIn_of _ (by decide +kernel)) ggX5_judge_X5_finding
set_option maxRecDepth 20000 in
theorem ggX5_judge_X3_isMissing : GoodIn wsX5_judge wsX3_isMissing := goodIn_r _ [24, 25, 121, 122, 123] (by decide +kernel) (by decide +kernel)
set_option maxRecDepth 20000 in
theorem gX5_judge_X3_isMissing : GoodIn wsX5_judge (wsV RX5 224 RX3 yX3_isMissing wsX3_isMissing) := goodIn_app (goodIn_of _ (by decide +kernel)) ggX5_judge_X3_isMissing
set_option maxRecDepth 20000 in
theorem ggX5_judge_X5_isTooLate : GoodIn wsX5_judge wsX5_isTooLate := goodIn_r _ [29, 4, 5, 30, 114, 115, 116, 117, 118, 119, 120, 124, 125, 126, 127, 128, 129, 130, 131, 132, 133, 134, 135, 136, 137] (by decide +kernel) (by decide +kernel)
set_option maxRecDepth 20000 in
theorem gX5_judge_X5_isTooLate : GoodIn wsX5_judge (wsV RX5 136 RX5 yX5_isTooLate wsX5_isTooLate) := goodIn_app (goodIn_of _ (by decide +kernel)) ggX5_judge_X5_isTooLate
set_option maxRecDepth 20000 in
theorem ggX5_judge_X1_copyFrom : GoodIn wsX5_judge wsX1_copyFrom := goodIn_r _ [35, 36, 37, 38, 39, 40, 41, 42, 43, 44, 45, 46, 47, 48, 49, 128, 129, 130, 131, 132, 133, 134, 135, 136, 137] (by decide +kernel) (by decide +kernel)
set_option maxRecDepth 20000 in
theorem gX5_judge_X1_copyFrom : GoodIn wsX5_judge (wsV RX5 161 RX1 yX1_copyFrom wsX1_copyFrom) := goodIn_app (goodIn_of _ (by decide +kernel)) ggX5_judge_X1_copyFrom
set_option maxRecDepth 20000 in
theorem ggX5_judge_X1_turn : GoodIn wsX5_judge wsX1_turn := goodIn_r _ [53, 47, 128, 129, 130, 131, 132, 133, 134, 135, 136, 137] (by decide +kernel) (by decide +kernel)
set_option maxRecDepth 20000 in
theorem gX5_judge_X1_turn : GoodIn wsX5_judge (wsV RX5 250 RX1 yX1_turn wsX1_turn) := goodIn_app (goodIn_of _ (by decide +kernel)) ggX5_judge_X1_turn
set_option maxRecDepth 20000 in
theorem ggX5_judge_X1_deedOf : GoodIn wsX5_judge wsX1_deedOf := goodIn_r _ [57, 45, 58, 59, 60, 34, 61, 42, 62, 63, 64, 65, 44, 66, 67, 68, 69, 70, 71, 72, 73, 43, 36, 46, 128, 129, 130, 131, 132, 133, 134, 135, 136, 137] (by decide +kernel) (by decide +kernel)
set_option maxRecDepth 20000 in
theorem gX5_judge_X1_deedOf : GoodIn wsX5_judge (wsV RX5 115 RX1 yX1_deedOf wsX1_deedOf) := goodIn_app (goodIn_of _ (by decide +kernel)) ggX5_judge_X1_deedOf
set_option maxRecDepth 20000 in
theorem ggX5_judge_X1_carryOut : GoodIn wsX5_judge wsX1_carryOut := goodIn_r _ [77, 47, 78, 79, 80, 34, 81, 48, 82, 83, 84, 85, 42, 86, 87, 88, 89, 41, 90, 91, 92, 93, 94, 95, 96, 97, 45, 98, 99, 100, 101, 102, 103, 104, 105, 70, 71, 72, 73, 43, 36, 46, 106, 107, 108, 109, 49, 110, 111, 112, 113, 128, 129, 130, 131, 132, 133, 134, 135, 136, 137] (by decide +kernel) (by decide +kernel)
set_option maxRecDepth 20000 in
theorem gX5_judge_X1_carryOut : GoodIn wsX5_judge (wsV RX5 253 RX1 yX1_carryOut wsX1_carryOut) := goodIn_app (goodIn_of _ (by decide +kernel)) ggX5_judge_X1_carryOut
theorem dX5_judge_0 : decode cX5_judge 0 = .ok (.iload_n 1, 1) := by decide +kernel
theorem dX5_judge_1 : decode cX5_judge 1 = .ok (.invokestatic 218, 3) := by decide +kernel
theorem dX5_judge_4 : decode cX5_judge 4 = .ok (.ifCond .ne 9, 3) := by decide +kernel
theorem dX5_judge_7 : decode cX5_judge 7 = .ok (.aload_n 0, 1) := by decide +kernel
theorem dX5_judge_8 : decode cX5_judge 8 = .ok (.iconst 0, 1) := by decide +kernel
theorem dX5_judge_9 : decode cX5_judge 9 = .ok (.invokevirtual 55, 3) := by decide +kernel
theorem dX5_judge_12 : decode cX5_judge 12 = .ok (.ireturn, 1) := by decide +kernel
theorem dX5_judge_13 : decode cX5_judge 13 = .ok (.aload_n 0, 1) := by decide +kernel
theorem dX5_judge_14 : decode cX5_judge 14 = .ok (.getfield 39, 3) := by decide +kernel
theorem dX5_judge_17 : decode cX5_judge 17 = .ok (.iload_n 1, 1) := by decide +kernel
theorem dX5_judge_18 : decode cX5_judge 18 = .ok (.aaload, 1) := by decide +kernel
theorem dX5_judge_19 : decode cX5_judge 19 = .ok (.astore_n 2, 1) := by decide +kernel
theorem dX5_judge_20 : decode cX5_judge 20 = .ok (.aload_n 2, 1) := by decide +kernel
theorem dX5_judge_21 : decode cX5_judge 21 = .ok (.invokevirtual 224, 3) := by decide +kernel
theorem dX5_judge_24 : decode cX5_judge 24 = .ok (.ifCond .eq 9, 3) := by decide +kernel
theorem dX5_judge_27 : decode cX5_judge 27 = .ok (.aload_n 0, 1) := by decide +kernel
theorem dX5_judge_28 : decode cX5_judge 28 = .ok (.iconst 5, 1) := by decide +kernel
theorem dX5_judge_29 : decode cX5_judge 29 = .ok (.invokevirtual 55, 3) := by decide +kernel
theorem dX5_judge_32 : decode cX5_judge 32 = .ok (.ireturn, 1) := by decide +kernel
theorem dX5_judge_33 : decode cX5_judge 33 = .ok (.aload_n 0, 1) := by decide +kernel
theorem dX5_judge_34 : decode cX5_judge 34 = .ok (.aload_n 2, 1) := by decide +kernel
theorem dX5_judge_35 : decode cX5_judge 35 = .ok (.getfield 228, 3) := by decide +kernel
theorem dX5_judge_38 : decode cX5_judge 38 = .ok (.invokevirtual 136, 3) := by decide +kernel
theorem dX5_judge_41 : decode cX5_judge 41 = .ok (.ifCond .eq 9, 3) := by decide +kernel
theorem dX5_judge_44 : decode cX5_judge 44 = .ok (.aload_n 0, 1) := by decide +kernel
theorem dX5_judge_45 : decode cX5_judge 45 = .ok (.iconst 4, 1) := by decide +kernel
theorem dX5_judge_46 : decode cX5_judge 46 = .ok (.invokevirtual 55, 3) := by decide +kernel
theorem dX5_judge_49 : decode cX5_judge 49 = .ok (.ireturn, 1) := by decide +kernel
theorem dX5_judge_50 : decode cX5_judge 50 = .ok (.aload_n 0, 1) := by decide +kernel
theorem dX5_judge_51 : decode cX5_judge 51 = .ok (.getfield 26, 3) := by decide +kernel
theorem dX5_judge_54 : decode cX5_judge 54 = .ok (.aload_n 0, 1) := by decide +kernel
theorem dX5_judge_55 : decode cX5_judge 55 = .ok (.getfield 10, 3) := by decide +kernel
theorem dX5_judge_58 : decode cX5_judge 58 = .ok (.getfield 59, 3) := by decide +kernel
theorem dX5_judge_61 : decode cX5_judge 61 = .ok (.invokevirtual 161, 3) := by decide +kernel
theorem dX5_judge_64 : decode cX5_judge 64 = .ok (.iconst 0, 1) := by decide +kernel
theorem dX5_judge_65 : decode cX5_judge 65 = .ok (.istore_n 3, 1) := by decide +kernel
theorem dX5_judge_66 : decode cX5_judge 66 = .ok (.iload_n 3, 1) := by decide +kernel
theorem dX5_judge_67 : decode cX5_judge 67 = .ok (.aload_n 2, 1) := by decide +kernel
theorem dX5_judge_68 : decode cX5_judge 68 = .ok (.getfield 228, 3) := by decide +kernel
theorem dX5_judge_71 : decode cX5_judge 71 = .ok (.if_icmp .ge 55, 3) := by decide +kernel
theorem dX5_judge_74 : decode cX5_judge 74 = .ok (.aload_n 0, 1) := by decide +kernel
theorem dX5_judge_75 : decode cX5_judge 75 = .ok (.getfield 26, 3) := by decide +kernel
theorem dX5_judge_78 : decode cX5_judge 78 = .ok (.invokevirtual 250, 3) := by decide +kernel
theorem dX5_judge_81 : decode cX5_judge 81 = .ok (.istore 4, 2) := by decide +kernel
theorem dX5_judge_83 : decode cX5_judge 83 = .ok (.aload_n 0, 1) := by decide +kernel
theorem dX5_judge_84 : decode cX5_judge 84 = .ok (.getfield 26, 3) := by decide +kernel
theorem dX5_judge_87 : decode cX5_judge 87 = .ok (.iload 4, 2) := by decide +kernel
theorem dX5_judge_89 : decode cX5_judge 89 = .ok (.invokevirtual 115, 3) := by decide +kernel
theorem dX5_judge_92 : decode cX5_judge 92 = .ok (.istore 5, 2) := by decide +kernel
theorem dX5_judge_94 : decode cX5_judge 94 = .ok (.aload_n 2, 1) := by decide +kernel
theorem dX5_judge_95 : decode cX5_judge 95 = .ok (.getfield 238, 3) := by decide +kernel
theorem dX5_judge_98 : decode cX5_judge 98 = .ok (.iload_n 3, 1) := by decide +kernel
theorem dX5_judge_99 : decode cX5_judge 99 = .ok (.iaload, 1) := by decide +kernel
theorem dX5_judge_100 : decode cX5_judge 100 = .ok (.iload 5, 2) := by decide +kernel
theorem dX5_judge_102 : decode cX5_judge 102 = .ok (.if_icmp .eq 7, 3) := by decide +kernel
theorem dX5_judge_105 : decode cX5_judge 105 = .ok (.iconst 1, 1) := by decide +kernel
theorem dX5_judge_106 : decode cX5_judge 106 = .ok (.iload_n 3, 1) := by decide +kernel
theorem dX5_judge_107 : decode cX5_judge 107 = .ok (.iadd, 1) := by decide +kernel
theorem dX5_judge_108 : decode cX5_judge 108 = .ok (.ireturn, 1) := by decide +kernel
theorem dX5_judge_109 : decode cX5_judge 109 = .ok (.aload_n 0, 1) := by decide +kernel
theorem dX5_judge_110 : decode cX5_judge 110 = .ok (.getfield 26, 3) := by decide +kernel
theorem dX5_judge_113 : decode cX5_judge 113 = .ok (.iload 4, 2) := by decide +kernel
theorem dX5_judge_115 : decode cX5_judge 115 = .ok (.iload 5, 2) := by decide +kernel
theorem dX5_judge_117 : decode cX5_judge 117 = .ok (.invokevirtual 253, 3) := by decide +kernel
theorem dX5_judge_120 : decode cX5_judge 120 = .ok (.iinc 3 1, 3) := by decide +kernel
theorem dX5_judge_123 : decode cX5_judge 123 = .ok (.goto (-57), 3) := by decide +kernel
theorem dX5_judge_126 : decode cX5_judge 126 = .ok (.iconst 0, 1) := by decide +kernel
theorem dX5_judge_127 : decode cX5_judge 127 = .ok (.ireturn, 1) := by decide +kernel
set_option maxRecDepth 20000 in
theorem ggX5_image_X4_copyFrom : GoodIn wsX5_image wsX4_copyFrom := goodIn_r _ [8, 9, 10, 11, 12, 13, 14, 15, 16, 17, 18, 19, 20, 21, 22, 23, 24, 25, 26, 27, 28, 29, 30, 31, 32, 33, 34, 35, 36, 37, 38, 39, 40, 41, 49, 50, 51, 52, 53, 54, 55, 56, 57, 58, 59, 60, 61, 62, 63, 64, 65] (by decide +kernel) (by decide +kernel)
set_option maxRecDepth 20000 in
theorem gX5_image_X4_copyFrom : GoodIn wsX5_image (wsV RX5 256 RX4 yX4_copyFrom wsX4_copyFrom) := goodIn_app (goodIn_of _ (by decide +kernel)) ggX5_image_X4_copyFrom
theorem dX5_image_0 : decode cX5_image 0 = .ok (.aload_n 0, 1) := by decide +kernel
theorem dX5_image_1 : decode cX5_image 1 = .ok (.getfield 16, 3) := by decide +kernel
theorem dX5_image_4 : decode cX5_image 4 = .ok (.aload_n 0, 1) := by decide +kernel
theorem dX5_image_5 : decode cX5_image 5 = .ok (.getfield 10, 3) := by decide +kernel
theorem dX5_image_8 : decode cX5_image 8 = .ok (.invokevirtual 256, 3) := by decide +kernel
theorem dX5_image_11 : decode cX5_image 11 = .ok (.aload_n 0, 1) := by decide +kernel
theorem dX5_image_12 : decode cX5_image 12 = .ok (.iconst 1, 1) := by decide +kernel
theorem dX5_image_13 : decode cX5_image 13 = .ok (.putfield 19, 3) := by decide +kernel
theorem dX5_image_16 : decode cX5_image 16 = .ok (.iconst 1, 1) := by decide +kernel
theorem dX5_image_17 : decode cX5_image 17 = .ok (.ireturn, 1) := by decide +kernel
set_option maxRecDepth 20000 in
theorem ggX5_undo_X5_finding : GoodIn wsX5_undo wsX5_finding := goodIn_r _ [10, 11, 12, 51, 52, 53, 54, 55, 56, 57] (by decide +kernel) (by decide +kernel)
set_option maxRecDepth 20000 in
theorem gX5_undo_X5_finding : GoodIn wsX5_undo (wsV RX5 55 RX5 yX5_finding wsX5_finding) := goodIn_app (goodIn_of _ (by decide +kernel)) ggX5_undo_X5_finding
set_option maxRecDepth 20000 in
theorem ggX5_undo_X4_copyFrom : GoodIn wsX5_undo wsX4_copyFrom := goodIn_r _ [17, 18, 19, 20, 21, 22, 23, 24, 25, 26, 27, 28, 29, 30, 31, 32, 33, 34, 35, 36, 37, 38, 39, 40, 41, 42, 43, 44, 45, 46, 47, 48, 49, 50, 58, 59, 60, 61, 62, 63, 64, 65, 66, 67, 68, 69, 70, 71, 72, 73, 74] (by decide +kernel) (by decide +kernel)
set_option maxRecDepth 20000 in
theorem gX5_undo_X4_copyFrom : GoodIn wsX5_undo (wsV RX5 256 RX4 yX4_copyFrom wsX4_copyFrom) := goodIn_app (goodIn_of _ (by decide +kernel)) ggX5_undo_X4_copyFrom
theorem dX5_undo_0 : decode cX5_undo 0 = .ok (.aload_n 0, 1) := by decide +kernel
theorem dX5_undo_1 : decode cX5_undo 1 = .ok (.getfield 19, 3) := by decide +kernel
theorem dX5_undo_4 : decode cX5_undo 4 = .ok (.ifCond .ne 9, 3) := by decide +kernel
theorem dX5_undo_7 : decode cX5_undo 7 = .ok (.aload_n 0, 1) := by decide +kernel
theorem dX5_undo_8 : decode cX5_undo 8 = .ok (.iconst 3, 1) := by decide +kernel
theorem dX5_undo_9 : decode cX5_undo 9 = .ok (.invokevirtual 55, 3) := by decide +kernel
theorem dX5_undo_12 : decode cX5_undo 12 = .ok (.ireturn, 1) := by decide +kernel
theorem dX5_undo_13 : decode cX5_undo 13 = .ok (.aload_n 0, 1) := by decide +kernel
theorem dX5_undo_14 : decode cX5_undo 14 = .ok (.getfield 10, 3) := by decide +kernel
theorem dX5_undo_17 : decode cX5_undo 17 = .ok (.aload_n 0, 1) := by decide +kernel
theorem dX5_undo_18 : decode cX5_undo 18 = .ok (.getfield 16, 3) := by decide +kernel
theorem dX5_undo_21 : decode cX5_undo 21 = .ok (.invokevirtual 256, 3) := by decide +kernel
theorem dX5_undo_24 : decode cX5_undo 24 = .ok (.aload_n 0, 1) := by decide +kernel
theorem dX5_undo_25 : decode cX5_undo 25 = .ok (.getfield 10, 3) := by decide +kernel
theorem dX5_undo_28 : decode cX5_undo 28 = .ok (.getfield 59, 3) := by decide +kernel
theorem dX5_undo_31 : decode cX5_undo 31 = .ok (.getfield 142, 3) := by decide +kernel
theorem dX5_undo_34 : decode cX5_undo 34 = .ok (.ireturn, 1) := by decide +kernel
theorem dX5_tear_0 : decode cX5_tear 0 = .ok (.aload_n 0, 1) := by decide +kernel
theorem dX5_tear_1 : decode cX5_tear 1 = .ok (.getfield 19, 3) := by decide +kernel
theorem dX5_tear_4 : decode cX5_tear 4 = .ok (.ifCond .eq 7, 3) := by decide +kernel
theorem dX5_tear_7 : decode cX5_tear 7 = .ok (.iconst 1, 1) := by decide +kernel
theorem dX5_tear_8 : decode cX5_tear 8 = .ok (.goto 4, 3) := by decide +kernel
theorem dX5_tear_11 : decode cX5_tear 11 = .ok (.iconst 0, 1) := by decide +kernel
theorem dX5_tear_12 : decode cX5_tear 12 = .ok (.istore_n 1, 1) := by decide +kernel
theorem dX5_tear_13 : decode cX5_tear 13 = .ok (.aload_n 0, 1) := by decide +kernel
theorem dX5_tear_14 : decode cX5_tear 14 = .ok (.iconst 0, 1) := by decide +kernel
theorem dX5_tear_15 : decode cX5_tear 15 = .ok (.putfield 19, 3) := by decide +kernel
theorem dX5_tear_18 : decode cX5_tear 18 = .ok (.iload_n 1, 1) := by decide +kernel
theorem dX5_tear_19 : decode cX5_tear 19 = .ok (.ireturn, 1) := by decide +kernel
set_option maxRecDepth 20000 in
theorem ggX5_count_X1_heapCount : GoodIn wsX5_count wsX1_heapCount := goodIn_r _ [14, 15, 40, 41, 42, 43, 44, 45, 46, 47, 48, 49] (by decide +kernel) (by decide +kernel)
set_option maxRecDepth 20000 in
theorem gX5_count_X1_heapCount : GoodIn wsX5_count (wsV RX5 121 RX1 yX1_heapCount wsX1_heapCount) := goodIn_app (goodIn_of _ (by decide +kernel)) ggX5_count_X1_heapCount
set_option maxRecDepth 20000 in
theorem ggX5_count_X4_spotsInUse : GoodIn wsX5_count wsX4_spotsInUse := goodIn_r _ [20, 21, 36, 37, 38, 39] (by decide +kernel) (by decide +kernel)
set_option maxRecDepth 20000 in
theorem gX5_count_X4_spotsInUse : GoodIn wsX5_count (wsV RX5 259 RX4 yX4_spotsInUse wsX4_spotsInUse) := goodIn_app (goodIn_of _ (by decide +kernel)) ggX5_count_X4_spotsInUse
set_option maxRecDepth 20000 in
theorem ggX5_count_X5_finding : GoodIn wsX5_count wsX5_finding := goodIn_r _ [26, 27, 28, 29, 30, 31, 32, 33, 34, 35] (by decide +kernel) (by decide +kernel)
set_option maxRecDepth 20000 in
theorem gX5_count_X5_finding : GoodIn wsX5_count (wsV RX5 55 RX5 yX5_finding wsX5_finding) := goodIn_app (goodIn_of _ (by decide +kernel)) ggX5_count_X5_finding
theorem dX5_count_0 : decode cX5_count 0 = .ok (.aload_n 0, 1) := by decide +kernel
theorem dX5_count_1 : decode cX5_count 1 = .ok (.getfield 10, 3) := by decide +kernel
theorem dX5_count_4 : decode cX5_count 4 = .ok (.getfield 59, 3) := by decide +kernel
theorem dX5_count_7 : decode cX5_count 7 = .ok (.astore_n 2, 1) := by decide +kernel
theorem dX5_count_8 : decode cX5_count 8 = .ok (.iload_n 1, 1) := by decide +kernel
theorem dX5_count_9 : decode cX5_count 9 = .ok (.tableswitch 112 0 7 #[47, 52, 57, 69, 83, 88, 96, 104], 47) := by decide +kernel
theorem dX5_count_56 : decode cX5_count 56 = .ok (.aload_n 2, 1) := by decide +kernel
theorem dX5_count_57 : decode cX5_count 57 = .ok (.getfield 142, 3) := by decide +kernel
theorem dX5_count_60 : decode cX5_count 60 = .ok (.ireturn, 1) := by decide +kernel
theorem dX5_count_61 : decode cX5_count 61 = .ok (.aload_n 2, 1) := by decide +kernel
theorem dX5_count_62 : decode cX5_count 62 = .ok (.getfield 158, 3) := by decide +kernel
theorem dX5_count_65 : decode cX5_count 65 = .ok (.ireturn, 1) := by decide +kernel
theorem dX5_count_66 : decode cX5_count 66 = .ok (.aload_n 2, 1) := by decide +kernel
theorem dX5_count_67 : decode cX5_count 67 = .ok (.iconst 0, 1) := by decide +kernel
theorem dX5_count_68 : decode cX5_count 68 = .ok (.invokevirtual 121, 3) := by decide +kernel
theorem dX5_count_71 : decode cX5_count 71 = .ok (.aload_n 2, 1) := by decide +kernel
theorem dX5_count_72 : decode cX5_count 72 = .ok (.iconst 1, 1) := by decide +kernel
theorem dX5_count_73 : decode cX5_count 73 = .ok (.invokevirtual 121, 3) := by decide +kernel
theorem dX5_count_76 : decode cX5_count 76 = .ok (.iadd, 1) := by decide +kernel
theorem dX5_count_77 : decode cX5_count 77 = .ok (.ireturn, 1) := by decide +kernel
theorem dX5_count_78 : decode cX5_count 78 = .ok (.aload_n 2, 1) := by decide +kernel
theorem dX5_count_79 : decode cX5_count 79 = .ok (.getfield 82, 3) := by decide +kernel
theorem dX5_count_82 : decode cX5_count 82 = .ok (.iconst 0, 1) := by decide +kernel
theorem dX5_count_83 : decode cX5_count 83 = .ok (.iaload, 1) := by decide +kernel
theorem dX5_count_84 : decode cX5_count 84 = .ok (.aload_n 2, 1) := by decide +kernel
theorem dX5_count_85 : decode cX5_count 85 = .ok (.getfield 82, 3) := by decide +kernel
theorem dX5_count_88 : decode cX5_count 88 = .ok (.iconst 1, 1) := by decide +kernel
theorem dX5_count_89 : decode cX5_count 89 = .ok (.iaload, 1) := by decide +kernel
theorem dX5_count_90 : decode cX5_count 90 = .ok (.iadd, 1) := by decide +kernel
theorem dX5_count_91 : decode cX5_count 91 = .ok (.ireturn, 1) := by decide +kernel
theorem dX5_count_92 : decode cX5_count 92 = .ok (.aload_n 2, 1) := by decide +kernel
theorem dX5_count_93 : decode cX5_count 93 = .ok (.getfield 168, 3) := by decide +kernel
theorem dX5_count_96 : decode cX5_count 96 = .ok (.ireturn, 1) := by decide +kernel
theorem dX5_count_97 : decode cX5_count 97 = .ok (.aload_n 0, 1) := by decide +kernel
theorem dX5_count_98 : decode cX5_count 98 = .ok (.getfield 33, 3) := by decide +kernel
theorem dX5_count_101 : decode cX5_count 101 = .ok (.getfield 204, 3) := by decide +kernel
theorem dX5_count_104 : decode cX5_count 104 = .ok (.ireturn, 1) := by decide +kernel
theorem dX5_count_105 : decode cX5_count 105 = .ok (.aload_n 0, 1) := by decide +kernel
theorem dX5_count_106 : decode cX5_count 106 = .ok (.getfield 10, 3) := by decide +kernel
theorem dX5_count_109 : decode cX5_count 109 = .ok (.getfield 201, 3) := by decide +kernel
theorem dX5_count_112 : decode cX5_count 112 = .ok (.ireturn, 1) := by decide +kernel
theorem dX5_count_113 : decode cX5_count 113 = .ok (.aload_n 0, 1) := by decide +kernel
theorem dX5_count_114 : decode cX5_count 114 = .ok (.getfield 10, 3) := by decide +kernel
theorem dX5_count_117 : decode cX5_count 117 = .ok (.invokevirtual 259, 3) := by decide +kernel
theorem dX5_count_120 : decode cX5_count 120 = .ok (.ireturn, 1) := by decide +kernel
theorem dX5_count_121 : decode cX5_count 121 = .ok (.aload_n 0, 1) := by decide +kernel
theorem dX5_count_122 : decode cX5_count 122 = .ok (.iconst 0, 1) := by decide +kernel
theorem dX5_count_123 : decode cX5_count 123 = .ok (.invokevirtual 55, 3) := by decide +kernel
theorem dX5_count_126 : decode cX5_count 126 = .ok (.ireturn, 1) := by decide +kernel
set_option maxRecDepth 20000 in
theorem ggX5_status_X5_isIn : GoodIn wsX5_status wsX5_isIn := goodIn_r _ [5] (by decide +kernel) (by decide +kernel)
set_option maxRecDepth 20000 in
theorem gX5_status_X5_isIn : GoodIn wsX5_status (va_wsS RX5 68 yX5_isIn wsX5_isIn) := goodIn_app (goodIn_of _ (by decide +kernel)) ggX5_status_X5_isIn
set_option maxRecDepth 20000 in
theorem ggX5_status_X5_finding : GoodIn wsX5_status wsX5_finding := goodIn_r _ [9, 1, 10, 11, 12, 13, 14, 15, 16, 17] (by decide +kernel) (by decide +kernel)
set_option maxRecDepth 20000 in
theorem gX5_status_X5_finding : GoodIn wsX5_status (wsV RX5 55 RX5 yX5_finding wsX5_finding) := goodIn_app (goodIn_of _ (by decide +kernel)) ggX5_status_X5_finding
theorem dX5_status_0 : decode cX5_status 0 = .ok (.iload_n 1, 1) := by decide +kernel
theorem dX5_status_1 : decode cX5_status 1 = .ok (.iconst (-1), 1) := by decide +kernel
theorem dX5_status_2 : decode cX5_status 2 = .ok (.bipush 6, 2) := by decide +kernel
theorem dX5_status_4 : decode cX5_status 4 = .ok (.invokestatic 68, 3) := by decide +kernel
theorem dX5_status_7 : decode cX5_status 7 = .ok (.ifCond .ne 9, 3) := by decide +kernel
theorem dX5_status_10 : decode cX5_status 10 = .ok (.aload_n 0, 1) := by decide +kernel
theorem dX5_status_11 : decode cX5_status 11 = .ok (.iconst 0, 1) := by decide +kernel
theorem dX5_status_12 : decode cX5_status 12 = .ok (.invokevirtual 55, 3) := by decide +kernel
theorem dX5_status_15 : decode cX5_status 15 = .ok (.ireturn, 1) := by decide +kernel
theorem dX5_status_16 : decode cX5_status 16 = .ok (.iload_n 1, 1) := by decide +kernel
theorem dX5_status_17 : decode cX5_status 17 = .ok (.ifCond .lt 10, 3) := by decide +kernel
theorem dX5_status_20 : decode cX5_status 20 = .ok (.aload_n 0, 1) := by decide +kernel
theorem dX5_status_21 : decode cX5_status 21 = .ok (.getfield 43, 3) := by decide +kernel
theorem dX5_status_24 : decode cX5_status 24 = .ok (.iload_n 1, 1) := by decide +kernel
theorem dX5_status_25 : decode cX5_status 25 = .ok (.iaload, 1) := by decide +kernel
theorem dX5_status_26 : decode cX5_status 26 = .ok (.ireturn, 1) := by decide +kernel
theorem dX5_status_27 : decode cX5_status 27 = .ok (.iconst 0, 1) := by decide +kernel
theorem dX5_status_28 : decode cX5_status 28 = .ok (.istore_n 2, 1) := by decide +kernel
theorem dX5_status_29 : decode cX5_status 29 = .ok (.iconst 0, 1) := by decide +kernel
theorem dX5_status_30 : decode cX5_status 30 = .ok (.istore_n 3, 1) := by decide +kernel
theorem dX5_status_31 : decode cX5_status 31 = .ok (.iload_n 3, 1) := by decide +kernel
theorem dX5_status_32 : decode cX5_status 32 = .ok (.bipush 7, 2) := by decide +kernel
theorem dX5_status_34 : decode cX5_status 34 = .ok (.if_icmp .ge 18, 3) := by decide +kernel
theorem dX5_status_37 : decode cX5_status 37 = .ok (.iload_n 2, 1) := by decide +kernel
theorem dX5_status_38 : decode cX5_status 38 = .ok (.aload_n 0, 1) := by decide +kernel
theorem dX5_status_39 : decode cX5_status 39 = .ok (.getfield 43, 3) := by decide +kernel
theorem dX5_status_42 : decode cX5_status 42 = .ok (.iload_n 3, 1) := by decide +kernel
theorem dX5_status_43 : decode cX5_status 43 = .ok (.iaload, 1) := by decide +kernel
theorem dX5_status_44 : decode cX5_status 44 = .ok (.iadd, 1) := by decide +kernel
theorem dX5_status_45 : decode cX5_status 45 = .ok (.istore_n 2, 1) := by decide +kernel
theorem dX5_status_46 : decode cX5_status 46 = .ok (.iinc 3 1, 3) := by decide +kernel
theorem dX5_status_49 : decode cX5_status 49 = .ok (.goto (-18), 3) := by decide +kernel
theorem dX5_status_52 : decode cX5_status 52 = .ok (.iload_n 2, 1) := by decide +kernel
theorem dX5_status_53 : decode cX5_status 53 = .ok (.ireturn, 1) := by decide +kernel
theorem dX5_finding_0 : decode cX5_finding 0 = .ok (.aload_n 0, 1) := by decide +kernel
theorem dX5_finding_1 : decode cX5_finding 1 = .ok (.getfield 43, 3) := by decide +kernel
theorem dX5_finding_4 : decode cX5_finding 4 = .ok (.iload_n 1, 1) := by decide +kernel
theorem dX5_finding_5 : decode cX5_finding 5 = .ok (.dup2, 1) := by decide +kernel
theorem dX5_finding_6 : decode cX5_finding 6 = .ok (.iaload, 1) := by decide +kernel
theorem dX5_finding_7 : decode cX5_finding 7 = .ok (.iconst 1, 1) := by decide +kernel
theorem dX5_finding_8 : decode cX5_finding 8 = .ok (.iadd, 1) := by decide +kernel
theorem dX5_finding_9 : decode cX5_finding 9 = .ok (.iastore, 1) := by decide +kernel
theorem dX5_finding_10 : decode cX5_finding 10 = .ok (.ldc_w 262, 3) := by decide +kernel
theorem dX5_finding_13 : decode cX5_finding 13 = .ok (.iload_n 1, 1) := by decide +kernel
theorem dX5_finding_14 : decode cX5_finding 14 = .ok (.isub, 1) := by decide +kernel
theorem dX5_finding_15 : decode cX5_finding 15 = .ok (.ireturn, 1) := by decide +kernel
theorem dX5_isIn_0 : decode cX5_isIn 0 = .ok (.iload_n 0, 1) := by decide +kernel
theorem dX5_isIn_1 : decode cX5_isIn 1 = .ok (.iload_n 1, 1) := by decide +kernel
theorem dX5_isIn_2 : decode cX5_isIn 2 = .ok (.if_icmp .lt 12, 3) := by decide +kernel
theorem dX5_isIn_5 : decode cX5_isIn 5 = .ok (.iload_n 0, 1) := by decide +kernel
theorem dX5_isIn_6 : decode cX5_isIn 6 = .ok (.iload_n 2, 1) := by decide +kernel
theorem dX5_isIn_7 : decode cX5_isIn 7 = .ok (.if_icmp .gt 7, 3) := by decide +kernel
theorem dX5_isIn_10 : decode cX5_isIn 10 = .ok (.iconst 1, 1) := by decide +kernel
theorem dX5_isIn_11 : decode cX5_isIn 11 = .ok (.goto 4, 3) := by decide +kernel
theorem dX5_isIn_14 : decode cX5_isIn 14 = .ok (.iconst 0, 1) := by decide +kernel
theorem dX5_isIn_15 : decode cX5_isIn 15 = .ok (.ireturn, 1) := by decide +kernel
set_option maxRecDepth 20000 in
theorem ggX5_isSide_X5_isIn : GoodIn wsX5_isSide wsX5_isIn := goodIn_r _ [4] (by decide +kernel) (by decide +kernel)
set_option maxRecDepth 20000 in
theorem gX5_isSide_X5_isIn : GoodIn wsX5_isSide (va_wsS RX5 68 yX5_isIn wsX5_isIn) := goodIn_app (goodIn_of _ (by decide +kernel)) ggX5_isSide_X5_isIn
theorem dX5_isSide_0 : decode cX5_isSide 0 = .ok (.iload_n 0, 1) := by decide +kernel
theorem dX5_isSide_1 : decode cX5_isSide 1 = .ok (.iconst 0, 1) := by decide +kernel
theorem dX5_isSide_2 : decode cX5_isSide 2 = .ok (.iconst 1, 1) := by decide +kernel
theorem dX5_isSide_3 : decode cX5_isSide 3 = .ok (.invokestatic 68, 3) := by decide +kernel
theorem dX5_isSide_6 : decode cX5_isSide 6 = .ok (.ireturn, 1) := by decide +kernel
set_option maxRecDepth 20000 in
theorem ggX5_isThing_X5_isIn : GoodIn wsX5_isThing wsX5_isIn := goodIn_r _ [4] (by decide +kernel) (by decide +kernel)
set_option maxRecDepth 20000 in
theorem gX5_isThing_X5_isIn : GoodIn wsX5_isThing (va_wsS RX5 68 yX5_isIn wsX5_isIn) := goodIn_app (goodIn_of _ (by decide +kernel)) ggX5_isThing_X5_isIn
theorem dX5_isThing_0 : decode cX5_isThing 0 = .ok (.iload_n 0, 1) := by decide +kernel
theorem dX5_isThing_1 : decode cX5_isThing 1 = .ok (.iconst 0, 1) := by decide +kernel
theorem dX5_isThing_2 : decode cX5_isThing 2 = .ok (.iconst 4, 1) := by decide +kernel
theorem dX5_isThing_3 : decode cX5_isThing 3 = .ok (.invokestatic 68, 3) := by decide +kernel
theorem dX5_isThing_6 : decode cX5_isThing 6 = .ok (.ireturn, 1) := by decide +kernel
set_option maxRecDepth 20000 in
theorem ggX5_isKind_X5_isIn : GoodIn wsX5_isKind wsX5_isIn := goodIn_r _ [4] (by decide +kernel) (by decide +kernel)
set_option maxRecDepth 20000 in
theorem gX5_isKind_X5_isIn : GoodIn wsX5_isKind (va_wsS RX5 68 yX5_isIn wsX5_isIn) := goodIn_app (goodIn_of _ (by decide +kernel)) ggX5_isKind_X5_isIn
theorem dX5_isKind_0 : decode cX5_isKind 0 = .ok (.iload_n 0, 1) := by decide +kernel
theorem dX5_isKind_1 : decode cX5_isKind 1 = .ok (.iconst 0, 1) := by decide +kernel
theorem dX5_isKind_2 : decode cX5_isKind 2 = .ok (.bipush 6, 2) := by decide +kernel
theorem dX5_isKind_4 : decode cX5_isKind 4 = .ok (.invokestatic 68, 3) := by decide +kernel
theorem dX5_isKind_7 : decode cX5_isKind 7 = .ok (.ireturn, 1) := by decide +kernel
set_option maxRecDepth 20000 in
theorem ggX5_isSheet_X5_isIn : GoodIn wsX5_isSheet wsX5_isIn := goodIn_r _ [4] (by decide +kernel) (by decide +kernel)
set_option maxRecDepth 20000 in
theorem gX5_isSheet_X5_isIn : GoodIn wsX5_isSheet (va_wsS RX5 68 yX5_isIn wsX5_isIn) := goodIn_app (goodIn_of _ (by decide +kernel)) ggX5_isSheet_X5_isIn
theorem dX5_isSheet_0 : decode cX5_isSheet 0 = .ok (.iload_n 0, 1) := by decide +kernel
theorem dX5_isSheet_1 : decode cX5_isSheet 1 = .ok (.iconst 0, 1) := by decide +kernel
theorem dX5_isSheet_2 : decode cX5_isSheet 2 = .ok (.iconst 3, 1) := by decide +kernel
theorem dX5_isSheet_3 : decode cX5_isSheet 3 = .ok (.invokestatic 68, 3) := by decide +kernel
theorem dX5_isSheet_6 : decode cX5_isSheet 6 = .ok (.ireturn, 1) := by decide +kernel
theorem dX5_mostOf_0 : decode cX5_mostOf 0 = .ok (.iload_n 0, 1) := by decide +kernel
theorem dX5_mostOf_1 : decode cX5_mostOf 1 = .ok (.iconst 2, 1) := by decide +kernel
theorem dX5_mostOf_2 : decode cX5_mostOf 2 = .ok (.if_icmp .ne 8, 3) := by decide +kernel
theorem dX5_mostOf_5 : decode cX5_mostOf 5 = .ok (.bipush 20, 2) := by decide +kernel
theorem dX5_mostOf_7 : decode cX5_mostOf 7 = .ok (.goto 5, 3) := by decide +kernel
theorem dX5_mostOf_10 : decode cX5_mostOf 10 = .ok (.bipush 99, 2) := by decide +kernel
theorem dX5_mostOf_12 : decode cX5_mostOf 12 = .ok (.ireturn, 1) := by decide +kernel
set_option maxRecDepth 20000 in
theorem ggX5_isUnder_X5_isKind : GoodIn wsX5_isUnder wsX5_isKind := goodIn_r _ [5, 6, 7, 4, 8] (by decide +kernel) (by decide +kernel)
set_option maxRecDepth 20000 in
theorem gX5_isUnder_X5_isKind : GoodIn wsX5_isUnder (va_wsS RX5 52 yX5_isKind wsX5_isKind) := goodIn_app (goodIn_of _ (by decide +kernel)) ggX5_isUnder_X5_isKind
theorem dX5_isUnder_0 : decode cX5_isUnder 0 = .ok (.iload_n 0, 1) := by decide +kernel
theorem dX5_isUnder_1 : decode cX5_isUnder 1 = .ok (.istore_n 2, 1) := by decide +kernel
theorem dX5_isUnder_2 : decode cX5_isUnder 2 = .ok (.iconst 0, 1) := by decide +kernel
theorem dX5_isUnder_3 : decode cX5_isUnder 3 = .ok (.istore_n 3, 1) := by decide +kernel
theorem dX5_isUnder_4 : decode cX5_isUnder 4 = .ok (.iload_n 3, 1) := by decide +kernel
theorem dX5_isUnder_5 : decode cX5_isUnder 5 = .ok (.bipush 7, 2) := by decide +kernel
theorem dX5_isUnder_7 : decode cX5_isUnder 7 = .ok (.if_icmp .ge 29, 3) := by decide +kernel
theorem dX5_isUnder_10 : decode cX5_isUnder 10 = .ok (.iload_n 2, 1) := by decide +kernel
theorem dX5_isUnder_11 : decode cX5_isUnder 11 = .ok (.invokestatic 52, 3) := by decide +kernel
theorem dX5_isUnder_14 : decode cX5_isUnder 14 = .ok (.ifCond .eq 22, 3) := by decide +kernel
theorem dX5_isUnder_17 : decode cX5_isUnder 17 = .ok (.iload_n 2, 1) := by decide +kernel
theorem dX5_isUnder_18 : decode cX5_isUnder 18 = .ok (.iload_n 1, 1) := by decide +kernel
theorem dX5_isUnder_19 : decode cX5_isUnder 19 = .ok (.if_icmp .ne 5, 3) := by decide +kernel
theorem dX5_isUnder_22 : decode cX5_isUnder 22 = .ok (.iconst 1, 1) := by decide +kernel
theorem dX5_isUnder_23 : decode cX5_isUnder 23 = .ok (.ireturn, 1) := by decide +kernel
theorem dX5_isUnder_24 : decode cX5_isUnder 24 = .ok (.getstatic 263, 3) := by decide +kernel
theorem dX5_isUnder_27 : decode cX5_isUnder 27 = .ok (.iload_n 2, 1) := by decide +kernel
theorem dX5_isUnder_28 : decode cX5_isUnder 28 = .ok (.iaload, 1) := by decide +kernel
theorem dX5_isUnder_29 : decode cX5_isUnder 29 = .ok (.istore_n 2, 1) := by decide +kernel
theorem dX5_isUnder_30 : decode cX5_isUnder 30 = .ok (.iinc 3 1, 3) := by decide +kernel
theorem dX5_isUnder_33 : decode cX5_isUnder 33 = .ok (.goto (-29), 3) := by decide +kernel
theorem dX5_isUnder_36 : decode cX5_isUnder 36 = .ok (.iconst 0, 1) := by decide +kernel
theorem dX5_isUnder_37 : decode cX5_isUnder 37 = .ok (.ireturn, 1) := by decide +kernel
theorem dX5_isTooLate_0 : decode cX5_isTooLate 0 = .ok (.aload_n 0, 1) := by decide +kernel
theorem dX5_isTooLate_1 : decode cX5_isTooLate 1 = .ok (.getfield 10, 3) := by decide +kernel
theorem dX5_isTooLate_4 : decode cX5_isTooLate 4 = .ok (.getfield 59, 3) := by decide +kernel
theorem dX5_isTooLate_7 : decode cX5_isTooLate 7 = .ok (.getfield 142, 3) := by decide +kernel
theorem dX5_isTooLate_10 : decode cX5_isTooLate 10 = .ok (.iload_n 1, 1) := by decide +kernel
theorem dX5_isTooLate_11 : decode cX5_isTooLate 11 = .ok (.iadd, 1) := by decide +kernel
theorem dX5_isTooLate_12 : decode cX5_isTooLate 12 = .ok (.sipush 9999, 3) := by decide +kernel
theorem dX5_isTooLate_15 : decode cX5_isTooLate 15 = .ok (.if_icmp .le 7, 3) := by decide +kernel
theorem dX5_isTooLate_18 : decode cX5_isTooLate 18 = .ok (.iconst 1, 1) := by decide +kernel
theorem dX5_isTooLate_19 : decode cX5_isTooLate 19 = .ok (.goto 4, 3) := by decide +kernel
theorem dX5_isTooLate_22 : decode cX5_isTooLate 22 = .ok (.iconst 0, 1) := by decide +kernel
theorem dX5_isTooLate_23 : decode cX5_isTooLate 23 = .ok (.ireturn, 1) := by decide +kernel
set_option maxRecDepth 20000 in
theorem ggX5_goNights_X1_turn : GoodIn wsX5_goNights wsX1_turn := goodIn_r _ [8, 9, 106, 107, 108, 109, 110, 111, 112, 113, 114, 115] (by decide +kernel) (by decide +kernel)
set_option maxRecDepth 20000 in
theorem gX5_goNights_X1_turn : GoodIn wsX5_goNights (wsV RX5 250 RX1 yX1_turn wsX1_turn) := goodIn_app (goodIn_of _ (by decide +kernel)) ggX5_goNights_X1_turn
set_option maxRecDepth 20000 in
theorem ggX5_goNights_X1_deedOf : GoodIn wsX5_goNights wsX1_deedOf := goodIn_r _ [13, 14, 15, 16, 17, 7, 18, 19, 20, 21, 22, 23, 24, 25, 26, 27, 28, 29, 30, 31, 32, 33, 34, 35, 106, 107, 108, 109, 110, 111, 112, 113, 114, 115] (by decide +kernel) (by decide +kernel)
set_option maxRecDepth 20000 in
theorem gX5_goNights_X1_deedOf : GoodIn wsX5_goNights (wsV RX5 115 RX1 yX1_deedOf wsX1_deedOf) := goodIn_app (goodIn_of _ (by decide +kernel)) ggX5_goNights_X1_deedOf
set_option maxRecDepth 20000 in
theorem ggX5_goNights_X0_note : GoodIn wsX5_goNights wsX0_note := goodIn_r _ [40, 41, 42, 43, 44, 45, 46, 47, 48, 49, 50, 51, 52, 53, 54, 116, 117, 118, 106, 107, 108, 109, 110, 111, 112, 113, 114, 115] (by decide +kernel) (by decide +kernel)
set_option maxRecDepth 20000 in
theorem gX5_goNights_X0_note : GoodIn wsX5_goNights (wsV RX5 266 RX0 yX0_note wsX0_note) := goodIn_app (goodIn_of _ (by decide +kernel)) ggX5_goNights_X0_note
set_option maxRecDepth 20000 in
theorem ggX5_goNights_X1_carryOut : GoodIn wsX5_goNights wsX1_carryOut := goodIn_r _ [58, 9, 59, 60, 61, 7, 62, 63, 64, 65, 66, 67, 19, 68, 69, 70, 71, 72, 73, 52, 53, 54, 74, 75, 76, 77, 14, 78, 79, 80, 81, 82, 83, 84, 85, 29, 30, 31, 32, 33, 34, 35, 86, 87, 88, 89, 90, 91, 92, 93, 94, 106, 107, 108, 109, 110, 111, 112, 113, 114, 115] (by decide +kernel) (by decide +kernel)
set_option maxRecDepth 20000 in
theorem gX5_goNights_X1_carryOut : GoodIn wsX5_goNights (wsV RX5 253 RX1 yX1_carryOut wsX1_carryOut) := goodIn_app (goodIn_of _ (by decide +kernel)) ggX5_goNights_X1_carryOut
theorem dX5_goNights_0 : decode cX5_goNights 0 = .ok (.aload_n 0, 1) := by decide +kernel
theorem dX5_goNights_1 : decode cX5_goNights 1 = .ok (.getfield 10, 3) := by decide +kernel
theorem dX5_goNights_4 : decode cX5_goNights 4 = .ok (.getfield 59, 3) := by decide +kernel
theorem dX5_goNights_7 : decode cX5_goNights 7 = .ok (.astore_n 2, 1) := by decide +kernel
theorem dX5_goNights_8 : decode cX5_goNights 8 = .ok (.iconst 0, 1) := by decide +kernel
theorem dX5_goNights_9 : decode cX5_goNights 9 = .ok (.istore_n 3, 1) := by decide +kernel
theorem dX5_goNights_10 : decode cX5_goNights 10 = .ok (.iconst 0, 1) := by decide +kernel
theorem dX5_goNights_11 : decode cX5_goNights 11 = .ok (.istore 4, 2) := by decide +kernel
theorem dX5_goNights_13 : decode cX5_goNights 13 = .ok (.iload 4, 2) := by decide +kernel
theorem dX5_goNights_15 : decode cX5_goNights 15 = .ok (.iload_n 1, 1) := by decide +kernel
theorem dX5_goNights_16 : decode cX5_goNights 16 = .ok (.if_icmp .ge 55, 3) := by decide +kernel
theorem dX5_goNights_19 : decode cX5_goNights 19 = .ok (.aload_n 2, 1) := by decide +kernel
theorem dX5_goNights_20 : decode cX5_goNights 20 = .ok (.invokevirtual 250, 3) := by decide +kernel
theorem dX5_goNights_23 : decode cX5_goNights 23 = .ok (.istore 5, 2) := by decide +kernel
theorem dX5_goNights_25 : decode cX5_goNights 25 = .ok (.aload_n 2, 1) := by decide +kernel
theorem dX5_goNights_26 : decode cX5_goNights 26 = .ok (.iload 5, 2) := by decide +kernel
theorem dX5_goNights_28 : decode cX5_goNights 28 = .ok (.invokevirtual 115, 3) := by decide +kernel
theorem dX5_goNights_31 : decode cX5_goNights 31 = .ok (.istore 6, 2) := by decide +kernel
theorem dX5_goNights_33 : decode cX5_goNights 33 = .ok (.aload_n 0, 1) := by decide +kernel
theorem dX5_goNights_34 : decode cX5_goNights 34 = .ok (.getfield 10, 3) := by decide +kernel
theorem dX5_goNights_37 : decode cX5_goNights 37 = .ok (.getfield 149, 3) := by decide +kernel
theorem dX5_goNights_40 : decode cX5_goNights 40 = .ok (.aload_n 2, 1) := by decide +kernel
theorem dX5_goNights_41 : decode cX5_goNights 41 = .ok (.iload 5, 2) := by decide +kernel
theorem dX5_goNights_43 : decode cX5_goNights 43 = .ok (.iload 6, 2) := by decide +kernel
theorem dX5_goNights_45 : decode cX5_goNights 45 = .ok (.invokevirtual 266, 3) := by decide +kernel
theorem dX5_goNights_48 : decode cX5_goNights 48 = .ok (.aload_n 2, 1) := by decide +kernel
theorem dX5_goNights_49 : decode cX5_goNights 49 = .ok (.iload 5, 2) := by decide +kernel
theorem dX5_goNights_51 : decode cX5_goNights 51 = .ok (.iload 6, 2) := by decide +kernel
theorem dX5_goNights_53 : decode cX5_goNights 53 = .ok (.invokevirtual 253, 3) := by decide +kernel
theorem dX5_goNights_56 : decode cX5_goNights 56 = .ok (.iload 6, 2) := by decide +kernel
theorem dX5_goNights_58 : decode cX5_goNights 58 = .ok (.iconst 1, 1) := by decide +kernel
theorem dX5_goNights_59 : decode cX5_goNights 59 = .ok (.if_icmp .ne 6, 3) := by decide +kernel
theorem dX5_goNights_62 : decode cX5_goNights 62 = .ok (.iinc 3 1, 3) := by decide +kernel
theorem dX5_goNights_65 : decode cX5_goNights 65 = .ok (.iinc 4 1, 3) := by decide +kernel
theorem dX5_goNights_68 : decode cX5_goNights 68 = .ok (.goto (-55), 3) := by decide +kernel
theorem dX5_goNights_71 : decode cX5_goNights 71 = .ok (.iload_n 3, 1) := by decide +kernel
theorem dX5_goNights_72 : decode cX5_goNights 72 = .ok (.ireturn, 1) := by decide +kernel
set_option maxRecDepth 20000 in
theorem ggX5_bestHeap_X5_tryHeap : GoodIn wsX5_bestHeap wsX5_tryHeap := goodIn_r _ [6, 1, 7, 8, 9, 10, 11, 12, 13, 14, 15, 16, 17, 18, 19, 20, 21, 22, 23, 24, 25, 26, 27, 28, 29, 30, 31, 32, 33, 34, 35, 36, 37, 38, 39, 40, 41, 42, 43, 44, 45, 46, 47, 109, 110, 111, 112, 113, 114, 115, 116, 117, 118, 119, 120, 121, 122, 123, 124, 125, 126, 127, 128, 129] (by decide +kernel) (by decide +kernel)
set_option maxRecDepth 20000 in
theorem gX5_bestHeap_X5_tryHeap : GoodIn wsX5_bestHeap (wsV RX5 177 RX5 yX5_tryHeap wsX5_tryHeap) := goodIn_app (goodIn_of _ (by decide +kernel)) ggX5_bestHeap_X5_tryHeap
set_option maxRecDepth 20000 in
theorem ggX5_bestHeap_X1_passNights : GoodIn wsX5_bestHeap wsX1_passNights := goodIn_r _ [51, 52, 53, 54, 12, 55, 25, 56, 57, 58, 59, 23, 60, 61, 62, 63, 20, 64, 65, 66, 67, 22, 68, 69, 70, 71, 72, 73, 74, 75, 21, 14, 24, 76, 77, 78, 79, 80, 81, 82, 83, 26, 84, 29, 30, 31, 32, 33, 34, 35, 19, 36, 37, 38, 39, 85, 86, 87, 88, 89, 90, 91, 92, 93, 94, 95, 96, 97, 98, 99, 100, 27, 101, 102, 103, 104, 120, 121, 122, 123, 124, 125, 126, 127, 128, 129] (by decide +kernel) (by decide +kernel)
set_option maxRecDepth 20000 in
theorem gX5_bestHeap_X1_passNights : GoodIn wsX5_bestHeap (wsV RX5 165 RX1 yX1_passNights wsX1_passNights) := goodIn_app (goodIn_of _ (by decide +kernel)) ggX5_bestHeap_X1_passNights
set_option maxRecDepth 20000 in
theorem ggX5_bestHeap_X1_wealth : GoodIn wsX5_bestHeap wsX1_wealth := goodIn_r _ [108, 19, 20, 72, 73, 74, 12, 75, 21, 14, 24, 120, 121, 122, 123, 124, 125, 126, 127, 128, 129] (by decide +kernel) (by decide +kernel)
set_option maxRecDepth 20000 in
theorem gX5_bestHeap_X1_wealth : GoodIn wsX5_bestHeap (wsV RX5 171 RX1 yX1_wealth wsX1_wealth) := goodIn_app (goodIn_of _ (by decide +kernel)) ggX5_bestHeap_X1_wealth
theorem dX5_bestHeap_0 : decode cX5_bestHeap 0 = .ok (.iconst 0, 1) := by decide +kernel
theorem dX5_bestHeap_1 : decode cX5_bestHeap 1 = .ok (.istore_n 3, 1) := by decide +kernel
theorem dX5_bestHeap_2 : decode cX5_bestHeap 2 = .ok (.iconst 0, 1) := by decide +kernel
theorem dX5_bestHeap_3 : decode cX5_bestHeap 3 = .ok (.istore 4, 2) := by decide +kernel
theorem dX5_bestHeap_5 : decode cX5_bestHeap 5 = .ok (.iconst 0, 1) := by decide +kernel
theorem dX5_bestHeap_6 : decode cX5_bestHeap 6 = .ok (.istore 5, 2) := by decide +kernel
theorem dX5_bestHeap_8 : decode cX5_bestHeap 8 = .ok (.iload 5, 2) := by decide +kernel
theorem dX5_bestHeap_10 : decode cX5_bestHeap 10 = .ok (.bipush 64, 2) := by decide +kernel
theorem dX5_bestHeap_12 : decode cX5_bestHeap 12 = .ok (.if_icmp .ge 57, 3) := by decide +kernel
theorem dX5_bestHeap_15 : decode cX5_bestHeap 15 = .ok (.aload_n 0, 1) := by decide +kernel
theorem dX5_bestHeap_16 : decode cX5_bestHeap 16 = .ok (.iload_n 1, 1) := by decide +kernel
theorem dX5_bestHeap_17 : decode cX5_bestHeap 17 = .ok (.iload 5, 2) := by decide +kernel
theorem dX5_bestHeap_19 : decode cX5_bestHeap 19 = .ok (.invokevirtual 177, 3) := by decide +kernel
theorem dX5_bestHeap_22 : decode cX5_bestHeap 22 = .ok (.ifCond .eq 41, 3) := by decide +kernel
theorem dX5_bestHeap_25 : decode cX5_bestHeap 25 = .ok (.aload_n 0, 1) := by decide +kernel
theorem dX5_bestHeap_26 : decode cX5_bestHeap 26 = .ok (.getfield 26, 3) := by decide +kernel
theorem dX5_bestHeap_29 : decode cX5_bestHeap 29 = .ok (.iload_n 2, 1) := by decide +kernel
theorem dX5_bestHeap_30 : decode cX5_bestHeap 30 = .ok (.invokevirtual 165, 3) := by decide +kernel
theorem dX5_bestHeap_33 : decode cX5_bestHeap 33 = .ok (.pop, 1) := by decide +kernel
theorem dX5_bestHeap_34 : decode cX5_bestHeap 34 = .ok (.aload_n 0, 1) := by decide +kernel
theorem dX5_bestHeap_35 : decode cX5_bestHeap 35 = .ok (.getfield 26, 3) := by decide +kernel
theorem dX5_bestHeap_38 : decode cX5_bestHeap 38 = .ok (.iload_n 1, 1) := by decide +kernel
theorem dX5_bestHeap_39 : decode cX5_bestHeap 39 = .ok (.invokevirtual 171, 3) := by decide +kernel
theorem dX5_bestHeap_42 : decode cX5_bestHeap 42 = .ok (.istore 6, 2) := by decide +kernel
theorem dX5_bestHeap_44 : decode cX5_bestHeap 44 = .ok (.iload 5, 2) := by decide +kernel
theorem dX5_bestHeap_46 : decode cX5_bestHeap 46 = .ok (.ifCond .eq 10, 3) := by decide +kernel
theorem dX5_bestHeap_49 : decode cX5_bestHeap 49 = .ok (.iload 6, 2) := by decide +kernel
theorem dX5_bestHeap_51 : decode cX5_bestHeap 51 = .ok (.iload 4, 2) := by decide +kernel
theorem dX5_bestHeap_53 : decode cX5_bestHeap 53 = .ok (.if_icmp .le 10, 3) := by decide +kernel
theorem dX5_bestHeap_56 : decode cX5_bestHeap 56 = .ok (.iload 5, 2) := by decide +kernel
theorem dX5_bestHeap_58 : decode cX5_bestHeap 58 = .ok (.istore_n 3, 1) := by decide +kernel
theorem dX5_bestHeap_59 : decode cX5_bestHeap 59 = .ok (.iload 6, 2) := by decide +kernel
theorem dX5_bestHeap_61 : decode cX5_bestHeap 61 = .ok (.istore 4, 2) := by decide +kernel
theorem dX5_bestHeap_63 : decode cX5_bestHeap 63 = .ok (.iinc 5 1, 3) := by decide +kernel
theorem dX5_bestHeap_66 : decode cX5_bestHeap 66 = .ok (.goto (-58), 3) := by decide +kernel
theorem dX5_bestHeap_69 : decode cX5_bestHeap 69 = .ok (.iload_n 3, 1) := by decide +kernel
theorem dX5_bestHeap_70 : decode cX5_bestHeap 70 = .ok (.ireturn, 1) := by decide +kernel
set_option maxRecDepth 20000 in
theorem ggX5_tryHeap_X1_copyFrom : GoodIn wsX5_tryHeap wsX1_copyFrom := goodIn_r _ [8, 9, 10, 11, 12, 13, 14, 15, 16, 17, 18, 19, 20, 21, 22, 54, 55, 56, 57, 58, 59, 60, 61, 62, 63] (by decide +kernel) (by decide +kernel)
set_option maxRecDepth 20000 in
theorem gX5_tryHeap_X1_copyFrom : GoodIn wsX5_tryHeap (wsV RX5 161 RX1 yX1_copyFrom wsX1_copyFrom) := goodIn_app (goodIn_of _ (by decide +kernel)) ggX5_tryHeap_X1_copyFrom
set_option maxRecDepth 20000 in
theorem ggX5_tryHeap_X1_bringHome : GoodIn wsX5_tryHeap wsX1_bringHome := goodIn_r _ [26, 15, 27, 28, 29, 7, 30, 14, 31, 32, 33, 34, 54, 55, 56, 57, 58, 59, 60, 61, 62, 63] (by decide +kernel) (by decide +kernel)
set_option maxRecDepth 20000 in
theorem gX5_tryHeap_X1_bringHome : GoodIn wsX5_tryHeap (wsV RX5 124 RX1 yX1_bringHome wsX1_bringHome) := goodIn_app (goodIn_of _ (by decide +kernel)) ggX5_tryHeap_X1_bringHome
set_option maxRecDepth 20000 in
theorem ggX5_tryHeap_X1_mayLay : GoodIn wsX5_tryHeap wsX1_mayLay := goodIn_r _ [38, 14, 18, 15, 54, 55, 56, 57, 58, 59, 60, 61, 62, 63] (by decide +kernel) (by decide +kernel)
set_option maxRecDepth 20000 in
theorem gX5_tryHeap_X1_mayLay : GoodIn wsX5_tryHeap (wsV RX5 100 RX1 yX1_mayLay wsX1_mayLay) := goodIn_app (goodIn_of _ (by decide +kernel)) ggX5_tryHeap_X1_mayLay
set_option maxRecDepth 20000 in
theorem ggX5_tryHeap_X1_layDown : GoodIn wsX5_tryHeap wsX1_layDown := goodIn_r _ [42, 14, 15, 54, 55, 56, 57, 58, 59, 60, 61, 62, 63] (by decide +kernel) (by decide +kernel)
set_option maxRecDepth 20000 in
theorem gX5_tryHeap_X1_layDown : GoodIn wsX5_tryHeap (wsV RX5 103 RX1 yX1_layDown wsX1_layDown) := goodIn_app (goodIn_of _ (by decide +kernel)) ggX5_tryHeap_X1_layDown
theorem dX5_tryHeap_0 : decode cX5_tryHeap 0 = .ok (.aload_n 0, 1) := by decide +kernel
theorem dX5_tryHeap_1 : decode cX5_tryHeap 1 = .ok (.getfield 26, 3) := by decide +kernel
theorem dX5_tryHeap_4 : decode cX5_tryHeap 4 = .ok (.aload_n 0, 1) := by decide +kernel
theorem dX5_tryHeap_5 : decode cX5_tryHeap 5 = .ok (.getfield 10, 3) := by decide +kernel
theorem dX5_tryHeap_8 : decode cX5_tryHeap 8 = .ok (.getfield 59, 3) := by decide +kernel
theorem dX5_tryHeap_11 : decode cX5_tryHeap 11 = .ok (.invokevirtual 161, 3) := by decide +kernel
theorem dX5_tryHeap_14 : decode cX5_tryHeap 14 = .ok (.aload_n 0, 1) := by decide +kernel
theorem dX5_tryHeap_15 : decode cX5_tryHeap 15 = .ok (.getfield 26, 3) := by decide +kernel
theorem dX5_tryHeap_18 : decode cX5_tryHeap 18 = .ok (.iload_n 1, 1) := by decide +kernel
theorem dX5_tryHeap_19 : decode cX5_tryHeap 19 = .ok (.iload_n 1, 1) := by decide +kernel
theorem dX5_tryHeap_20 : decode cX5_tryHeap 20 = .ok (.invokevirtual 124, 3) := by decide +kernel
theorem dX5_tryHeap_23 : decode cX5_tryHeap 23 = .ok (.iconst 0, 1) := by decide +kernel
theorem dX5_tryHeap_24 : decode cX5_tryHeap 24 = .ok (.istore_n 3, 1) := by decide +kernel
theorem dX5_tryHeap_25 : decode cX5_tryHeap 25 = .ok (.iload_n 3, 1) := by decide +kernel
theorem dX5_tryHeap_26 : decode cX5_tryHeap 26 = .ok (.iconst 3, 1) := by decide +kernel
theorem dX5_tryHeap_27 : decode cX5_tryHeap 27 = .ok (.if_icmp .ge 46, 3) := by decide +kernel
theorem dX5_tryHeap_30 : decode cX5_tryHeap 30 = .ok (.iload_n 2, 1) := by decide +kernel
theorem dX5_tryHeap_31 : decode cX5_tryHeap 31 = .ok (.iconst 2, 1) := by decide +kernel
theorem dX5_tryHeap_32 : decode cX5_tryHeap 32 = .ok (.iload_n 3, 1) := by decide +kernel
theorem dX5_tryHeap_33 : decode cX5_tryHeap 33 = .ok (.imul, 1) := by decide +kernel
theorem dX5_tryHeap_34 : decode cX5_tryHeap 34 = .ok (.ishr, 1) := by decide +kernel
theorem dX5_tryHeap_35 : decode cX5_tryHeap 35 = .ok (.iconst 3, 1) := by decide +kernel
theorem dX5_tryHeap_36 : decode cX5_tryHeap 36 = .ok (.iand, 1) := by decide +kernel
theorem dX5_tryHeap_37 : decode cX5_tryHeap 37 = .ok (.istore 4, 2) := by decide +kernel
theorem dX5_tryHeap_39 : decode cX5_tryHeap 39 = .ok (.aload_n 0, 1) := by decide +kernel
theorem dX5_tryHeap_40 : decode cX5_tryHeap 40 = .ok (.getfield 26, 3) := by decide +kernel
theorem dX5_tryHeap_43 : decode cX5_tryHeap 43 = .ok (.iload_n 1, 1) := by decide +kernel
theorem dX5_tryHeap_44 : decode cX5_tryHeap 44 = .ok (.iload_n 3, 1) := by decide +kernel
theorem dX5_tryHeap_45 : decode cX5_tryHeap 45 = .ok (.iload 4, 2) := by decide +kernel
theorem dX5_tryHeap_47 : decode cX5_tryHeap 47 = .ok (.invokevirtual 100, 3) := by decide +kernel
theorem dX5_tryHeap_50 : decode cX5_tryHeap 50 = .ok (.ifCond .ne 5, 3) := by decide +kernel
theorem dX5_tryHeap_53 : decode cX5_tryHeap 53 = .ok (.iconst 0, 1) := by decide +kernel
theorem dX5_tryHeap_54 : decode cX5_tryHeap 54 = .ok (.ireturn, 1) := by decide +kernel
theorem dX5_tryHeap_55 : decode cX5_tryHeap 55 = .ok (.aload_n 0, 1) := by decide +kernel
theorem dX5_tryHeap_56 : decode cX5_tryHeap 56 = .ok (.getfield 26, 3) := by decide +kernel
theorem dX5_tryHeap_59 : decode cX5_tryHeap 59 = .ok (.iload_n 1, 1) := by decide +kernel
theorem dX5_tryHeap_60 : decode cX5_tryHeap 60 = .ok (.iload_n 3, 1) := by decide +kernel
theorem dX5_tryHeap_61 : decode cX5_tryHeap 61 = .ok (.iload 4, 2) := by decide +kernel
theorem dX5_tryHeap_63 : decode cX5_tryHeap 63 = .ok (.invokevirtual 103, 3) := by decide +kernel
theorem dX5_tryHeap_66 : decode cX5_tryHeap 66 = .ok (.pop, 1) := by decide +kernel
theorem dX5_tryHeap_67 : decode cX5_tryHeap 67 = .ok (.iinc 3 1, 3) := by decide +kernel
theorem dX5_tryHeap_70 : decode cX5_tryHeap 70 = .ok (.goto (-45), 3) := by decide +kernel
theorem dX5_tryHeap_73 : decode cX5_tryHeap 73 = .ok (.iconst 1, 1) := by decide +kernel
theorem dX5_tryHeap_74 : decode cX5_tryHeap 74 = .ok (.ireturn, 1) := by decide +kernel
set_option maxRecDepth 20000 in
theorem ggX5_bundleGains_X1_priceOf : GoodIn wsX5_bundleGains wsX1_priceOf := goodIn_r _ [8, 9, 10, 11, 23, 24, 25, 26, 27, 28, 29, 30, 31, 32] (by decide +kernel) (by decide +kernel)
set_option maxRecDepth 20000 in
theorem gX5_bundleGains_X1_priceOf : GoodIn wsX5_bundleGains (wsV RX5 89 RX1 yX1_priceOf wsX1_priceOf) := goodIn_app (goodIn_of _ (by decide +kernel)) ggX5_bundleGains_X1_priceOf
theorem dX5_bundleGains_0 : decode cX5_bundleGains 0 = .ok (.aload_n 0, 1) := by decide +kernel
theorem dX5_bundleGains_1 : decode cX5_bundleGains 1 = .ok (.getfield 10, 3) := by decide +kernel
theorem dX5_bundleGains_4 : decode cX5_bundleGains 4 = .ok (.getfield 59, 3) := by decide +kernel
theorem dX5_bundleGains_7 : decode cX5_bundleGains 7 = .ok (.astore_n 3, 1) := by decide +kernel
theorem dX5_bundleGains_8 : decode cX5_bundleGains 8 = .ok (.aload_n 3, 1) := by decide +kernel
theorem dX5_bundleGains_9 : decode cX5_bundleGains 9 = .ok (.getfield 109, 3) := by decide +kernel
theorem dX5_bundleGains_12 : decode cX5_bundleGains 12 = .ok (.iload_n 1, 1) := by decide +kernel
theorem dX5_bundleGains_13 : decode cX5_bundleGains 13 = .ok (.iaload, 1) := by decide +kernel
theorem dX5_bundleGains_14 : decode cX5_bundleGains 14 = .ok (.ifCond .eq 14, 3) := by decide +kernel
theorem dX5_bundleGains_17 : decode cX5_bundleGains 17 = .ok (.aload_n 3, 1) := by decide +kernel
theorem dX5_bundleGains_18 : decode cX5_bundleGains 18 = .ok (.getfield 109, 3) := by decide +kernel
theorem dX5_bundleGains_21 : decode cX5_bundleGains 21 = .ok (.iconst 5, 1) := by decide +kernel
theorem dX5_bundleGains_22 : decode cX5_bundleGains 22 = .ok (.iload_n 2, 1) := by decide +kernel
theorem dX5_bundleGains_23 : decode cX5_bundleGains 23 = .ok (.iadd, 1) := by decide +kernel
theorem dX5_bundleGains_24 : decode cX5_bundleGains 24 = .ok (.iaload, 1) := by decide +kernel
theorem dX5_bundleGains_25 : decode cX5_bundleGains 25 = .ok (.ifCond .ne 5, 3) := by decide +kernel
theorem dX5_bundleGains_28 : decode cX5_bundleGains 28 = .ok (.iconst 0, 1) := by decide +kernel
theorem dX5_bundleGains_29 : decode cX5_bundleGains 29 = .ok (.ireturn, 1) := by decide +kernel
theorem dX5_bundleGains_30 : decode cX5_bundleGains 30 = .ok (.aload_n 3, 1) := by decide +kernel
theorem dX5_bundleGains_31 : decode cX5_bundleGains 31 = .ok (.iconst 0, 1) := by decide +kernel
theorem dX5_bundleGains_32 : decode cX5_bundleGains 32 = .ok (.iload_n 2, 1) := by decide +kernel
theorem dX5_bundleGains_33 : decode cX5_bundleGains 33 = .ok (.iconst 1, 1) := by decide +kernel
theorem dX5_bundleGains_34 : decode cX5_bundleGains 34 = .ok (.invokevirtual 89, 3) := by decide +kernel
theorem dX5_bundleGains_37 : decode cX5_bundleGains 37 = .ok (.aload_n 3, 1) := by decide +kernel
theorem dX5_bundleGains_38 : decode cX5_bundleGains 38 = .ok (.iconst 0, 1) := by decide +kernel
theorem dX5_bundleGains_39 : decode cX5_bundleGains 39 = .ok (.iload_n 1, 1) := by decide +kernel
theorem dX5_bundleGains_40 : decode cX5_bundleGains 40 = .ok (.iconst 1, 1) := by decide +kernel
theorem dX5_bundleGains_41 : decode cX5_bundleGains 41 = .ok (.invokevirtual 89, 3) := by decide +kernel
theorem dX5_bundleGains_44 : decode cX5_bundleGains 44 = .ok (.isub, 1) := by decide +kernel
theorem dX5_bundleGains_45 : decode cX5_bundleGains 45 = .ok (.istore 4, 2) := by decide +kernel
theorem dX5_bundleGains_47 : decode cX5_bundleGains 47 = .ok (.aload_n 3, 1) := by decide +kernel
theorem dX5_bundleGains_48 : decode cX5_bundleGains 48 = .ok (.iconst 1, 1) := by decide +kernel
theorem dX5_bundleGains_49 : decode cX5_bundleGains 49 = .ok (.iload_n 1, 1) := by decide +kernel
theorem dX5_bundleGains_50 : decode cX5_bundleGains 50 = .ok (.iconst 1, 1) := by decide +kernel
theorem dX5_bundleGains_51 : decode cX5_bundleGains 51 = .ok (.invokevirtual 89, 3) := by decide +kernel
theorem dX5_bundleGains_54 : decode cX5_bundleGains 54 = .ok (.aload_n 3, 1) := by decide +kernel
theorem dX5_bundleGains_55 : decode cX5_bundleGains 55 = .ok (.iconst 1, 1) := by decide +kernel
theorem dX5_bundleGains_56 : decode cX5_bundleGains 56 = .ok (.iload_n 2, 1) := by decide +kernel
theorem dX5_bundleGains_57 : decode cX5_bundleGains 57 = .ok (.iconst 1, 1) := by decide +kernel
theorem dX5_bundleGains_58 : decode cX5_bundleGains 58 = .ok (.invokevirtual 89, 3) := by decide +kernel
theorem dX5_bundleGains_61 : decode cX5_bundleGains 61 = .ok (.isub, 1) := by decide +kernel
theorem dX5_bundleGains_62 : decode cX5_bundleGains 62 = .ok (.istore 5, 2) := by decide +kernel
theorem dX5_bundleGains_64 : decode cX5_bundleGains 64 = .ok (.iload 4, 2) := by decide +kernel
theorem dX5_bundleGains_66 : decode cX5_bundleGains 66 = .ok (.ifCond .le 16, 3) := by decide +kernel
theorem dX5_bundleGains_69 : decode cX5_bundleGains 69 = .ok (.iload 5, 2) := by decide +kernel
theorem dX5_bundleGains_71 : decode cX5_bundleGains 71 = .ok (.ifCond .le 11, 3) := by decide +kernel
theorem dX5_bundleGains_74 : decode cX5_bundleGains 74 = .ok (.iload 4, 2) := by decide +kernel
theorem dX5_bundleGains_76 : decode cX5_bundleGains 76 = .ok (.iload 5, 2) := by decide +kernel
theorem dX5_bundleGains_78 : decode cX5_bundleGains 78 = .ok (.iadd, 1) := by decide +kernel
theorem dX5_bundleGains_79 : decode cX5_bundleGains 79 = .ok (.goto 4, 3) := by decide +kernel
theorem dX5_bundleGains_82 : decode cX5_bundleGains 82 = .ok (.iconst 0, 1) := by decide +kernel
theorem dX5_bundleGains_83 : decode cX5_bundleGains 83 = .ok (.ireturn, 1) := by decide +kernel
set_option maxRecDepth 20000 in
theorem ggX5_fittingWorths_X1_copyFrom : GoodIn wsX5_fittingWorths wsX1_copyFrom := goodIn_r _ [9, 10, 11, 12, 13, 14, 15, 16, 17, 18, 19, 20, 21, 22, 23, 77, 78, 79, 80, 81, 82, 83, 84, 85, 86] (by decide +kernel) (by decide +kernel)
set_option maxRecDepth 20000 in
theorem gX5_fittingWorths_X1_copyFrom : GoodIn wsX5_fittingWorths (wsV RX5 161 RX1 yX1_copyFrom wsX1_copyFrom) := goodIn_app (goodIn_of _ (by decide +kernel)) ggX5_fittingWorths_X1_copyFrom
set_option maxRecDepth 20000 in
theorem ggX5_fittingWorths_X5_trialAgreesWithBooks : GoodIn wsX5_fittingWorths wsX5_trialAgreesWithBooks := goodIn_r _ [28, 2, 29, 30, 1, 31, 32, 33, 34, 35, 36, 37, 38, 39, 40, 41, 42, 43, 44, 8, 45, 16, 11, 12, 13, 14, 20, 19, 46, 47, 48, 49, 50, 51, 52, 53, 54, 55, 56, 57, 18, 58, 59, 60, 61, 62, 63, 64, 65, 17, 10, 66, 67, 68, 69, 70, 71, 72, 73, 74, 75, 76, 87, 88, 89, 77, 78, 79, 80, 81, 82, 83, 84, 85, 86] (by decide +kernel) (by decide +kernel)
set_option maxRecDepth 20000 in
theorem gX5_fittingWorths_X5_trialAgreesWithBooks : GoodIn wsX5_fittingWorths (wsV RX5 190 RX5 yX5_trialAgreesWithBooks wsX5_trialAgreesWithBooks) := goodIn_app (goodIn_of _ (by decide +kernel)) ggX5_fittingWorths_X5_trialAgreesWithBooks
theorem dX5_fittingWorths_0 : decode cX5_fittingWorths 0 = .ok (.aload_n 0, 1) := by decide +kernel
theorem dX5_fittingWorths_1 : decode cX5_fittingWorths 1 = .ok (.getfield 26, 3) := by decide +kernel
theorem dX5_fittingWorths_4 : decode cX5_fittingWorths 4 = .ok (.aload_n 0, 1) := by decide +kernel
theorem dX5_fittingWorths_5 : decode cX5_fittingWorths 5 = .ok (.getfield 10, 3) := by decide +kernel
theorem dX5_fittingWorths_8 : decode cX5_fittingWorths 8 = .ok (.getfield 59, 3) := by decide +kernel
theorem dX5_fittingWorths_11 : decode cX5_fittingWorths 11 = .ok (.invokevirtual 161, 3) := by decide +kernel
theorem dX5_fittingWorths_14 : decode cX5_fittingWorths 14 = .ok (.iconst 0, 1) := by decide +kernel
theorem dX5_fittingWorths_15 : decode cX5_fittingWorths 15 = .ok (.istore_n 3, 1) := by decide +kernel
theorem dX5_fittingWorths_16 : decode cX5_fittingWorths 16 = .ok (.iconst 0, 1) := by decide +kernel
theorem dX5_fittingWorths_17 : decode cX5_fittingWorths 17 = .ok (.istore 4, 2) := by decide +kernel
theorem dX5_fittingWorths_19 : decode cX5_fittingWorths 19 = .ok (.iload 4, 2) := by decide +kernel
theorem dX5_fittingWorths_21 : decode cX5_fittingWorths 21 = .ok (.bipush 20, 2) := by decide +kernel
theorem dX5_fittingWorths_23 : decode cX5_fittingWorths 23 = .ok (.if_icmp .gt 39, 3) := by decide +kernel
theorem dX5_fittingWorths_26 : decode cX5_fittingWorths 26 = .ok (.aload_n 0, 1) := by decide +kernel
theorem dX5_fittingWorths_27 : decode cX5_fittingWorths 27 = .ok (.getfield 26, 3) := by decide +kernel
theorem dX5_fittingWorths_30 : decode cX5_fittingWorths 30 = .ok (.getfield 247, 3) := by decide +kernel
theorem dX5_fittingWorths_33 : decode cX5_fittingWorths 33 = .ok (.iload_n 1, 1) := by decide +kernel
theorem dX5_fittingWorths_34 : decode cX5_fittingWorths 34 = .ok (.iconst 5, 1) := by decide +kernel
theorem dX5_fittingWorths_35 : decode cX5_fittingWorths 35 = .ok (.imul, 1) := by decide +kernel
theorem dX5_fittingWorths_36 : decode cX5_fittingWorths 36 = .ok (.iload_n 2, 1) := by decide +kernel
theorem dX5_fittingWorths_37 : decode cX5_fittingWorths 37 = .ok (.iadd, 1) := by decide +kernel
theorem dX5_fittingWorths_38 : decode cX5_fittingWorths 38 = .ok (.iload 4, 2) := by decide +kernel
theorem dX5_fittingWorths_40 : decode cX5_fittingWorths 40 = .ok (.iastore, 1) := by decide +kernel
theorem dX5_fittingWorths_41 : decode cX5_fittingWorths 41 = .ok (.aload_n 0, 1) := by decide +kernel
theorem dX5_fittingWorths_42 : decode cX5_fittingWorths 42 = .ok (.iload_n 1, 1) := by decide +kernel
theorem dX5_fittingWorths_43 : decode cX5_fittingWorths 43 = .ok (.invokevirtual 190, 3) := by decide +kernel
theorem dX5_fittingWorths_46 : decode cX5_fittingWorths 46 = .ok (.ifCond .eq 10, 3) := by decide +kernel
theorem dX5_fittingWorths_49 : decode cX5_fittingWorths 49 = .ok (.iload_n 3, 1) := by decide +kernel
theorem dX5_fittingWorths_50 : decode cX5_fittingWorths 50 = .ok (.iconst 1, 1) := by decide +kernel
theorem dX5_fittingWorths_51 : decode cX5_fittingWorths 51 = .ok (.iload 4, 2) := by decide +kernel
theorem dX5_fittingWorths_53 : decode cX5_fittingWorths 53 = .ok (.ishl, 1) := by decide +kernel
theorem dX5_fittingWorths_54 : decode cX5_fittingWorths 54 = .ok (.ior, 1) := by decide +kernel
theorem dX5_fittingWorths_55 : decode cX5_fittingWorths 55 = .ok (.istore_n 3, 1) := by decide +kernel
theorem dX5_fittingWorths_56 : decode cX5_fittingWorths 56 = .ok (.iinc 4 1, 3) := by decide +kernel
theorem dX5_fittingWorths_59 : decode cX5_fittingWorths 59 = .ok (.goto (-40), 3) := by decide +kernel
theorem dX5_fittingWorths_62 : decode cX5_fittingWorths 62 = .ok (.iload_n 3, 1) := by decide +kernel
theorem dX5_fittingWorths_63 : decode cX5_fittingWorths 63 = .ok (.ireturn, 1) := by decide +kernel
set_option maxRecDepth 20000 in
theorem ggX5_trialAgreesWithBooks_X0_latest : GoodIn wsX5_trialAgreesWithBooks wsX0_latest := goodIn_r _ [9, 10, 11, 12, 13, 14, 15, 62, 63, 64] (by decide +kernel) (by decide +kernel)
set_option maxRecDepth 20000 in
theorem gX5_trialAgreesWithBooks_X0_latest : GoodIn wsX5_trialAgreesWithBooks (wsV RX5 184 RX0 yX0_latest wsX0_latest) := goodIn_app (goodIn_of _ (by decide +kernel)) ggX5_trialAgreesWithBooks_X0_latest
set_option maxRecDepth 20000 in
theorem ggX5_trialAgreesWithBooks_X1_standAs : GoodIn wsX5_trialAgreesWithBooks wsX1_standAs := goodIn_r _ [20, 21, 22, 23, 24, 25, 26, 27, 65, 66, 67, 68, 69, 70, 71, 72, 73, 74] (by decide +kernel) (by decide +kernel)
set_option maxRecDepth 20000 in
theorem gX5_trialAgreesWithBooks_X1_standAs : GoodIn wsX5_trialAgreesWithBooks (wsV RX5 270 RX1 yX1_standAs wsX1_standAs) := goodIn_app (goodIn_of _ (by decide +kernel)) ggX5_trialAgreesWithBooks_X1_standAs
set_option maxRecDepth 20000 in
theorem ggX5_trialAgreesWithBooks_X1_deedOf : GoodIn wsX5_trialAgreesWithBooks wsX1_deedOf := goodIn_r _ [31, 27, 32, 33, 34, 19, 35, 21, 36, 37, 38, 39, 40, 41, 42, 43, 44, 45, 46, 47, 48, 49, 50, 26, 65, 66, 67, 68, 69, 70, 71, 72, 73, 74] (by decide +kernel) (by decide +kernel)
set_option maxRecDepth 20000 in
theorem gX5_trialAgreesWithBooks_X1_deedOf : GoodIn wsX5_trialAgreesWithBooks (wsV RX5 115 RX1 yX1_deedOf wsX1_deedOf) := goodIn_app (goodIn_of _ (by decide +kernel)) ggX5_trialAgreesWithBooks_X1_deedOf
theorem dX5_trialAgreesWithBooks_0 : decode cX5_trialAgreesWithBooks 0 = .ok (.aload_n 0, 1) := by decide +kernel
theorem dX5_trialAgreesWithBooks_1 : decode cX5_trialAgreesWithBooks 1 = .ok (.getfield 10, 3) := by decide +kernel
theorem dX5_trialAgreesWithBooks_4 : decode cX5_trialAgreesWithBooks 4 = .ok (.getfield 149, 3) := by decide +kernel
theorem dX5_trialAgreesWithBooks_7 : decode cX5_trialAgreesWithBooks 7 = .ok (.astore_n 2, 1) := by decide +kernel
theorem dX5_trialAgreesWithBooks_8 : decode cX5_trialAgreesWithBooks 8 = .ok (.iconst 0, 1) := by decide +kernel
theorem dX5_trialAgreesWithBooks_9 : decode cX5_trialAgreesWithBooks 9 = .ok (.istore_n 3, 1) := by decide +kernel
theorem dX5_trialAgreesWithBooks_10 : decode cX5_trialAgreesWithBooks 10 = .ok (.iload_n 3, 1) := by decide +kernel
theorem dX5_trialAgreesWithBooks_11 : decode cX5_trialAgreesWithBooks 11 = .ok (.aload_n 2, 1) := by decide +kernel
theorem dX5_trialAgreesWithBooks_12 : decode cX5_trialAgreesWithBooks 12 = .ok (.getfield 153, 3) := by decide +kernel
theorem dX5_trialAgreesWithBooks_15 : decode cX5_trialAgreesWithBooks 15 = .ok (.if_icmp .ge 60, 3) := by decide +kernel
theorem dX5_trialAgreesWithBooks_18 : decode cX5_trialAgreesWithBooks 18 = .ok (.aload_n 2, 1) := by decide +kernel
theorem dX5_trialAgreesWithBooks_19 : decode cX5_trialAgreesWithBooks 19 = .ok (.iload_n 3, 1) := by decide +kernel
theorem dX5_trialAgreesWithBooks_20 : decode cX5_trialAgreesWithBooks 20 = .ok (.invokevirtual 184, 3) := by decide +kernel
theorem dX5_trialAgreesWithBooks_23 : decode cX5_trialAgreesWithBooks 23 = .ok (.astore 4, 2) := by decide +kernel
theorem dX5_trialAgreesWithBooks_25 : decode cX5_trialAgreesWithBooks 25 = .ok (.aload 4, 2) := by decide +kernel
theorem dX5_trialAgreesWithBooks_27 : decode cX5_trialAgreesWithBooks 27 = .ok (.bipush 12, 2) := by decide +kernel
theorem dX5_trialAgreesWithBooks_29 : decode cX5_trialAgreesWithBooks 29 = .ok (.iaload, 1) := by decide +kernel
theorem dX5_trialAgreesWithBooks_30 : decode cX5_trialAgreesWithBooks 30 = .ok (.iload_n 1, 1) := by decide +kernel
theorem dX5_trialAgreesWithBooks_31 : decode cX5_trialAgreesWithBooks 31 = .ok (.if_icmp .ne 38, 3) := by decide +kernel
theorem dX5_trialAgreesWithBooks_34 : decode cX5_trialAgreesWithBooks 34 = .ok (.aload 4, 2) := by decide +kernel
theorem dX5_trialAgreesWithBooks_36 : decode cX5_trialAgreesWithBooks 36 = .ok (.bipush 11, 2) := by decide +kernel
theorem dX5_trialAgreesWithBooks_38 : decode cX5_trialAgreesWithBooks 38 = .ok (.iaload, 1) := by decide +kernel
theorem dX5_trialAgreesWithBooks_39 : decode cX5_trialAgreesWithBooks 39 = .ok (.ifCond .le 30, 3) := by decide +kernel
theorem dX5_trialAgreesWithBooks_42 : decode cX5_trialAgreesWithBooks 42 = .ok (.aload_n 0, 1) := by decide +kernel
theorem dX5_trialAgreesWithBooks_43 : decode cX5_trialAgreesWithBooks 43 = .ok (.getfield 26, 3) := by decide +kernel
theorem dX5_trialAgreesWithBooks_46 : decode cX5_trialAgreesWithBooks 46 = .ok (.aload 4, 2) := by decide +kernel
theorem dX5_trialAgreesWithBooks_48 : decode cX5_trialAgreesWithBooks 48 = .ok (.invokevirtual 270, 3) := by decide +kernel
theorem dX5_trialAgreesWithBooks_51 : decode cX5_trialAgreesWithBooks 51 = .ok (.aload_n 0, 1) := by decide +kernel
theorem dX5_trialAgreesWithBooks_52 : decode cX5_trialAgreesWithBooks 52 = .ok (.getfield 26, 3) := by decide +kernel
theorem dX5_trialAgreesWithBooks_55 : decode cX5_trialAgreesWithBooks 55 = .ok (.iload_n 1, 1) := by decide +kernel
theorem dX5_trialAgreesWithBooks_56 : decode cX5_trialAgreesWithBooks 56 = .ok (.invokevirtual 115, 3) := by decide +kernel
theorem dX5_trialAgreesWithBooks_59 : decode cX5_trialAgreesWithBooks 59 = .ok (.aload 4, 2) := by decide +kernel
theorem dX5_trialAgreesWithBooks_61 : decode cX5_trialAgreesWithBooks 61 = .ok (.bipush 13, 2) := by decide +kernel
theorem dX5_trialAgreesWithBooks_63 : decode cX5_trialAgreesWithBooks 63 = .ok (.iaload, 1) := by decide +kernel
theorem dX5_trialAgreesWithBooks_64 : decode cX5_trialAgreesWithBooks 64 = .ok (.if_icmp .eq 5, 3) := by decide +kernel
theorem dX5_trialAgreesWithBooks_67 : decode cX5_trialAgreesWithBooks 67 = .ok (.iconst 0, 1) := by decide +kernel
theorem dX5_trialAgreesWithBooks_68 : decode cX5_trialAgreesWithBooks 68 = .ok (.ireturn, 1) := by decide +kernel
theorem dX5_trialAgreesWithBooks_69 : decode cX5_trialAgreesWithBooks 69 = .ok (.iinc 3 1, 3) := by decide +kernel
theorem dX5_trialAgreesWithBooks_72 : decode cX5_trialAgreesWithBooks 72 = .ok (.goto (-62), 3) := by decide +kernel
theorem dX5_trialAgreesWithBooks_75 : decode cX5_trialAgreesWithBooks 75 = .ok (.iconst 1, 1) := by decide +kernel
theorem dX5_trialAgreesWithBooks_76 : decode cX5_trialAgreesWithBooks 76 = .ok (.ireturn, 1) := by decide +kernel
set_option maxRecDepth 20000 in
theorem ggX6_init_X6_at : GoodIn wsX6_init wsX6_at := goodIn_r _ [20] (by decide +kernel) (by decide +kernel)
set_option maxRecDepth 20000 in
theorem gX6_init_X6_at : GoodIn wsX6_init (va_wsS RX6 60 yX6_at wsX6_at) := goodIn_app (goodIn_of _ (by decide +kernel)) ggX6_init_X6_at
theorem dX6_init_0 : decode cX6_init 0 = .ok (.aload_n 0, 1) := by decide +kernel
theorem dX6_init_1 : decode cX6_init 1 = .ok (.invokespecial 1, 3) := by decide +kernel
theorem dX6_init_4 : decode cX6_init 4 = .ok (.aload_n 0, 1) := by decide +kernel
theorem dX6_init_5 : decode cX6_init 5 = .ok (.sipush 210, 3) := by decide +kernel
theorem dX6_init_8 : decode cX6_init 8 = .ok (.newarray .int, 2) := by decide +kernel
theorem dX6_init_10 : decode cX6_init 10 = .ok (.putfield 9, 3) := by decide +kernel
theorem dX6_init_13 : decode cX6_init 13 = .ok (.aload_n 0, 1) := by decide +kernel
theorem dX6_init_14 : decode cX6_init 14 = .ok (.sipush 210, 3) := by decide +kernel
theorem dX6_init_17 : decode cX6_init 17 = .ok (.newarray .int, 2) := by decide +kernel
theorem dX6_init_19 : decode cX6_init 19 = .ok (.putfield 13, 3) := by decide +kernel
theorem dX6_init_22 : decode cX6_init 22 = .ok (.aload_n 0, 1) := by decide +kernel
theorem dX6_init_23 : decode cX6_init 23 = .ok (.sipush 210, 3) := by decide +kernel
theorem dX6_init_26 : decode cX6_init 26 = .ok (.newarray .int, 2) := by decide +kernel
theorem dX6_init_28 : decode cX6_init 28 = .ok (.putfield 16, 3) := by decide +kernel
theorem dX6_init_31 : decode cX6_init 31 = .ok (.aload_n 0, 1) := by decide +kernel
theorem dX6_init_32 : decode cX6_init 32 = .ok (.bipush 8, 2) := by decide +kernel
theorem dX6_init_34 : decode cX6_init 34 = .ok (.newarray .int, 2) := by decide +kernel
theorem dX6_init_36 : decode cX6_init 36 = .ok (.putfield 19, 3) := by decide +kernel
theorem dX6_init_39 : decode cX6_init 39 = .ok (.aload_n 0, 1) := by decide +kernel
theorem dX6_init_40 : decode cX6_init 40 = .ok (.bipush 120, 2) := by decide +kernel
theorem dX6_init_42 : decode cX6_init 42 = .ok (.newarray .int, 2) := by decide +kernel
theorem dX6_init_44 : decode cX6_init 44 = .ok (.putfield 22, 3) := by decide +kernel
theorem dX6_init_47 : decode cX6_init 47 = .ok (.aload_n 0, 1) := by decide +kernel
theorem dX6_init_48 : decode cX6_init 48 = .ok (.bipush 7, 2) := by decide +kernel
theorem dX6_init_50 : decode cX6_init 50 = .ok (.anewarray 25, 3) := by decide +kernel
theorem dX6_init_53 : decode cX6_init 53 = .ok (.dup, 1) := by decide +kernel
theorem dX6_init_54 : decode cX6_init 54 = .ok (.iconst 0, 1) := by decide +kernel
theorem dX6_init_55 : decode cX6_init 55 = .ok (.ldc 27, 2) := by decide +kernel
theorem dX6_init_57 : decode cX6_init 57 = .ok (.aastore, 1) := by decide +kernel
theorem dX6_init_58 : decode cX6_init 58 = .ok (.dup, 1) := by decide +kernel
theorem dX6_init_59 : decode cX6_init 59 = .ok (.iconst 1, 1) := by decide +kernel
theorem dX6_init_60 : decode cX6_init 60 = .ok (.ldc 29, 2) := by decide +kernel
theorem dX6_init_62 : decode cX6_init 62 = .ok (.aastore, 1) := by decide +kernel
theorem dX6_init_63 : decode cX6_init 63 = .ok (.dup, 1) := by decide +kernel
theorem dX6_init_64 : decode cX6_init 64 = .ok (.iconst 2, 1) := by decide +kernel
theorem dX6_init_65 : decode cX6_init 65 = .ok (.ldc 31, 2) := by decide +kernel
theorem dX6_init_67 : decode cX6_init 67 = .ok (.aastore, 1) := by decide +kernel
theorem dX6_init_68 : decode cX6_init 68 = .ok (.dup, 1) := by decide +kernel
theorem dX6_init_69 : decode cX6_init 69 = .ok (.iconst 3, 1) := by decide +kernel
theorem dX6_init_70 : decode cX6_init 70 = .ok (.ldc 33, 2) := by decide +kernel
theorem dX6_init_72 : decode cX6_init 72 = .ok (.aastore, 1) := by decide +kernel
theorem dX6_init_73 : decode cX6_init 73 = .ok (.dup, 1) := by decide +kernel
theorem dX6_init_74 : decode cX6_init 74 = .ok (.iconst 4, 1) := by decide +kernel
theorem dX6_init_75 : decode cX6_init 75 = .ok (.ldc 35, 2) := by decide +kernel
theorem dX6_init_77 : decode cX6_init 77 = .ok (.aastore, 1) := by decide +kernel
theorem dX6_init_78 : decode cX6_init 78 = .ok (.dup, 1) := by decide +kernel
theorem dX6_init_79 : decode cX6_init 79 = .ok (.iconst 5, 1) := by decide +kernel
theorem dX6_init_80 : decode cX6_init 80 = .ok (.ldc 37, 2) := by decide +kernel
theorem dX6_init_82 : decode cX6_init 82 = .ok (.aastore, 1) := by decide +kernel
theorem dX6_init_83 : decode cX6_init 83 = .ok (.dup, 1) := by decide +kernel
theorem dX6_init_84 : decode cX6_init 84 = .ok (.bipush 6, 2) := by decide +kernel
theorem dX6_init_86 : decode cX6_init 86 = .ok (.ldc 39, 2) := by decide +kernel
theorem dX6_init_88 : decode cX6_init 88 = .ok (.aastore, 1) := by decide +kernel
theorem dX6_init_89 : decode cX6_init 89 = .ok (.putfield 41, 3) := by decide +kernel
theorem dX6_init_92 : decode cX6_init 92 = .ok (.aload_n 0, 1) := by decide +kernel
theorem dX6_init_93 : decode cX6_init 93 = .ok (.sipush 480, 3) := by decide +kernel
theorem dX6_init_96 : decode cX6_init 96 = .ok (.newarray .int, 2) := by decide +kernel
theorem dX6_init_98 : decode cX6_init 98 = .ok (.putfield 45, 3) := by decide +kernel
theorem dX6_init_101 : decode cX6_init 101 = .ok (.aload_n 0, 1) := by decide +kernel
theorem dX6_init_102 : decode cX6_init 102 = .ok (.iconst 4, 1) := by decide +kernel
theorem dX6_init_103 : decode cX6_init 103 = .ok (.newarray .int, 2) := by decide +kernel
theorem dX6_init_105 : decode cX6_init 105 = .ok (.putfield 48, 3) := by decide +kernel
theorem dX6_init_108 : decode cX6_init 108 = .ok (.aload_n 0, 1) := by decide +kernel
theorem dX6_init_109 : decode cX6_init 109 = .ok (.iconst 4, 1) := by decide +kernel
theorem dX6_init_110 : decode cX6_init 110 = .ok (.newarray .int, 2) := by decide +kernel
theorem dX6_init_112 : decode cX6_init 112 = .ok (.putfield 51, 3) := by decide +kernel
theorem dX6_init_115 : decode cX6_init 115 = .ok (.aload_n 0, 1) := by decide +kernel
theorem dX6_init_116 : decode cX6_init 116 = .ok (.sipush 160, 3) := by decide +kernel
theorem dX6_init_119 : decode cX6_init 119 = .ok (.newarray .int, 2) := by decide +kernel
theorem dX6_init_121 : decode cX6_init 121 = .ok (.putfield 54, 3) := by decide +kernel
theorem dX6_init_124 : decode cX6_init 124 = .ok (.aload_n 0, 1) := by decide +kernel
theorem dX6_init_125 : decode cX6_init 125 = .ok (.bipush 40, 2) := by decide +kernel
theorem dX6_init_127 : decode cX6_init 127 = .ok (.newarray .int, 2) := by decide +kernel
theorem dX6_init_129 : decode cX6_init 129 = .ok (.putfield 57, 3) := by decide +kernel
theorem dX6_init_132 : decode cX6_init 132 = .ok (.aload_n 0, 1) := by decide +kernel
theorem dX6_init_133 : decode cX6_init 133 = .ok (.getfield 9, 3) := by decide +kernel
theorem dX6_init_136 : decode cX6_init 136 = .ok (.iconst 4, 1) := by decide +kernel
theorem dX6_init_137 : decode cX6_init 137 = .ok (.iconst 1, 1) := by decide +kernel
theorem dX6_init_138 : decode cX6_init 138 = .ok (.iastore, 1) := by decide +kernel
theorem dX6_init_139 : decode cX6_init 139 = .ok (.iconst 0, 1) := by decide +kernel
theorem dX6_init_140 : decode cX6_init 140 = .ok (.istore_n 1, 1) := by decide +kernel
theorem dX6_init_141 : decode cX6_init 141 = .ok (.iload_n 1, 1) := by decide +kernel
theorem dX6_init_142 : decode cX6_init 142 = .ok (.bipush 10, 2) := by decide +kernel
theorem dX6_init_144 : decode cX6_init 144 = .ok (.if_icmp .ge 18, 3) := by decide +kernel
theorem dX6_init_147 : decode cX6_init 147 = .ok (.aload_n 0, 1) := by decide +kernel
theorem dX6_init_148 : decode cX6_init 148 = .ok (.getfield 9, 3) := by decide +kernel
theorem dX6_init_151 : decode cX6_init 151 = .ok (.iconst 5, 1) := by decide +kernel
theorem dX6_init_152 : decode cX6_init 152 = .ok (.iload_n 1, 1) := by decide +kernel
theorem dX6_init_153 : decode cX6_init 153 = .ok (.iadd, 1) := by decide +kernel
theorem dX6_init_154 : decode cX6_init 154 = .ok (.iconst (-1), 1) := by decide +kernel
theorem dX6_init_155 : decode cX6_init 155 = .ok (.iastore, 1) := by decide +kernel
theorem dX6_init_156 : decode cX6_init 156 = .ok (.iinc 1 1, 3) := by decide +kernel
theorem dX6_init_159 : decode cX6_init 159 = .ok (.goto (-18), 3) := by decide +kernel
theorem dX6_init_162 : decode cX6_init 162 = .ok (.iconst 0, 1) := by decide +kernel
theorem dX6_init_163 : decode cX6_init 163 = .ok (.istore_n 1, 1) := by decide +kernel
theorem dX6_init_164 : decode cX6_init 164 = .ok (.iload_n 1, 1) := by decide +kernel
theorem dX6_init_165 : decode cX6_init 165 = .ok (.iconst 2, 1) := by decide +kernel
theorem dX6_init_166 : decode cX6_init 166 = .ok (.if_icmp .ge 72, 3) := by decide +kernel
theorem dX6_init_169 : decode cX6_init 169 = .ok (.aload_n 0, 1) := by decide +kernel
theorem dX6_init_170 : decode cX6_init 170 = .ok (.getfield 9, 3) := by decide +kernel
theorem dX6_init_173 : decode cX6_init 173 = .ok (.iload_n 1, 1) := by decide +kernel
theorem dX6_init_174 : decode cX6_init 174 = .ok (.iconst 0, 1) := by decide +kernel
theorem dX6_init_175 : decode cX6_init 175 = .ok (.invokestatic 60, 3) := by decide +kernel
theorem dX6_init_178 : decode cX6_init 178 = .ok (.iconst 2, 1) := by decide +kernel
theorem dX6_init_179 : decode cX6_init 179 = .ok (.iastore, 1) := by decide +kernel
theorem dX6_init_180 : decode cX6_init 180 = .ok (.aload_n 0, 1) := by decide +kernel
theorem dX6_init_181 : decode cX6_init 181 = .ok (.getfield 9, 3) := by decide +kernel
theorem dX6_init_184 : decode cX6_init 184 = .ok (.iload_n 1, 1) := by decide +kernel
theorem dX6_init_185 : decode cX6_init 185 = .ok (.iconst 1, 1) := by decide +kernel
theorem dX6_init_186 : decode cX6_init 186 = .ok (.invokestatic 60, 3) := by decide +kernel
theorem dX6_init_189 : decode cX6_init 189 = .ok (.iconst 5, 1) := by decide +kernel
theorem dX6_init_190 : decode cX6_init 190 = .ok (.iastore, 1) := by decide +kernel
theorem dX6_init_191 : decode cX6_init 191 = .ok (.iconst 0, 1) := by decide +kernel
theorem dX6_init_192 : decode cX6_init 192 = .ok (.istore_n 2, 1) := by decide +kernel
theorem dX6_init_193 : decode cX6_init 193 = .ok (.iload_n 2, 1) := by decide +kernel
theorem dX6_init_194 : decode cX6_init 194 = .ok (.iconst 5, 1) := by decide +kernel
theorem dX6_init_195 : decode cX6_init 195 = .ok (.if_icmp .ge 37, 3) := by decide +kernel
theorem dX6_init_198 : decode cX6_init 198 = .ok (.aload_n 0, 1) := by decide +kernel
theorem dX6_init_199 : decode cX6_init 199 = .ok (.getfield 9, 3) := by decide +kernel
theorem dX6_init_202 : decode cX6_init 202 = .ok (.iload_n 1, 1) := by decide +kernel
theorem dX6_init_203 : decode cX6_init 203 = .ok (.iconst 2, 1) := by decide +kernel
theorem dX6_init_204 : decode cX6_init 204 = .ok (.iload_n 2, 1) := by decide +kernel
theorem dX6_init_205 : decode cX6_init 205 = .ok (.iadd, 1) := by decide +kernel
theorem dX6_init_206 : decode cX6_init 206 = .ok (.invokestatic 60, 3) := by decide +kernel
theorem dX6_init_209 : decode cX6_init 209 = .ok (.bipush 10, 2) := by decide +kernel
theorem dX6_init_211 : decode cX6_init 211 = .ok (.iastore, 1) := by decide +kernel
theorem dX6_init_212 : decode cX6_init 212 = .ok (.aload_n 0, 1) := by decide +kernel
theorem dX6_init_213 : decode cX6_init 213 = .ok (.getfield 9, 3) := by decide +kernel
theorem dX6_init_216 : decode cX6_init 216 = .ok (.iload_n 1, 1) := by decide +kernel
theorem dX6_init_217 : decode cX6_init 217 = .ok (.bipush 12, 2) := by decide +kernel
theorem dX6_init_219 : decode cX6_init 219 = .ok (.iload_n 2, 1) := by decide +kernel
theorem dX6_init_220 : decode cX6_init 220 = .ok (.iadd, 1) := by decide +kernel
theorem dX6_init_221 : decode cX6_init 221 = .ok (.invokestatic 60, 3) := by decide +kernel
theorem dX6_init_224 : decode cX6_init 224 = .ok (.iconst 5, 1) := by decide +kernel
theorem dX6_init_225 : decode cX6_init 225 = .ok (.iastore, 1) := by decide +kernel
theorem dX6_init_226 : decode cX6_init 226 = .ok (.iinc 2 1, 3) := by decide +kernel
theorem dX6_init_229 : decode cX6_init 229 = .ok (.goto (-36), 3) := by decide +kernel
theorem dX6_init_232 : decode cX6_init 232 = .ok (.iinc 1 1, 3) := by decide +kernel
theorem dX6_init_235 : decode cX6_init 235 = .ok (.goto (-71), 3) := by decide +kernel
theorem dX6_init_238 : decode cX6_init 238 = .ok (.return_, 1) := by decide +kernel
theorem dX6_finding_0 : decode cX6_finding 0 = .ok (.aload_n 0, 1) := by decide +kernel
theorem dX6_finding_1 : decode cX6_finding 1 = .ok (.getfield 19, 3) := by decide +kernel
theorem dX6_finding_4 : decode cX6_finding 4 = .ok (.ldc 64, 2) := by decide +kernel
theorem dX6_finding_6 : decode cX6_finding 6 = .ok (.iload_n 1, 1) := by decide +kernel
theorem dX6_finding_7 : decode cX6_finding 7 = .ok (.isub, 1) := by decide +kernel
theorem dX6_finding_8 : decode cX6_finding 8 = .ok (.iconst 1, 1) := by decide +kernel
theorem dX6_finding_9 : decode cX6_finding 9 = .ok (.iadd, 1) := by decide +kernel
theorem dX6_finding_10 : decode cX6_finding 10 = .ok (.dup2, 1) := by decide +kernel
theorem dX6_finding_11 : decode cX6_finding 11 = .ok (.iaload, 1) := by decide +kernel
theorem dX6_finding_12 : decode cX6_finding 12 = .ok (.iconst 1, 1) := by decide +kernel
theorem dX6_finding_13 : decode cX6_finding 13 = .ok (.iadd, 1) := by decide +kernel
theorem dX6_finding_14 : decode cX6_finding 14 = .ok (.iastore, 1) := by decide +kernel
theorem dX6_finding_15 : decode cX6_finding 15 = .ok (.aload_n 0, 1) := by decide +kernel
theorem dX6_finding_16 : decode cX6_finding 16 = .ok (.getfield 19, 3) := by decide +kernel
theorem dX6_finding_19 : decode cX6_finding 19 = .ok (.iconst 0, 1) := by decide +kernel
theorem dX6_finding_20 : decode cX6_finding 20 = .ok (.dup2, 1) := by decide +kernel
theorem dX6_finding_21 : decode cX6_finding 21 = .ok (.iaload, 1) := by decide +kernel
theorem dX6_finding_22 : decode cX6_finding 22 = .ok (.iconst 1, 1) := by decide +kernel
theorem dX6_finding_23 : decode cX6_finding 23 = .ok (.iadd, 1) := by decide +kernel
theorem dX6_finding_24 : decode cX6_finding 24 = .ok (.iastore, 1) := by decide +kernel
theorem dX6_finding_25 : decode cX6_finding 25 = .ok (.iload_n 1, 1) := by decide +kernel
theorem dX6_finding_26 : decode cX6_finding 26 = .ok (.ireturn, 1) := by decide +kernel
theorem dX6_within_0 : decode cX6_within 0 = .ok (.iload_n 0, 1) := by decide +kernel
theorem dX6_within_1 : decode cX6_within 1 = .ok (.iload_n 1, 1) := by decide +kernel
theorem dX6_within_2 : decode cX6_within 2 = .ok (.if_icmp .lt 12, 3) := by decide +kernel
theorem dX6_within_5 : decode cX6_within 5 = .ok (.iload_n 0, 1) := by decide +kernel
theorem dX6_within_6 : decode cX6_within 6 = .ok (.iload_n 2, 1) := by decide +kernel
theorem dX6_within_7 : decode cX6_within 7 = .ok (.if_icmp .gt 7, 3) := by decide +kernel
theorem dX6_within_10 : decode cX6_within 10 = .ok (.iconst 1, 1) := by decide +kernel
theorem dX6_within_11 : decode cX6_within 11 = .ok (.goto 4, 3) := by decide +kernel
theorem dX6_within_14 : decode cX6_within 14 = .ok (.iconst 0, 1) := by decide +kernel
theorem dX6_within_15 : decode cX6_within 15 = .ok (.ireturn, 1) := by decide +kernel
theorem dX6_become_0 : decode cX6_become 0 = .ok (.aload_n 0, 1) := by decide +kernel
theorem dX6_become_1 : decode cX6_become 1 = .ok (.getfield 9, 3) := by decide +kernel
theorem dX6_become_4 : decode cX6_become 4 = .ok (.iload_n 1, 1) := by decide +kernel
theorem dX6_become_5 : decode cX6_become 5 = .ok (.iaload, 1) := by decide +kernel
theorem dX6_become_6 : decode cX6_become 6 = .ok (.istore_n 3, 1) := by decide +kernel
theorem dX6_become_7 : decode cX6_become 7 = .ok (.aload_n 0, 1) := by decide +kernel
theorem dX6_become_8 : decode cX6_become 8 = .ok (.getfield 9, 3) := by decide +kernel
theorem dX6_become_11 : decode cX6_become 11 = .ok (.iload_n 1, 1) := by decide +kernel
theorem dX6_become_12 : decode cX6_become 12 = .ok (.iload_n 2, 1) := by decide +kernel
theorem dX6_become_13 : decode cX6_become 13 = .ok (.iastore, 1) := by decide +kernel
theorem dX6_become_14 : decode cX6_become 14 = .ok (.iload_n 3, 1) := by decide +kernel
theorem dX6_become_15 : decode cX6_become 15 = .ok (.ireturn, 1) := by decide +kernel
theorem dX6_copyRow_0 : decode cX6_copyRow 0 = .ok (.iconst 0, 1) := by decide +kernel
theorem dX6_copyRow_1 : decode cX6_copyRow 1 = .ok (.istore_n 2, 1) := by decide +kernel
theorem dX6_copyRow_2 : decode cX6_copyRow 2 = .ok (.iload_n 2, 1) := by decide +kernel
theorem dX6_copyRow_3 : decode cX6_copyRow 3 = .ok (.sipush 210, 3) := by decide +kernel
theorem dX6_copyRow_6 : decode cX6_copyRow 6 = .ok (.if_icmp .ge 15, 3) := by decide +kernel
theorem dX6_copyRow_9 : decode cX6_copyRow 9 = .ok (.aload_n 1, 1) := by decide +kernel
theorem dX6_copyRow_10 : decode cX6_copyRow 10 = .ok (.iload_n 2, 1) := by decide +kernel
theorem dX6_copyRow_11 : decode cX6_copyRow 11 = .ok (.aload_n 0, 1) := by decide +kernel
theorem dX6_copyRow_12 : decode cX6_copyRow 12 = .ok (.iload_n 2, 1) := by decide +kernel
theorem dX6_copyRow_13 : decode cX6_copyRow 13 = .ok (.iaload, 1) := by decide +kernel
theorem dX6_copyRow_14 : decode cX6_copyRow 14 = .ok (.iastore, 1) := by decide +kernel
theorem dX6_copyRow_15 : decode cX6_copyRow 15 = .ok (.iinc 2 1, 3) := by decide +kernel
theorem dX6_copyRow_18 : decode cX6_copyRow 18 = .ok (.goto (-16), 3) := by decide +kernel
theorem dX6_copyRow_21 : decode cX6_copyRow 21 = .ok (.return_, 1) := by decide +kernel
set_option maxRecDepth 20000 in
theorem ggX6_putBack_X6_copyRow : GoodIn wsX6_putBack wsX6_copyRow := goodIn_r _ [6] (by decide +kernel) (by decide +kernel)
set_option maxRecDepth 20000 in
theorem gX6_putBack_X6_copyRow : GoodIn wsX6_putBack (va_wsS RX6 65 yX6_copyRow wsX6_copyRow) := goodIn_app (goodIn_of _ (by decide +kernel)) ggX6_putBack_X6_copyRow
theorem dX6_putBack_0 : decode cX6_putBack 0 = .ok (.aload_n 0, 1) := by decide +kernel
theorem dX6_putBack_1 : decode cX6_putBack 1 = .ok (.getfield 16, 3) := by decide +kernel
theorem dX6_putBack_4 : decode cX6_putBack 4 = .ok (.aload_n 0, 1) := by decide +kernel
theorem dX6_putBack_5 : decode cX6_putBack 5 = .ok (.getfield 9, 3) := by decide +kernel
theorem dX6_putBack_8 : decode cX6_putBack 8 = .ok (.invokestatic 65, 3) := by decide +kernel
theorem dX6_putBack_11 : decode cX6_putBack 11 = .ok (.iload_n 1, 1) := by decide +kernel
theorem dX6_putBack_12 : decode cX6_putBack 12 = .ok (.ireturn, 1) := by decide +kernel
theorem dX6_bits_0 : decode cX6_bits 0 = .ok (.iconst 0, 1) := by decide +kernel
theorem dX6_bits_1 : decode cX6_bits 1 = .ok (.istore_n 1, 1) := by decide +kernel
theorem dX6_bits_2 : decode cX6_bits 2 = .ok (.iload_n 0, 1) := by decide +kernel
theorem dX6_bits_3 : decode cX6_bits 3 = .ok (.istore_n 2, 1) := by decide +kernel
theorem dX6_bits_4 : decode cX6_bits 4 = .ok (.iload_n 2, 1) := by decide +kernel
theorem dX6_bits_5 : decode cX6_bits 5 = .ok (.ifCond .eq 15, 3) := by decide +kernel
theorem dX6_bits_8 : decode cX6_bits 8 = .ok (.iinc 1 1, 3) := by decide +kernel
theorem dX6_bits_11 : decode cX6_bits 11 = .ok (.iload_n 2, 1) := by decide +kernel
theorem dX6_bits_12 : decode cX6_bits 12 = .ok (.iload_n 2, 1) := by decide +kernel
theorem dX6_bits_13 : decode cX6_bits 13 = .ok (.iconst 1, 1) := by decide +kernel
theorem dX6_bits_14 : decode cX6_bits 14 = .ok (.isub, 1) := by decide +kernel
theorem dX6_bits_15 : decode cX6_bits 15 = .ok (.iand, 1) := by decide +kernel
theorem dX6_bits_16 : decode cX6_bits 16 = .ok (.istore_n 2, 1) := by decide +kernel
theorem dX6_bits_17 : decode cX6_bits 17 = .ok (.goto (-13), 3) := by decide +kernel
theorem dX6_bits_20 : decode cX6_bits 20 = .ok (.iload_n 1, 1) := by decide +kernel
theorem dX6_bits_21 : decode cX6_bits 21 = .ok (.ireturn, 1) := by decide +kernel
set_option maxRecDepth 20000 in
theorem ggX6_isThing_X6_within : GoodIn wsX6_isThing wsX6_within := goodIn_r _ [4] (by decide +kernel) (by decide +kernel)
set_option maxRecDepth 20000 in
theorem gX6_isThing_X6_within : GoodIn wsX6_isThing (va_wsS RX6 69 yX6_within wsX6_within) := goodIn_app (goodIn_of _ (by decide +kernel)) ggX6_isThing_X6_within
theorem dX6_isThing_0 : decode cX6_isThing 0 = .ok (.iload_n 0, 1) := by decide +kernel
theorem dX6_isThing_1 : decode cX6_isThing 1 = .ok (.iconst 0, 1) := by decide +kernel
theorem dX6_isThing_2 : decode cX6_isThing 2 = .ok (.iconst 4, 1) := by decide +kernel
theorem dX6_isThing_3 : decode cX6_isThing 3 = .ok (.invokestatic 69, 3) := by decide +kernel
theorem dX6_isThing_6 : decode cX6_isThing 6 = .ok (.ireturn, 1) := by decide +kernel
set_option maxRecDepth 20000 in
theorem ggX6_isSide_X6_within : GoodIn wsX6_isSide wsX6_within := goodIn_r _ [4] (by decide +kernel) (by decide +kernel)
set_option maxRecDepth 20000 in
theorem gX6_isSide_X6_within : GoodIn wsX6_isSide (va_wsS RX6 69 yX6_within wsX6_within) := goodIn_app (goodIn_of _ (by decide +kernel)) ggX6_isSide_X6_within
theorem dX6_isSide_0 : decode cX6_isSide 0 = .ok (.iload_n 0, 1) := by decide +kernel
theorem dX6_isSide_1 : decode cX6_isSide 1 = .ok (.iconst 0, 1) := by decide +kernel
theorem dX6_isSide_2 : decode cX6_isSide 2 = .ok (.iconst 1, 1) := by decide +kernel
theorem dX6_isSide_3 : decode cX6_isSide 3 = .ok (.invokestatic 69, 3) := by decide +kernel
theorem dX6_isSide_6 : decode cX6_isSide 6 = .ok (.ireturn, 1) := by decide +kernel
set_option maxRecDepth 20000 in
theorem ggX6_isKind_X6_within : GoodIn wsX6_isKind wsX6_within := goodIn_r _ [4] (by decide +kernel) (by decide +kernel)
set_option maxRecDepth 20000 in
theorem gX6_isKind_X6_within : GoodIn wsX6_isKind (va_wsS RX6 69 yX6_within wsX6_within) := goodIn_app (goodIn_of _ (by decide +kernel)) ggX6_isKind_X6_within
theorem dX6_isKind_0 : decode cX6_isKind 0 = .ok (.iload_n 0, 1) := by decide +kernel
theorem dX6_isKind_1 : decode cX6_isKind 1 = .ok (.iconst 0, 1) := by decide +kernel
theorem dX6_isKind_2 : decode cX6_isKind 2 = .ok (.bipush 6, 2) := by decide +kernel
theorem dX6_isKind_4 : decode cX6_isKind 4 = .ok (.invokestatic 69, 3) := by decide +kernel
theorem dX6_isKind_7 : decode cX6_isKind 7 = .ok (.ireturn, 1) := by decide +kernel
theorem dX6_at_0 : decode cX6_at 0 = .ok (.bipush 20, 2) := by decide +kernel
theorem dX6_at_2 : decode cX6_at 2 = .ok (.bipush 17, 2) := by decide +kernel
theorem dX6_at_4 : decode cX6_at 4 = .ok (.iload_n 0, 1) := by decide +kernel
theorem dX6_at_5 : decode cX6_at 5 = .ok (.imul, 1) := by decide +kernel
theorem dX6_at_6 : decode cX6_at 6 = .ok (.iadd, 1) := by decide +kernel
theorem dX6_at_7 : decode cX6_at 7 = .ok (.iload_n 1, 1) := by decide +kernel
theorem dX6_at_8 : decode cX6_at 8 = .ok (.iadd, 1) := by decide +kernel
theorem dX6_at_9 : decode cX6_at 9 = .ok (.ireturn, 1) := by decide +kernel
set_option maxRecDepth 20000 in
theorem ggX6_sideIs_X6_at : GoodIn wsX6_sideIs wsX6_at := goodIn_r _ [5] (by decide +kernel) (by decide +kernel)
set_option maxRecDepth 20000 in
theorem gX6_sideIs_X6_at : GoodIn wsX6_sideIs (va_wsS RX6 60 yX6_at wsX6_at) := goodIn_app (goodIn_of _ (by decide +kernel)) ggX6_sideIs_X6_at
theorem dX6_sideIs_0 : decode cX6_sideIs 0 = .ok (.aload_n 0, 1) := by decide +kernel
theorem dX6_sideIs_1 : decode cX6_sideIs 1 = .ok (.getfield 9, 3) := by decide +kernel
theorem dX6_sideIs_4 : decode cX6_sideIs 4 = .ok (.iload_n 1, 1) := by decide +kernel
theorem dX6_sideIs_5 : decode cX6_sideIs 5 = .ok (.iload_n 2, 1) := by decide +kernel
theorem dX6_sideIs_6 : decode cX6_sideIs 6 = .ok (.invokestatic 60, 3) := by decide +kernel
theorem dX6_sideIs_9 : decode cX6_sideIs 9 = .ok (.iaload, 1) := by decide +kernel
theorem dX6_sideIs_10 : decode cX6_sideIs 10 = .ok (.ireturn, 1) := by decide +kernel
set_option maxRecDepth 20000 in
theorem ggX6_kind_X6_isThing : GoodIn wsX6_kind wsX6_isThing := goodIn_r _ [5, 6, 7, 4, 8] (by decide +kernel) (by decide +kernel)
set_option maxRecDepth 20000 in
theorem gX6_kind_X6_isThing : GoodIn wsX6_kind (va_wsS RX6 73 yX6_isThing wsX6_isThing) := goodIn_app (goodIn_of _ (by decide +kernel)) ggX6_kind_X6_isThing
set_option maxRecDepth 20000 in
theorem ggX6_kind_X6_isKind : GoodIn wsX6_kind wsX6_isKind := goodIn_r _ [11, 6, 7, 4, 8] (by decide +kernel) (by decide +kernel)
set_option maxRecDepth 20000 in
theorem gX6_kind_X6_isKind : GoodIn wsX6_kind (va_wsS RX6 77 yX6_isKind wsX6_isKind) := goodIn_app (goodIn_of _ (by decide +kernel)) ggX6_kind_X6_isKind
set_option maxRecDepth 20000 in
theorem ggX6_kind_X6_become : GoodIn wsX6_kind wsX6_become := goodIn_r _ [15, 16, 22, 23, 24, 25, 26, 27, 28, 29, 30, 31, 32, 33, 34, 35, 36, 37, 38, 39, 40, 41, 42, 43] (by decide +kernel) (by decide +kernel)
set_option maxRecDepth 20000 in
theorem gX6_kind_X6_become : GoodIn wsX6_kind (wsV RX6 80 RX6 yX6_become wsX6_become) := goodIn_app (goodIn_of _ (by decide +kernel)) ggX6_kind_X6_become
set_option maxRecDepth 20000 in
theorem ggX6_kind_X6_finding : GoodIn wsX6_kind wsX6_finding := goodIn_r _ [20, 21, 1, 22, 23, 24, 25, 26, 27, 28, 29, 30, 31, 32, 33, 34, 35, 36, 37, 38, 39, 40, 41, 42, 43] (by decide +kernel) (by decide +kernel)
set_option maxRecDepth 20000 in
theorem gX6_kind_X6_finding : GoodIn wsX6_kind (wsV RX6 83 RX6 yX6_finding wsX6_finding) := goodIn_app (goodIn_of _ (by decide +kernel)) ggX6_kind_X6_finding
theorem dX6_kind_0 : decode cX6_kind 0 = .ok (.iload_n 1, 1) := by decide +kernel
theorem dX6_kind_1 : decode cX6_kind 1 = .ok (.invokestatic 73, 3) := by decide +kernel
theorem dX6_kind_4 : decode cX6_kind 4 = .ok (.ifCond .eq 22, 3) := by decide +kernel
theorem dX6_kind_7 : decode cX6_kind 7 = .ok (.iload_n 2, 1) := by decide +kernel
theorem dX6_kind_8 : decode cX6_kind 8 = .ok (.invokestatic 77, 3) := by decide +kernel
theorem dX6_kind_11 : decode cX6_kind 11 = .ok (.ifCond .eq 15, 3) := by decide +kernel
theorem dX6_kind_14 : decode cX6_kind 14 = .ok (.aload_n 0, 1) := by decide +kernel
theorem dX6_kind_15 : decode cX6_kind 15 = .ok (.bipush 15, 2) := by decide +kernel
theorem dX6_kind_17 : decode cX6_kind 17 = .ok (.iload_n 1, 1) := by decide +kernel
theorem dX6_kind_18 : decode cX6_kind 18 = .ok (.iadd, 1) := by decide +kernel
theorem dX6_kind_19 : decode cX6_kind 19 = .ok (.iload_n 2, 1) := by decide +kernel
theorem dX6_kind_20 : decode cX6_kind 20 = .ok (.invokevirtual 80, 3) := by decide +kernel
theorem dX6_kind_23 : decode cX6_kind 23 = .ok (.goto 9, 3) := by decide +kernel
theorem dX6_kind_26 : decode cX6_kind 26 = .ok (.aload_n 0, 1) := by decide +kernel
theorem dX6_kind_27 : decode cX6_kind 27 = .ok (.ldc 64, 2) := by decide +kernel
theorem dX6_kind_29 : decode cX6_kind 29 = .ok (.invokevirtual 83, 3) := by decide +kernel
theorem dX6_kind_32 : decode cX6_kind 32 = .ok (.ireturn, 1) := by decide +kernel
theorem dX6_fieldOf_0 : decode cX6_fieldOf 0 = .ok (.iload_n 0, 1) := by decide +kernel
theorem dX6_fieldOf_1 : decode cX6_fieldOf 1 = .ok (.ifCond .ne 7, 3) := by decide +kernel
theorem dX6_fieldOf_4 : decode cX6_fieldOf 4 = .ok (.iconst 2, 1) := by decide +kernel
theorem dX6_fieldOf_5 : decode cX6_fieldOf 5 = .ok (.goto 15, 3) := by decide +kernel
theorem dX6_fieldOf_8 : decode cX6_fieldOf 8 = .ok (.iload_n 0, 1) := by decide +kernel
theorem dX6_fieldOf_9 : decode cX6_fieldOf 9 = .ok (.iconst 1, 1) := by decide +kernel
theorem dX6_fieldOf_10 : decode cX6_fieldOf 10 = .ok (.if_icmp .ne 8, 3) := by decide +kernel
theorem dX6_fieldOf_13 : decode cX6_fieldOf 13 = .ok (.bipush 7, 2) := by decide +kernel
theorem dX6_fieldOf_15 : decode cX6_fieldOf 15 = .ok (.goto 5, 3) := by decide +kernel
theorem dX6_fieldOf_18 : decode cX6_fieldOf 18 = .ok (.bipush 12, 2) := by decide +kernel
theorem dX6_fieldOf_20 : decode cX6_fieldOf 20 = .ok (.ireturn, 1) := by decide +kernel
set_option maxRecDepth 20000 in
theorem ggX6_of_X6_isSide : GoodIn wsX6_of wsX6_isSide := goodIn_r _ [5, 6, 7, 4, 8] (by decide +kernel) (by decide +kernel)
set_option maxRecDepth 20000 in
theorem gX6_of_X6_isSide : GoodIn wsX6_of (va_wsS RX6 87 yX6_isSide wsX6_isSide) := goodIn_app (goodIn_of _ (by decide +kernel)) ggX6_of_X6_isSide
set_option maxRecDepth 20000 in
theorem ggX6_of_X6_isThing : GoodIn wsX6_of wsX6_isThing := goodIn_r _ [11, 6, 7, 4, 8] (by decide +kernel) (by decide +kernel)
set_option maxRecDepth 20000 in
theorem gX6_of_X6_isThing : GoodIn wsX6_of (va_wsS RX6 73 yX6_isThing wsX6_isThing) := goodIn_app (goodIn_of _ (by decide +kernel)) ggX6_of_X6_isThing
set_option maxRecDepth 20000 in
theorem ggX6_of_X6_within : GoodIn wsX6_of wsX6_within := goodIn_r _ [8] (by decide +kernel) (by decide +kernel)
set_option maxRecDepth 20000 in
theorem gX6_of_X6_within : GoodIn wsX6_of (va_wsS RX6 69 yX6_within wsX6_within) := goodIn_app (goodIn_of _ (by decide +kernel)) ggX6_of_X6_within
set_option maxRecDepth 20000 in
theorem ggX6_of_X6_fieldOf : GoodIn wsX6_of wsX6_fieldOf := goodIn_r _ [14] (by decide +kernel) (by decide +kernel)
set_option maxRecDepth 20000 in
theorem gX6_of_X6_fieldOf : GoodIn wsX6_of (va_wsS RX6 90 yX6_fieldOf wsX6_fieldOf) := goodIn_app (goodIn_of _ (by decide +kernel)) ggX6_of_X6_fieldOf
set_option maxRecDepth 20000 in
theorem ggX6_of_X6_sideIs : GoodIn wsX6_of wsX6_sideIs := goodIn_r _ [18, 19, 20, 21, 4, 22, 28, 29, 30, 31, 32, 33, 34, 35, 36, 37, 38, 39, 40, 41, 42, 43, 44, 45, 46, 47, 48, 49] (by decide +kernel) (by decide +kernel)
set_option maxRecDepth 20000 in
theorem gX6_of_X6_sideIs : GoodIn wsX6_of (wsV RX6 93 RX6 yX6_sideIs wsX6_sideIs) := goodIn_app (goodIn_of _ (by decide +kernel)) ggX6_of_X6_sideIs
set_option maxRecDepth 20000 in
theorem ggX6_of_X6_finding : GoodIn wsX6_of wsX6_finding := goodIn_r _ [26, 27, 1, 28, 29, 30, 31, 32, 33, 34, 35, 36, 37, 38, 39, 40, 41, 42, 43, 44, 45, 46, 47, 48, 49] (by decide +kernel) (by decide +kernel)
set_option maxRecDepth 20000 in
theorem gX6_of_X6_finding : GoodIn wsX6_of (wsV RX6 83 RX6 yX6_finding wsX6_finding) := goodIn_app (goodIn_of _ (by decide +kernel)) ggX6_of_X6_finding
theorem dX6_of_0 : decode cX6_of 0 = .ok (.iload_n 1, 1) := by decide +kernel
theorem dX6_of_1 : decode cX6_of 1 = .ok (.invokestatic 87, 3) := by decide +kernel
theorem dX6_of_4 : decode cX6_of 4 = .ok (.ifCond .eq 23, 3) := by decide +kernel
theorem dX6_of_7 : decode cX6_of 7 = .ok (.iload_n 2, 1) := by decide +kernel
theorem dX6_of_8 : decode cX6_of 8 = .ok (.invokestatic 73, 3) := by decide +kernel
theorem dX6_of_11 : decode cX6_of 11 = .ok (.ifCond .eq 16, 3) := by decide +kernel
theorem dX6_of_14 : decode cX6_of 14 = .ok (.iload_n 3, 1) := by decide +kernel
theorem dX6_of_15 : decode cX6_of 15 = .ok (.iconst 0, 1) := by decide +kernel
theorem dX6_of_16 : decode cX6_of 16 = .ok (.iconst 2, 1) := by decide +kernel
theorem dX6_of_17 : decode cX6_of 17 = .ok (.invokestatic 69, 3) := by decide +kernel
theorem dX6_of_20 : decode cX6_of 20 = .ok (.ifCond .eq 7, 3) := by decide +kernel
theorem dX6_of_23 : decode cX6_of 23 = .ok (.iconst 1, 1) := by decide +kernel
theorem dX6_of_24 : decode cX6_of 24 = .ok (.goto 4, 3) := by decide +kernel
theorem dX6_of_27 : decode cX6_of 27 = .ok (.iconst 0, 1) := by decide +kernel
theorem dX6_of_28 : decode cX6_of 28 = .ok (.istore 4, 2) := by decide +kernel
theorem dX6_of_30 : decode cX6_of 30 = .ok (.iload 4, 2) := by decide +kernel
theorem dX6_of_32 : decode cX6_of 32 = .ok (.ifCond .eq 17, 3) := by decide +kernel
theorem dX6_of_35 : decode cX6_of 35 = .ok (.aload_n 0, 1) := by decide +kernel
theorem dX6_of_36 : decode cX6_of 36 = .ok (.iload_n 1, 1) := by decide +kernel
theorem dX6_of_37 : decode cX6_of 37 = .ok (.iload_n 3, 1) := by decide +kernel
theorem dX6_of_38 : decode cX6_of 38 = .ok (.invokestatic 90, 3) := by decide +kernel
theorem dX6_of_41 : decode cX6_of 41 = .ok (.iload_n 2, 1) := by decide +kernel
theorem dX6_of_42 : decode cX6_of 42 = .ok (.iadd, 1) := by decide +kernel
theorem dX6_of_43 : decode cX6_of 43 = .ok (.invokevirtual 93, 3) := by decide +kernel
theorem dX6_of_46 : decode cX6_of 46 = .ok (.goto 9, 3) := by decide +kernel
theorem dX6_of_49 : decode cX6_of 49 = .ok (.aload_n 0, 1) := by decide +kernel
theorem dX6_of_50 : decode cX6_of 50 = .ok (.ldc 64, 2) := by decide +kernel
theorem dX6_of_52 : decode cX6_of 52 = .ok (.invokevirtual 83, 3) := by decide +kernel
theorem dX6_of_55 : decode cX6_of 55 = .ok (.ireturn, 1) := by decide +kernel
set_option maxRecDepth 20000 in
theorem ggX6_change_X6_isSide : GoodIn wsX6_change wsX6_isSide := goodIn_r _ [5, 6, 7, 4, 8] (by decide +kernel) (by decide +kernel)
set_option maxRecDepth 20000 in
theorem gX6_change_X6_isSide : GoodIn wsX6_change (va_wsS RX6 87 yX6_isSide wsX6_isSide) := goodIn_app (goodIn_of _ (by decide +kernel)) ggX6_change_X6_isSide
set_option maxRecDepth 20000 in
theorem ggX6_change_X6_isThing : GoodIn wsX6_change wsX6_isThing := goodIn_r _ [11, 6, 7, 4, 8] (by decide +kernel) (by decide +kernel)
set_option maxRecDepth 20000 in
theorem gX6_change_X6_isThing : GoodIn wsX6_change (va_wsS RX6 73 yX6_isThing wsX6_isThing) := goodIn_app (goodIn_of _ (by decide +kernel)) ggX6_change_X6_isThing
set_option maxRecDepth 20000 in
theorem ggX6_change_X6_within : GoodIn wsX6_change wsX6_within := goodIn_r _ [8] (by decide +kernel) (by decide +kernel)
set_option maxRecDepth 20000 in
theorem gX6_change_X6_within : GoodIn wsX6_change (va_wsS RX6 69 yX6_within wsX6_within) := goodIn_app (goodIn_of _ (by decide +kernel)) ggX6_change_X6_within
set_option maxRecDepth 20000 in
theorem ggX6_change_X6_fieldOf : GoodIn wsX6_change wsX6_fieldOf := goodIn_r _ [14] (by decide +kernel) (by decide +kernel)
set_option maxRecDepth 20000 in
theorem gX6_change_X6_fieldOf : GoodIn wsX6_change (va_wsS RX6 90 yX6_fieldOf wsX6_fieldOf) := goodIn_app (goodIn_of _ (by decide +kernel)) ggX6_change_X6_fieldOf
set_option maxRecDepth 20000 in
theorem ggX6_change_X6_at : GoodIn wsX6_change wsX6_at := goodIn_r _ [17] (by decide +kernel) (by decide +kernel)
set_option maxRecDepth 20000 in
theorem gX6_change_X6_at : GoodIn wsX6_change (va_wsS RX6 60 yX6_at wsX6_at) := goodIn_app (goodIn_of _ (by decide +kernel)) ggX6_change_X6_at
set_option maxRecDepth 20000 in
theorem ggX6_change_X6_become : GoodIn wsX6_change wsX6_become := goodIn_r _ [21, 22, 28, 29, 30, 31, 32, 33, 34, 35, 36, 37, 38, 39, 40, 41, 42, 43, 44, 45, 46, 47, 48, 49] (by decide +kernel) (by decide +kernel)
set_option maxRecDepth 20000 in
theorem gX6_change_X6_become : GoodIn wsX6_change (wsV RX6 80 RX6 yX6_become wsX6_become) := goodIn_app (goodIn_of _ (by decide +kernel)) ggX6_change_X6_become
set_option maxRecDepth 20000 in
theorem ggX6_change_X6_finding : GoodIn wsX6_change wsX6_finding := goodIn_r _ [26, 27, 1, 28, 29, 30, 31, 32, 33, 34, 35, 36, 37, 38, 39, 40, 41, 42, 43, 44, 45, 46, 47, 48, 49] (by decide +kernel) (by decide +kernel)
set_option maxRecDepth 20000 in
theorem gX6_change_X6_finding : GoodIn wsX6_change (wsV RX6 83 RX6 yX6_finding wsX6_finding) := goodIn_app (goodIn_of _ (by decide +kernel)) ggX6_change_X6_finding
theorem dX6_change_0 : decode cX6_change 0 = .ok (.iload_n 1, 1) := by decide +kernel
theorem dX6_change_1 : decode cX6_change 1 = .ok (.invokestatic 87, 3) := by decide +kernel
theorem dX6_change_4 : decode cX6_change 4 = .ok (.ifCond .eq 44, 3) := by decide +kernel
theorem dX6_change_7 : decode cX6_change 7 = .ok (.iload_n 2, 1) := by decide +kernel
theorem dX6_change_8 : decode cX6_change 8 = .ok (.invokestatic 73, 3) := by decide +kernel
theorem dX6_change_11 : decode cX6_change 11 = .ok (.ifCond .eq 37, 3) := by decide +kernel
theorem dX6_change_14 : decode cX6_change 14 = .ok (.iload_n 3, 1) := by decide +kernel
theorem dX6_change_15 : decode cX6_change 15 = .ok (.iconst 0, 1) := by decide +kernel
theorem dX6_change_16 : decode cX6_change 16 = .ok (.iconst 2, 1) := by decide +kernel
theorem dX6_change_17 : decode cX6_change 17 = .ok (.invokestatic 69, 3) := by decide +kernel
theorem dX6_change_20 : decode cX6_change 20 = .ok (.ifCond .eq 28, 3) := by decide +kernel
theorem dX6_change_23 : decode cX6_change 23 = .ok (.iload 4, 2) := by decide +kernel
theorem dX6_change_25 : decode cX6_change 25 = .ok (.iconst 0, 1) := by decide +kernel
theorem dX6_change_26 : decode cX6_change 26 = .ok (.iload_n 3, 1) := by decide +kernel
theorem dX6_change_27 : decode cX6_change 27 = .ok (.iconst 2, 1) := by decide +kernel
theorem dX6_change_28 : decode cX6_change 28 = .ok (.if_icmp .ne 8, 3) := by decide +kernel
theorem dX6_change_31 : decode cX6_change 31 = .ok (.bipush 20, 2) := by decide +kernel
theorem dX6_change_33 : decode cX6_change 33 = .ok (.goto 5, 3) := by decide +kernel
theorem dX6_change_36 : decode cX6_change 36 = .ok (.bipush 99, 2) := by decide +kernel
theorem dX6_change_38 : decode cX6_change 38 = .ok (.invokestatic 69, 3) := by decide +kernel
theorem dX6_change_41 : decode cX6_change 41 = .ok (.ifCond .eq 7, 3) := by decide +kernel
theorem dX6_change_44 : decode cX6_change 44 = .ok (.iconst 1, 1) := by decide +kernel
theorem dX6_change_45 : decode cX6_change 45 = .ok (.goto 4, 3) := by decide +kernel
theorem dX6_change_48 : decode cX6_change 48 = .ok (.iconst 0, 1) := by decide +kernel
theorem dX6_change_49 : decode cX6_change 49 = .ok (.istore 5, 2) := by decide +kernel
theorem dX6_change_51 : decode cX6_change 51 = .ok (.iload 5, 2) := by decide +kernel
theorem dX6_change_53 : decode cX6_change 53 = .ok (.ifCond .eq 22, 3) := by decide +kernel
