theorem dX6_change_56 : decode cX6_change 56 = .ok (.aload_n 0, 1) := by decide +kernel
theorem dX6_change_57 : decode cX6_change 57 = .ok (.iload_n 1, 1) := by decide +kernel
theorem dX6_change_58 : decode cX6_change 58 = .ok (.iload_n 3, 1) := by decide +kernel
theorem dX6_change_59 : decode cX6_change 59 = .ok (.invokestatic 90, 3) := by decide +kernel
theorem dX6_change_62 : decode cX6_change 62 = .ok (.iload_n 2, 1) := by decide +kernel
theorem dX6_change_63 : decode cX6_change 63 = .ok (.iadd, 1) := by decide +kernel
theorem dX6_change_64 : decode cX6_change 64 = .ok (.invokestatic 60, 3) := by decide +kernel
theorem dX6_change_67 : decode cX6_change 67 = .ok (.iload 4, 2) := by decide +kernel
theorem dX6_change_69 : decode cX6_change 69 = .ok (.invokevirtual 80, 3) := by decide +kernel
theorem dX6_change_72 : decode cX6_change 72 = .ok (.goto 9, 3) := by decide +kernel
theorem dX6_change_75 : decode cX6_change 75 = .ok (.aload_n 0, 1) := by decide +kernel
theorem dX6_change_76 : decode cX6_change 76 = .ok (.ldc 64, 2) := by decide +kernel
theorem dX6_change_78 : decode cX6_change 78 = .ok (.invokevirtual 83, 3) := by decide +kernel
theorem dX6_change_81 : decode cX6_change 81 = .ok (.ireturn, 1) := by decide +kernel
set_option maxRecDepth 20000 in
theorem ggX6_side_X6_isSide : GoodIn wsX6_side wsX6_isSide := goodIn_r _ [5, 6, 7, 4, 8] (by decide +kernel) (by decide +kernel)
set_option maxRecDepth 20000 in
theorem gX6_side_X6_isSide : GoodIn wsX6_side (va_wsS RX6 87 yX6_isSide wsX6_isSide) := goodIn_app (goodIn_of _ (by decide +kernel)) ggX6_side_X6_isSide
set_option maxRecDepth 20000 in
theorem ggX6_side_X6_within : GoodIn wsX6_side wsX6_within := goodIn_r _ [8] (by decide +kernel) (by decide +kernel)
set_option maxRecDepth 20000 in
theorem gX6_side_X6_within : GoodIn wsX6_side (va_wsS RX6 69 yX6_within wsX6_within) := goodIn_app (goodIn_of _ (by decide +kernel)) ggX6_side_X6_within
set_option maxRecDepth 20000 in
theorem ggX6_side_X6_at : GoodIn wsX6_side wsX6_at := goodIn_r _ [11] (by decide +kernel) (by decide +kernel)
set_option maxRecDepth 20000 in
theorem gX6_side_X6_at : GoodIn wsX6_side (va_wsS RX6 60 yX6_at wsX6_at) := goodIn_app (goodIn_of _ (by decide +kernel)) ggX6_side_X6_at
set_option maxRecDepth 20000 in
theorem ggX6_side_X6_become : GoodIn wsX6_side wsX6_become := goodIn_r _ [15, 16, 22, 23, 24, 25, 26, 27, 28, 29, 30, 31, 32, 33, 34, 35, 36, 37, 38, 39, 40, 41, 42, 43] (by decide +kernel) (by decide +kernel)
set_option maxRecDepth 20000 in
theorem gX6_side_X6_become : GoodIn wsX6_side (wsV RX6 80 RX6 yX6_become wsX6_become) := goodIn_app (goodIn_of _ (by decide +kernel)) ggX6_side_X6_become
set_option maxRecDepth 20000 in
theorem ggX6_side_X6_finding : GoodIn wsX6_side wsX6_finding := goodIn_r _ [20, 21, 1, 22, 23, 24, 25, 26, 27, 28, 29, 30, 31, 32, 33, 34, 35, 36, 37, 38, 39, 40, 41, 42, 43] (by decide +kernel) (by decide +kernel)
set_option maxRecDepth 20000 in
theorem gX6_side_X6_finding : GoodIn wsX6_side (wsV RX6 83 RX6 yX6_finding wsX6_finding) := goodIn_app (goodIn_of _ (by decide +kernel)) ggX6_side_X6_finding
theorem dX6_side_0 : decode cX6_side 0 = .ok (.iload_n 1, 1) := by decide +kernel
theorem dX6_side_1 : decode cX6_side 1 = .ok (.invokestatic 87, 3) := by decide +kernel
theorem dX6_side_4 : decode cX6_side 4 = .ok (.ifCond .eq 36, 3) := by decide +kernel
theorem dX6_side_7 : decode cX6_side 7 = .ok (.iload_n 2, 1) := by decide +kernel
theorem dX6_side_8 : decode cX6_side 8 = .ok (.ifCond .ne 13, 3) := by decide +kernel
theorem dX6_side_11 : decode cX6_side 11 = .ok (.iload_n 3, 1) := by decide +kernel
theorem dX6_side_12 : decode cX6_side 12 = .ok (.iconst 0, 1) := by decide +kernel
theorem dX6_side_13 : decode cX6_side 13 = .ok (.bipush 50, 2) := by decide +kernel
theorem dX6_side_15 : decode cX6_side 15 = .ok (.invokestatic 69, 3) := by decide +kernel
theorem dX6_side_18 : decode cX6_side 18 = .ok (.ifCond .ne 18, 3) := by decide +kernel
theorem dX6_side_21 : decode cX6_side 21 = .ok (.iload_n 2, 1) := by decide +kernel
theorem dX6_side_22 : decode cX6_side 22 = .ok (.iconst 1, 1) := by decide +kernel
theorem dX6_side_23 : decode cX6_side 23 = .ok (.if_icmp .ne 17, 3) := by decide +kernel
theorem dX6_side_26 : decode cX6_side 26 = .ok (.iload_n 3, 1) := by decide +kernel
theorem dX6_side_27 : decode cX6_side 27 = .ok (.iconst 0, 1) := by decide +kernel
theorem dX6_side_28 : decode cX6_side 28 = .ok (.bipush 9, 2) := by decide +kernel
theorem dX6_side_30 : decode cX6_side 30 = .ok (.invokestatic 69, 3) := by decide +kernel
theorem dX6_side_33 : decode cX6_side 33 = .ok (.ifCond .eq 7, 3) := by decide +kernel
theorem dX6_side_36 : decode cX6_side 36 = .ok (.iconst 1, 1) := by decide +kernel
theorem dX6_side_37 : decode cX6_side 37 = .ok (.goto 4, 3) := by decide +kernel
theorem dX6_side_40 : decode cX6_side 40 = .ok (.iconst 0, 1) := by decide +kernel
theorem dX6_side_41 : decode cX6_side 41 = .ok (.istore 4, 2) := by decide +kernel
theorem dX6_side_43 : decode cX6_side 43 = .ok (.iload 4, 2) := by decide +kernel
theorem dX6_side_45 : decode cX6_side 45 = .ok (.ifCond .eq 16, 3) := by decide +kernel
theorem dX6_side_48 : decode cX6_side 48 = .ok (.aload_n 0, 1) := by decide +kernel
theorem dX6_side_49 : decode cX6_side 49 = .ok (.iload_n 1, 1) := by decide +kernel
theorem dX6_side_50 : decode cX6_side 50 = .ok (.iload_n 2, 1) := by decide +kernel
theorem dX6_side_51 : decode cX6_side 51 = .ok (.invokestatic 60, 3) := by decide +kernel
theorem dX6_side_54 : decode cX6_side 54 = .ok (.iload_n 3, 1) := by decide +kernel
theorem dX6_side_55 : decode cX6_side 55 = .ok (.invokevirtual 80, 3) := by decide +kernel
theorem dX6_side_58 : decode cX6_side 58 = .ok (.goto 9, 3) := by decide +kernel
theorem dX6_side_61 : decode cX6_side 61 = .ok (.aload_n 0, 1) := by decide +kernel
theorem dX6_side_62 : decode cX6_side 62 = .ok (.ldc 64, 2) := by decide +kernel
theorem dX6_side_64 : decode cX6_side 64 = .ok (.invokevirtual 83, 3) := by decide +kernel
theorem dX6_side_67 : decode cX6_side 67 = .ok (.ireturn, 1) := by decide +kernel
set_option maxRecDepth 20000 in
theorem ggX6_frost_X6_within : GoodIn wsX6_frost wsX6_within := goodIn_r _ [5] (by decide +kernel) (by decide +kernel)
set_option maxRecDepth 20000 in
theorem gX6_frost_X6_within : GoodIn wsX6_frost (va_wsS RX6 69 yX6_within wsX6_within) := goodIn_app (goodIn_of _ (by decide +kernel)) ggX6_frost_X6_within
set_option maxRecDepth 20000 in
theorem ggX6_frost_X6_become : GoodIn wsX6_frost wsX6_become := goodIn_r _ [9, 10, 16, 17, 18, 19, 20, 21, 22, 23, 24, 25, 26, 27, 28, 29, 30, 31, 32, 33, 34, 35, 36, 37] (by decide +kernel) (by decide +kernel)
set_option maxRecDepth 20000 in
theorem gX6_frost_X6_become : GoodIn wsX6_frost (wsV RX6 80 RX6 yX6_become wsX6_become) := goodIn_app (goodIn_of _ (by decide +kernel)) ggX6_frost_X6_become
set_option maxRecDepth 20000 in
theorem ggX6_frost_X6_finding : GoodIn wsX6_frost wsX6_finding := goodIn_r _ [14, 15, 1, 16, 17, 18, 19, 20, 21, 22, 23, 24, 25, 26, 27, 28, 29, 30, 31, 32, 33, 34, 35, 36, 37] (by decide +kernel) (by decide +kernel)
set_option maxRecDepth 20000 in
theorem gX6_frost_X6_finding : GoodIn wsX6_frost (wsV RX6 83 RX6 yX6_finding wsX6_finding) := goodIn_app (goodIn_of _ (by decide +kernel)) ggX6_frost_X6_finding
theorem dX6_frost_0 : decode cX6_frost 0 = .ok (.iload_n 1, 1) := by decide +kernel
theorem dX6_frost_1 : decode cX6_frost 1 = .ok (.iconst 0, 1) := by decide +kernel
theorem dX6_frost_2 : decode cX6_frost 2 = .ok (.bipush 9, 2) := by decide +kernel
theorem dX6_frost_4 : decode cX6_frost 4 = .ok (.invokestatic 69, 3) := by decide +kernel
theorem dX6_frost_7 : decode cX6_frost 7 = .ok (.ifCond .eq 12, 3) := by decide +kernel
theorem dX6_frost_10 : decode cX6_frost 10 = .ok (.aload_n 0, 1) := by decide +kernel
theorem dX6_frost_11 : decode cX6_frost 11 = .ok (.iconst 1, 1) := by decide +kernel
theorem dX6_frost_12 : decode cX6_frost 12 = .ok (.iload_n 1, 1) := by decide +kernel
theorem dX6_frost_13 : decode cX6_frost 13 = .ok (.invokevirtual 80, 3) := by decide +kernel
theorem dX6_frost_16 : decode cX6_frost 16 = .ok (.goto 9, 3) := by decide +kernel
theorem dX6_frost_19 : decode cX6_frost 19 = .ok (.aload_n 0, 1) := by decide +kernel
theorem dX6_frost_20 : decode cX6_frost 20 = .ok (.ldc 64, 2) := by decide +kernel
theorem dX6_frost_22 : decode cX6_frost 22 = .ok (.invokevirtual 83, 3) := by decide +kernel
theorem dX6_frost_25 : decode cX6_frost 25 = .ok (.ireturn, 1) := by decide +kernel
theorem dX6_above_0 : decode cX6_above 0 = .ok (.iload_n 0, 1) := by decide +kernel
theorem dX6_above_1 : decode cX6_above 1 = .ok (.ifCond .ne 7, 3) := by decide +kernel
theorem dX6_above_4 : decode cX6_above 4 = .ok (.iconst (-1), 1) := by decide +kernel
theorem dX6_above_5 : decode cX6_above 5 = .ok (.goto 32, 3) := by decide +kernel
theorem dX6_above_8 : decode cX6_above 8 = .ok (.iload_n 0, 1) := by decide +kernel
theorem dX6_above_9 : decode cX6_above 9 = .ok (.iconst 3, 1) := by decide +kernel
theorem dX6_above_10 : decode cX6_above 10 = .ok (.if_icmp .ne 7, 3) := by decide +kernel
theorem dX6_above_13 : decode cX6_above 13 = .ok (.iconst 1, 1) := by decide +kernel
theorem dX6_above_14 : decode cX6_above 14 = .ok (.goto 23, 3) := by decide +kernel
theorem dX6_above_17 : decode cX6_above 17 = .ok (.iload_n 0, 1) := by decide +kernel
theorem dX6_above_18 : decode cX6_above 18 = .ok (.iconst 4, 1) := by decide +kernel
theorem dX6_above_19 : decode cX6_above 19 = .ok (.if_icmp .ne 7, 3) := by decide +kernel
theorem dX6_above_22 : decode cX6_above 22 = .ok (.iconst 2, 1) := by decide +kernel
theorem dX6_above_23 : decode cX6_above 23 = .ok (.goto 14, 3) := by decide +kernel
theorem dX6_above_26 : decode cX6_above 26 = .ok (.iload_n 0, 1) := by decide +kernel
theorem dX6_above_27 : decode cX6_above 27 = .ok (.bipush 6, 2) := by decide +kernel
theorem dX6_above_29 : decode cX6_above 29 = .ok (.if_icmp .ne 7, 3) := by decide +kernel
theorem dX6_above_32 : decode cX6_above 32 = .ok (.iconst 5, 1) := by decide +kernel
theorem dX6_above_33 : decode cX6_above 33 = .ok (.goto 4, 3) := by decide +kernel
theorem dX6_above_36 : decode cX6_above 36 = .ok (.iconst 0, 1) := by decide +kernel
theorem dX6_above_37 : decode cX6_above 37 = .ok (.ireturn, 1) := by decide +kernel
set_option maxRecDepth 20000 in
theorem ggX6_isUnder_X6_above : GoodIn wsX6_isUnder wsX6_above := goodIn_r _ [4] (by decide +kernel) (by decide +kernel)
set_option maxRecDepth 20000 in
theorem gX6_isUnder_X6_above : GoodIn wsX6_isUnder (va_wsS RX6 96 yX6_above wsX6_above) := goodIn_app (goodIn_of _ (by decide +kernel)) ggX6_isUnder_X6_above
theorem dX6_isUnder_0 : decode cX6_isUnder 0 = .ok (.iload_n 0, 1) := by decide +kernel
theorem dX6_isUnder_1 : decode cX6_isUnder 1 = .ok (.istore_n 2, 1) := by decide +kernel
theorem dX6_isUnder_2 : decode cX6_isUnder 2 = .ok (.iload_n 2, 1) := by decide +kernel
theorem dX6_isUnder_3 : decode cX6_isUnder 3 = .ok (.ifCond .lt 16, 3) := by decide +kernel
theorem dX6_isUnder_6 : decode cX6_isUnder 6 = .ok (.iload_n 2, 1) := by decide +kernel
theorem dX6_isUnder_7 : decode cX6_isUnder 7 = .ok (.iload_n 1, 1) := by decide +kernel
theorem dX6_isUnder_8 : decode cX6_isUnder 8 = .ok (.if_icmp .eq 11, 3) := by decide +kernel
theorem dX6_isUnder_11 : decode cX6_isUnder 11 = .ok (.iload_n 2, 1) := by decide +kernel
theorem dX6_isUnder_12 : decode cX6_isUnder 12 = .ok (.invokestatic 96, 3) := by decide +kernel
theorem dX6_isUnder_15 : decode cX6_isUnder 15 = .ok (.istore_n 2, 1) := by decide +kernel
theorem dX6_isUnder_16 : decode cX6_isUnder 16 = .ok (.goto (-14), 3) := by decide +kernel
theorem dX6_isUnder_19 : decode cX6_isUnder 19 = .ok (.iload_n 2, 1) := by decide +kernel
theorem dX6_isUnder_20 : decode cX6_isUnder 20 = .ok (.ifCond .lt 7, 3) := by decide +kernel
theorem dX6_isUnder_23 : decode cX6_isUnder 23 = .ok (.iconst 1, 1) := by decide +kernel
theorem dX6_isUnder_24 : decode cX6_isUnder 24 = .ok (.goto 4, 3) := by decide +kernel
theorem dX6_isUnder_27 : decode cX6_isUnder 27 = .ok (.iconst 0, 1) := by decide +kernel
theorem dX6_isUnder_28 : decode cX6_isUnder 28 = .ok (.ireturn, 1) := by decide +kernel
set_option maxRecDepth 20000 in
theorem ggX6_priceBy_X6_isUnder : GoodIn wsX6_priceBy wsX6_isUnder := goodIn_r _ [5, 6, 7, 4, 8] (by decide +kernel) (by decide +kernel)
set_option maxRecDepth 20000 in
theorem gX6_priceBy_X6_isUnder : GoodIn wsX6_priceBy (va_wsS RX6 99 yX6_isUnder wsX6_isUnder) := goodIn_app (goodIn_of _ (by decide +kernel)) ggX6_priceBy_X6_isUnder
theorem dX6_priceBy_0 : decode cX6_priceBy 0 = .ok (.aload_n 0, 1) := by decide +kernel
theorem dX6_priceBy_1 : decode cX6_priceBy 1 = .ok (.getfield 9, 3) := by decide +kernel
theorem dX6_priceBy_4 : decode cX6_priceBy 4 = .ok (.bipush 15, 2) := by decide +kernel
theorem dX6_priceBy_6 : decode cX6_priceBy 6 = .ok (.iload_n 1, 1) := by decide +kernel
theorem dX6_priceBy_7 : decode cX6_priceBy 7 = .ok (.iadd, 1) := by decide +kernel
theorem dX6_priceBy_8 : decode cX6_priceBy 8 = .ok (.iaload, 1) := by decide +kernel
theorem dX6_priceBy_9 : decode cX6_priceBy 9 = .ok (.istore 5, 2) := by decide +kernel
theorem dX6_priceBy_11 : decode cX6_priceBy 11 = .ok (.iload 5, 2) := by decide +kernel
theorem dX6_priceBy_13 : decode cX6_priceBy 13 = .ok (.iconst 5, 1) := by decide +kernel
theorem dX6_priceBy_14 : decode cX6_priceBy 14 = .ok (.invokestatic 99, 3) := by decide +kernel
theorem dX6_priceBy_17 : decode cX6_priceBy 17 = .ok (.ifCond .eq 34, 3) := by decide +kernel
theorem dX6_priceBy_20 : decode cX6_priceBy 20 = .ok (.iload_n 2, 1) := by decide +kernel
theorem dX6_priceBy_21 : decode cX6_priceBy 21 = .ok (.ifCond .ne 7, 3) := by decide +kernel
theorem dX6_priceBy_24 : decode cX6_priceBy 24 = .ok (.iconst 0, 1) := by decide +kernel
theorem dX6_priceBy_25 : decode cX6_priceBy 25 = .ok (.goto 25, 3) := by decide +kernel
theorem dX6_priceBy_28 : decode cX6_priceBy 28 = .ok (.iload_n 3, 1) := by decide +kernel
theorem dX6_priceBy_29 : decode cX6_priceBy 29 = .ok (.iload_n 2, 1) := by decide +kernel
theorem dX6_priceBy_30 : decode cX6_priceBy 30 = .ok (.iconst 1, 1) := by decide +kernel
theorem dX6_priceBy_31 : decode cX6_priceBy 31 = .ok (.isub, 1) := by decide +kernel
theorem dX6_priceBy_32 : decode cX6_priceBy 32 = .ok (.iload_n 3, 1) := by decide +kernel
theorem dX6_priceBy_33 : decode cX6_priceBy 33 = .ok (.iconst 2, 1) := by decide +kernel
theorem dX6_priceBy_34 : decode cX6_priceBy 34 = .ok (.idiv, 1) := by decide +kernel
theorem dX6_priceBy_35 : decode cX6_priceBy 35 = .ok (.imul, 1) := by decide +kernel
theorem dX6_priceBy_36 : decode cX6_priceBy 36 = .ok (.iadd, 1) := by decide +kernel
theorem dX6_priceBy_37 : decode cX6_priceBy 37 = .ok (.iload 5, 2) := by decide +kernel
theorem dX6_priceBy_39 : decode cX6_priceBy 39 = .ok (.bipush 6, 2) := by decide +kernel
theorem dX6_priceBy_41 : decode cX6_priceBy 41 = .ok (.if_icmp .ne 7, 3) := by decide +kernel
theorem dX6_priceBy_44 : decode cX6_priceBy 44 = .ok (.iconst 3, 1) := by decide +kernel
theorem dX6_priceBy_45 : decode cX6_priceBy 45 = .ok (.goto 4, 3) := by decide +kernel
theorem dX6_priceBy_48 : decode cX6_priceBy 48 = .ok (.iconst 0, 1) := by decide +kernel
theorem dX6_priceBy_49 : decode cX6_priceBy 49 = .ok (.iadd, 1) := by decide +kernel
theorem dX6_priceBy_50 : decode cX6_priceBy 50 = .ok (.ireturn, 1) := by decide +kernel
theorem dX6_priceBy_51 : decode cX6_priceBy 51 = .ok (.iload_n 2, 1) := by decide +kernel
theorem dX6_priceBy_52 : decode cX6_priceBy 52 = .ok (.iload_n 3, 1) := by decide +kernel
theorem dX6_priceBy_53 : decode cX6_priceBy 53 = .ok (.iload 5, 2) := by decide +kernel
theorem dX6_priceBy_55 : decode cX6_priceBy 55 = .ok (.iconst 4, 1) := by decide +kernel
theorem dX6_priceBy_56 : decode cX6_priceBy 56 = .ok (.if_icmp .ne 10, 3) := by decide +kernel
theorem dX6_priceBy_59 : decode cX6_priceBy 59 = .ok (.iconst 2, 1) := by decide +kernel
theorem dX6_priceBy_60 : decode cX6_priceBy 60 = .ok (.iload 4, 2) := by decide +kernel
theorem dX6_priceBy_62 : decode cX6_priceBy 62 = .ok (.imul, 1) := by decide +kernel
theorem dX6_priceBy_63 : decode cX6_priceBy 63 = .ok (.goto 15, 3) := by decide +kernel
theorem dX6_priceBy_66 : decode cX6_priceBy 66 = .ok (.iload 5, 2) := by decide +kernel
theorem dX6_priceBy_68 : decode cX6_priceBy 68 = .ok (.iconst 2, 1) := by decide +kernel
theorem dX6_priceBy_69 : decode cX6_priceBy 69 = .ok (.if_icmp .ne 8, 3) := by decide +kernel
theorem dX6_priceBy_72 : decode cX6_priceBy 72 = .ok (.iload 4, 2) := by decide +kernel
theorem dX6_priceBy_74 : decode cX6_priceBy 74 = .ok (.goto 4, 3) := by decide +kernel
theorem dX6_priceBy_77 : decode cX6_priceBy 77 = .ok (.iconst 0, 1) := by decide +kernel
theorem dX6_priceBy_78 : decode cX6_priceBy 78 = .ok (.iadd, 1) := by decide +kernel
theorem dX6_priceBy_79 : decode cX6_priceBy 79 = .ok (.imul, 1) := by decide +kernel
theorem dX6_priceBy_80 : decode cX6_priceBy 80 = .ok (.ireturn, 1) := by decide +kernel
set_option maxRecDepth 20000 in
theorem ggX6_priceFor_X6_sideIs : GoodIn wsX6_priceFor wsX6_sideIs := goodIn_r _ [6, 1, 7, 8, 5, 9, 20, 21, 22, 23, 24, 25, 26, 27, 28, 29, 30, 31, 32, 33, 34, 35, 36, 37, 38, 39, 40, 41] (by decide +kernel) (by decide +kernel)
set_option maxRecDepth 20000 in
theorem gX6_priceFor_X6_sideIs : GoodIn wsX6_priceFor (wsV RX6 93 RX6 yX6_sideIs wsX6_sideIs) := goodIn_app (goodIn_of _ (by decide +kernel)) ggX6_priceFor_X6_sideIs
set_option maxRecDepth 20000 in
theorem ggX6_priceFor_X6_priceBy : GoodIn wsX6_priceFor wsX6_priceBy := goodIn_r _ [13, 1, 14, 15, 5, 16, 17, 18, 19, 20, 21, 22, 23, 24, 25, 26, 27, 28, 29, 30, 31, 32, 33, 34, 35, 36, 37, 38, 39, 40, 41] (by decide +kernel) (by decide +kernel)
set_option maxRecDepth 20000 in
theorem gX6_priceFor_X6_priceBy : GoodIn wsX6_priceFor (wsV RX6 103 RX6 yX6_priceBy wsX6_priceBy) := goodIn_app (goodIn_of _ (by decide +kernel)) ggX6_priceFor_X6_priceBy
theorem dX6_priceFor_0 : decode cX6_priceFor 0 = .ok (.aload_n 0, 1) := by decide +kernel
theorem dX6_priceFor_1 : decode cX6_priceFor 1 = .ok (.iload_n 2, 1) := by decide +kernel
theorem dX6_priceFor_2 : decode cX6_priceFor 2 = .ok (.iload_n 3, 1) := by decide +kernel
theorem dX6_priceFor_3 : decode cX6_priceFor 3 = .ok (.aload_n 0, 1) := by decide +kernel
theorem dX6_priceFor_4 : decode cX6_priceFor 4 = .ok (.iload_n 1, 1) := by decide +kernel
theorem dX6_priceFor_5 : decode cX6_priceFor 5 = .ok (.bipush 12, 2) := by decide +kernel
theorem dX6_priceFor_7 : decode cX6_priceFor 7 = .ok (.iload_n 2, 1) := by decide +kernel
theorem dX6_priceFor_8 : decode cX6_priceFor 8 = .ok (.iadd, 1) := by decide +kernel
theorem dX6_priceFor_9 : decode cX6_priceFor 9 = .ok (.invokevirtual 93, 3) := by decide +kernel
theorem dX6_priceFor_12 : decode cX6_priceFor 12 = .ok (.aload_n 0, 1) := by decide +kernel
theorem dX6_priceFor_13 : decode cX6_priceFor 13 = .ok (.getfield 9, 3) := by decide +kernel
theorem dX6_priceFor_16 : decode cX6_priceFor 16 = .ok (.iconst 1, 1) := by decide +kernel
theorem dX6_priceFor_17 : decode cX6_priceFor 17 = .ok (.iaload, 1) := by decide +kernel
theorem dX6_priceFor_18 : decode cX6_priceFor 18 = .ok (.invokevirtual 103, 3) := by decide +kernel
theorem dX6_priceFor_21 : decode cX6_priceFor 21 = .ok (.ireturn, 1) := by decide +kernel
set_option maxRecDepth 20000 in
theorem ggX6_valueFor_X6_sideIs : GoodIn wsX6_valueFor wsX6_sideIs := goodIn_r _ [5, 6, 7, 8, 4, 9, 24, 25, 26, 27, 28, 29, 30, 31, 32, 33, 34, 35, 36, 37, 38, 39, 40, 41, 42, 43, 44, 45] (by decide +kernel) (by decide +kernel)
set_option maxRecDepth 20000 in
theorem gX6_valueFor_X6_sideIs : GoodIn wsX6_valueFor (wsV RX6 93 RX6 yX6_sideIs wsX6_sideIs) := goodIn_app (goodIn_of _ (by decide +kernel)) ggX6_valueFor_X6_sideIs
set_option maxRecDepth 20000 in
theorem ggX6_valueFor_X6_priceFor : GoodIn wsX6_valueFor wsX6_priceFor := goodIn_r _ [13, 6, 1, 2, 3, 4, 5, 7, 8, 9, 14, 15, 16, 17, 18, 19, 20, 21, 22, 23, 24, 25, 26, 27, 28, 29, 30, 31, 32, 33, 34, 35, 36, 37, 38, 39, 40, 41, 42, 43, 44, 45] (by decide +kernel) (by decide +kernel)
set_option maxRecDepth 20000 in
theorem gX6_valueFor_X6_priceFor : GoodIn wsX6_valueFor (wsV RX6 107 RX6 yX6_priceFor wsX6_priceFor) := goodIn_app (goodIn_of _ (by decide +kernel)) ggX6_valueFor_X6_priceFor
theorem dX6_valueFor_0 : decode cX6_valueFor 0 = .ok (.iconst 0, 1) := by decide +kernel
theorem dX6_valueFor_1 : decode cX6_valueFor 1 = .ok (.istore_n 3, 1) := by decide +kernel
theorem dX6_valueFor_2 : decode cX6_valueFor 2 = .ok (.iconst 0, 1) := by decide +kernel
theorem dX6_valueFor_3 : decode cX6_valueFor 3 = .ok (.istore 4, 2) := by decide +kernel
theorem dX6_valueFor_5 : decode cX6_valueFor 5 = .ok (.iload 4, 2) := by decide +kernel
theorem dX6_valueFor_7 : decode cX6_valueFor 7 = .ok (.iconst 5, 1) := by decide +kernel
theorem dX6_valueFor_8 : decode cX6_valueFor 8 = .ok (.if_icmp .ge 29, 3) := by decide +kernel
theorem dX6_valueFor_11 : decode cX6_valueFor 11 = .ok (.iload_n 3, 1) := by decide +kernel
theorem dX6_valueFor_12 : decode cX6_valueFor 12 = .ok (.aload_n 0, 1) := by decide +kernel
theorem dX6_valueFor_13 : decode cX6_valueFor 13 = .ok (.iload_n 1, 1) := by decide +kernel
theorem dX6_valueFor_14 : decode cX6_valueFor 14 = .ok (.iload 4, 2) := by decide +kernel
theorem dX6_valueFor_16 : decode cX6_valueFor 16 = .ok (.aload_n 0, 1) := by decide +kernel
theorem dX6_valueFor_17 : decode cX6_valueFor 17 = .ok (.iload_n 2, 1) := by decide +kernel
theorem dX6_valueFor_18 : decode cX6_valueFor 18 = .ok (.bipush 7, 2) := by decide +kernel
theorem dX6_valueFor_20 : decode cX6_valueFor 20 = .ok (.iload 4, 2) := by decide +kernel
theorem dX6_valueFor_22 : decode cX6_valueFor 22 = .ok (.iadd, 1) := by decide +kernel
theorem dX6_valueFor_23 : decode cX6_valueFor 23 = .ok (.invokevirtual 93, 3) := by decide +kernel
theorem dX6_valueFor_26 : decode cX6_valueFor 26 = .ok (.invokevirtual 107, 3) := by decide +kernel
theorem dX6_valueFor_29 : decode cX6_valueFor 29 = .ok (.iadd, 1) := by decide +kernel
theorem dX6_valueFor_30 : decode cX6_valueFor 30 = .ok (.istore_n 3, 1) := by decide +kernel
theorem dX6_valueFor_31 : decode cX6_valueFor 31 = .ok (.iinc 4 1, 3) := by decide +kernel
theorem dX6_valueFor_34 : decode cX6_valueFor 34 = .ok (.goto (-29), 3) := by decide +kernel
theorem dX6_valueFor_37 : decode cX6_valueFor 37 = .ok (.iload_n 3, 1) := by decide +kernel
theorem dX6_valueFor_38 : decode cX6_valueFor 38 = .ok (.ireturn, 1) := by decide +kernel
set_option maxRecDepth 20000 in
theorem ggX6_allOf_X6_sideIs : GoodIn wsX6_allOf wsX6_sideIs := goodIn_r _ [5, 6, 7, 8, 4, 9, 24, 25, 26, 27, 28, 29, 30, 31, 32, 33, 34, 35, 36, 37, 38, 39, 40, 41, 42, 43, 44, 45] (by decide +kernel) (by decide +kernel)
set_option maxRecDepth 20000 in
theorem gX6_allOf_X6_sideIs : GoodIn wsX6_allOf (wsV RX6 93 RX6 yX6_sideIs wsX6_sideIs) := goodIn_app (goodIn_of _ (by decide +kernel)) ggX6_allOf_X6_sideIs
set_option maxRecDepth 20000 in
theorem ggX6_allOf_X6_priceFor : GoodIn wsX6_allOf wsX6_priceFor := goodIn_r _ [13, 6, 1, 2, 3, 4, 5, 7, 8, 9, 14, 15, 16, 17, 18, 19, 20, 21, 22, 23, 24, 25, 26, 27, 28, 29, 30, 31, 32, 33, 34, 35, 36, 37, 38, 39, 40, 41, 42, 43, 44, 45] (by decide +kernel) (by decide +kernel)
set_option maxRecDepth 20000 in
theorem gX6_allOf_X6_priceFor : GoodIn wsX6_allOf (wsV RX6 107 RX6 yX6_priceFor wsX6_priceFor) := goodIn_app (goodIn_of _ (by decide +kernel)) ggX6_allOf_X6_priceFor
theorem dX6_allOf_0 : decode cX6_allOf 0 = .ok (.iconst 0, 1) := by decide +kernel
theorem dX6_allOf_1 : decode cX6_allOf 1 = .ok (.istore_n 2, 1) := by decide +kernel
theorem dX6_allOf_2 : decode cX6_allOf 2 = .ok (.iconst 0, 1) := by decide +kernel
theorem dX6_allOf_3 : decode cX6_allOf 3 = .ok (.istore_n 3, 1) := by decide +kernel
theorem dX6_allOf_4 : decode cX6_allOf 4 = .ok (.iload_n 3, 1) := by decide +kernel
theorem dX6_allOf_5 : decode cX6_allOf 5 = .ok (.iconst 5, 1) := by decide +kernel
theorem dX6_allOf_6 : decode cX6_allOf 6 = .ok (.if_icmp .ge 36, 3) := by decide +kernel
theorem dX6_allOf_9 : decode cX6_allOf 9 = .ok (.iload_n 2, 1) := by decide +kernel
theorem dX6_allOf_10 : decode cX6_allOf 10 = .ok (.aload_n 0, 1) := by decide +kernel
theorem dX6_allOf_11 : decode cX6_allOf 11 = .ok (.iload_n 1, 1) := by decide +kernel
theorem dX6_allOf_12 : decode cX6_allOf 12 = .ok (.iload_n 3, 1) := by decide +kernel
theorem dX6_allOf_13 : decode cX6_allOf 13 = .ok (.aload_n 0, 1) := by decide +kernel
theorem dX6_allOf_14 : decode cX6_allOf 14 = .ok (.iload_n 1, 1) := by decide +kernel
theorem dX6_allOf_15 : decode cX6_allOf 15 = .ok (.iconst 2, 1) := by decide +kernel
theorem dX6_allOf_16 : decode cX6_allOf 16 = .ok (.iload_n 3, 1) := by decide +kernel
theorem dX6_allOf_17 : decode cX6_allOf 17 = .ok (.iadd, 1) := by decide +kernel
theorem dX6_allOf_18 : decode cX6_allOf 18 = .ok (.invokevirtual 93, 3) := by decide +kernel
theorem dX6_allOf_21 : decode cX6_allOf 21 = .ok (.aload_n 0, 1) := by decide +kernel
theorem dX6_allOf_22 : decode cX6_allOf 22 = .ok (.iload_n 1, 1) := by decide +kernel
theorem dX6_allOf_23 : decode cX6_allOf 23 = .ok (.bipush 7, 2) := by decide +kernel
theorem dX6_allOf_25 : decode cX6_allOf 25 = .ok (.iload_n 3, 1) := by decide +kernel
theorem dX6_allOf_26 : decode cX6_allOf 26 = .ok (.iadd, 1) := by decide +kernel
theorem dX6_allOf_27 : decode cX6_allOf 27 = .ok (.invokevirtual 93, 3) := by decide +kernel
theorem dX6_allOf_30 : decode cX6_allOf 30 = .ok (.iadd, 1) := by decide +kernel
theorem dX6_allOf_31 : decode cX6_allOf 31 = .ok (.invokevirtual 107, 3) := by decide +kernel
theorem dX6_allOf_34 : decode cX6_allOf 34 = .ok (.iadd, 1) := by decide +kernel
theorem dX6_allOf_35 : decode cX6_allOf 35 = .ok (.istore_n 2, 1) := by decide +kernel
theorem dX6_allOf_36 : decode cX6_allOf 36 = .ok (.iinc 3 1, 3) := by decide +kernel
theorem dX6_allOf_39 : decode cX6_allOf 39 = .ok (.goto (-35), 3) := by decide +kernel
theorem dX6_allOf_42 : decode cX6_allOf 42 = .ok (.iload_n 2, 1) := by decide +kernel
theorem dX6_allOf_43 : decode cX6_allOf 43 = .ok (.ireturn, 1) := by decide +kernel
theorem dX6_eatenOf_0 : decode cX6_eatenOf 0 = .ok (.aload_n 0, 1) := by decide +kernel
theorem dX6_eatenOf_1 : decode cX6_eatenOf 1 = .ok (.getfield 9, 3) := by decide +kernel
theorem dX6_eatenOf_4 : decode cX6_eatenOf 4 = .ok (.bipush 15, 2) := by decide +kernel
theorem dX6_eatenOf_6 : decode cX6_eatenOf 6 = .ok (.iload_n 1, 1) := by decide +kernel
theorem dX6_eatenOf_7 : decode cX6_eatenOf 7 = .ok (.iadd, 1) := by decide +kernel
theorem dX6_eatenOf_8 : decode cX6_eatenOf 8 = .ok (.iaload, 1) := by decide +kernel
theorem dX6_eatenOf_9 : decode cX6_eatenOf 9 = .ok (.istore_n 3, 1) := by decide +kernel
theorem dX6_eatenOf_10 : decode cX6_eatenOf 10 = .ok (.iload_n 3, 1) := by decide +kernel
theorem dX6_eatenOf_11 : decode cX6_eatenOf 11 = .ok (.iconst 3, 1) := by decide +kernel
theorem dX6_eatenOf_12 : decode cX6_eatenOf 12 = .ok (.if_icmp .ne 23, 3) := by decide +kernel
theorem dX6_eatenOf_15 : decode cX6_eatenOf 15 = .ok (.aload_n 0, 1) := by decide +kernel
theorem dX6_eatenOf_16 : decode cX6_eatenOf 16 = .ok (.getfield 9, 3) := by decide +kernel
theorem dX6_eatenOf_19 : decode cX6_eatenOf 19 = .ok (.iconst 1, 1) := by decide +kernel
theorem dX6_eatenOf_20 : decode cX6_eatenOf 20 = .ok (.iaload, 1) := by decide +kernel
theorem dX6_eatenOf_21 : decode cX6_eatenOf 21 = .ok (.iconst 4, 1) := by decide +kernel
theorem dX6_eatenOf_22 : decode cX6_eatenOf 22 = .ok (.if_icmp .le 7, 3) := by decide +kernel
theorem dX6_eatenOf_25 : decode cX6_eatenOf 25 = .ok (.iconst 0, 1) := by decide +kernel
theorem dX6_eatenOf_26 : decode cX6_eatenOf 26 = .ok (.goto 8, 3) := by decide +kernel
theorem dX6_eatenOf_29 : decode cX6_eatenOf 29 = .ok (.iload_n 2, 1) := by decide +kernel
theorem dX6_eatenOf_30 : decode cX6_eatenOf 30 = .ok (.iconst 2, 1) := by decide +kernel
theorem dX6_eatenOf_31 : decode cX6_eatenOf 31 = .ok (.invokestatic 111, 3) := by decide +kernel
theorem dX6_eatenOf_34 : decode cX6_eatenOf 34 = .ok (.ireturn, 1) := by decide +kernel
theorem dX6_eatenOf_35 : decode cX6_eatenOf 35 = .ok (.iload_n 3, 1) := by decide +kernel
theorem dX6_eatenOf_36 : decode cX6_eatenOf 36 = .ok (.iconst 1, 1) := by decide +kernel
theorem dX6_eatenOf_37 : decode cX6_eatenOf 37 = .ok (.if_icmp .ne 11, 3) := by decide +kernel
theorem dX6_eatenOf_40 : decode cX6_eatenOf 40 = .ok (.iload_n 2, 1) := by decide +kernel
theorem dX6_eatenOf_41 : decode cX6_eatenOf 41 = .ok (.iconst 1, 1) := by decide +kernel
theorem dX6_eatenOf_42 : decode cX6_eatenOf 42 = .ok (.invokestatic 111, 3) := by decide +kernel
theorem dX6_eatenOf_45 : decode cX6_eatenOf 45 = .ok (.goto 4, 3) := by decide +kernel
theorem dX6_eatenOf_48 : decode cX6_eatenOf 48 = .ok (.iconst 0, 1) := by decide +kernel
theorem dX6_eatenOf_49 : decode cX6_eatenOf 49 = .ok (.ireturn, 1) := by decide +kernel
set_option maxRecDepth 20000 in
theorem ggX6_price_X6_isSide : GoodIn wsX6_price wsX6_isSide := goodIn_r _ [5, 6, 7, 4, 8] (by decide +kernel) (by decide +kernel)
set_option maxRecDepth 20000 in
theorem gX6_price_X6_isSide : GoodIn wsX6_price (va_wsS RX6 87 yX6_isSide wsX6_isSide) := goodIn_app (goodIn_of _ (by decide +kernel)) ggX6_price_X6_isSide
set_option maxRecDepth 20000 in
theorem ggX6_price_X6_isThing : GoodIn wsX6_price wsX6_isThing := goodIn_r _ [11, 6, 7, 4, 8] (by decide +kernel) (by decide +kernel)
set_option maxRecDepth 20000 in
theorem gX6_price_X6_isThing : GoodIn wsX6_price (va_wsS RX6 73 yX6_isThing wsX6_isThing) := goodIn_app (goodIn_of _ (by decide +kernel)) ggX6_price_X6_isThing
set_option maxRecDepth 20000 in
theorem ggX6_price_X6_within : GoodIn wsX6_price wsX6_within := goodIn_r _ [8] (by decide +kernel) (by decide +kernel)
set_option maxRecDepth 20000 in
theorem gX6_price_X6_within : GoodIn wsX6_price (va_wsS RX6 69 yX6_within wsX6_within) := goodIn_app (goodIn_of _ (by decide +kernel)) ggX6_price_X6_within
set_option maxRecDepth 20000 in
theorem ggX6_price_X6_priceFor : GoodIn wsX6_price wsX6_priceFor := goodIn_r _ [15, 16, 17, 18, 19, 4, 20, 21, 22, 23, 24, 25, 26, 27, 28, 29, 30, 31, 32, 33, 39, 40, 41, 42, 43, 44, 45, 46, 47, 48, 49, 50, 51, 52, 53, 54, 55, 56, 57, 58, 59, 60] (by decide +kernel) (by decide +kernel)
set_option maxRecDepth 20000 in
theorem gX6_price_X6_priceFor : GoodIn wsX6_price (wsV RX6 107 RX6 yX6_priceFor wsX6_priceFor) := goodIn_app (goodIn_of _ (by decide +kernel)) ggX6_price_X6_priceFor
set_option maxRecDepth 20000 in
theorem ggX6_price_X6_finding : GoodIn wsX6_price wsX6_finding := goodIn_r _ [37, 38, 1, 39, 40, 41, 42, 43, 44, 45, 46, 47, 48, 49, 50, 51, 52, 53, 54, 55, 56, 57, 58, 59, 60] (by decide +kernel) (by decide +kernel)
set_option maxRecDepth 20000 in
theorem gX6_price_X6_finding : GoodIn wsX6_price (wsV RX6 83 RX6 yX6_finding wsX6_finding) := goodIn_app (goodIn_of _ (by decide +kernel)) ggX6_price_X6_finding
theorem dX6_price_0 : decode cX6_price 0 = .ok (.iload_n 1, 1) := by decide +kernel
theorem dX6_price_1 : decode cX6_price 1 = .ok (.invokestatic 87, 3) := by decide +kernel
theorem dX6_price_4 : decode cX6_price 4 = .ok (.ifCond .eq 30, 3) := by decide +kernel
theorem dX6_price_7 : decode cX6_price 7 = .ok (.iload_n 2, 1) := by decide +kernel
theorem dX6_price_8 : decode cX6_price 8 = .ok (.invokestatic 73, 3) := by decide +kernel
theorem dX6_price_11 : decode cX6_price 11 = .ok (.ifCond .eq 23, 3) := by decide +kernel
theorem dX6_price_14 : decode cX6_price 14 = .ok (.iload_n 3, 1) := by decide +kernel
theorem dX6_price_15 : decode cX6_price 15 = .ok (.iconst 0, 1) := by decide +kernel
theorem dX6_price_16 : decode cX6_price 16 = .ok (.bipush 99, 2) := by decide +kernel
theorem dX6_price_18 : decode cX6_price 18 = .ok (.invokestatic 69, 3) := by decide +kernel
theorem dX6_price_21 : decode cX6_price 21 = .ok (.ifCond .eq 13, 3) := by decide +kernel
theorem dX6_price_24 : decode cX6_price 24 = .ok (.aload_n 0, 1) := by decide +kernel
theorem dX6_price_25 : decode cX6_price 25 = .ok (.iload_n 1, 1) := by decide +kernel
theorem dX6_price_26 : decode cX6_price 26 = .ok (.iload_n 2, 1) := by decide +kernel
theorem dX6_price_27 : decode cX6_price 27 = .ok (.iload_n 3, 1) := by decide +kernel
theorem dX6_price_28 : decode cX6_price 28 = .ok (.invokevirtual 107, 3) := by decide +kernel
theorem dX6_price_31 : decode cX6_price 31 = .ok (.goto 9, 3) := by decide +kernel
theorem dX6_price_34 : decode cX6_price 34 = .ok (.aload_n 0, 1) := by decide +kernel
theorem dX6_price_35 : decode cX6_price 35 = .ok (.ldc 64, 2) := by decide +kernel
theorem dX6_price_37 : decode cX6_price 37 = .ok (.invokevirtual 83, 3) := by decide +kernel
theorem dX6_price_40 : decode cX6_price 40 = .ok (.ireturn, 1) := by decide +kernel
set_option maxRecDepth 20000 in
theorem ggX6_value_X6_isSide : GoodIn wsX6_value wsX6_isSide := goodIn_r _ [5, 6, 7, 4, 8] (by decide +kernel) (by decide +kernel)
set_option maxRecDepth 20000 in
theorem gX6_value_X6_isSide : GoodIn wsX6_value (va_wsS RX6 87 yX6_isSide wsX6_isSide) := goodIn_app (goodIn_of _ (by decide +kernel)) ggX6_value_X6_isSide
set_option maxRecDepth 20000 in
theorem ggX6_value_X6_valueFor : GoodIn wsX6_value wsX6_valueFor := goodIn_r _ [12, 13, 14, 15, 4, 16, 17, 18, 19, 20, 21, 22, 23, 24, 25, 26, 27, 28, 29, 30, 31, 32, 33, 34, 40, 41, 42, 43, 44, 45, 46, 47, 48, 49, 50, 51, 52, 53, 54, 55, 56, 57, 58, 59, 60, 61] (by decide +kernel) (by decide +kernel)
set_option maxRecDepth 20000 in
theorem gX6_value_X6_valueFor : GoodIn wsX6_value (wsV RX6 116 RX6 yX6_valueFor wsX6_valueFor) := goodIn_app (goodIn_of _ (by decide +kernel)) ggX6_value_X6_valueFor
set_option maxRecDepth 20000 in
theorem ggX6_value_X6_finding : GoodIn wsX6_value wsX6_finding := goodIn_r _ [38, 39, 1, 40, 41, 42, 43, 44, 45, 46, 47, 48, 49, 50, 51, 52, 53, 54, 55, 56, 57, 58, 59, 60, 61] (by decide +kernel) (by decide +kernel)
set_option maxRecDepth 20000 in
theorem gX6_value_X6_finding : GoodIn wsX6_value (wsV RX6 83 RX6 yX6_finding wsX6_finding) := goodIn_app (goodIn_of _ (by decide +kernel)) ggX6_value_X6_finding
theorem dX6_value_0 : decode cX6_value 0 = .ok (.iload_n 1, 1) := by decide +kernel
theorem dX6_value_1 : decode cX6_value 1 = .ok (.invokestatic 87, 3) := by decide +kernel
theorem dX6_value_4 : decode cX6_value 4 = .ok (.ifCond .eq 19, 3) := by decide +kernel
theorem dX6_value_7 : decode cX6_value 7 = .ok (.iload_n 2, 1) := by decide +kernel
theorem dX6_value_8 : decode cX6_value 8 = .ok (.invokestatic 87, 3) := by decide +kernel
theorem dX6_value_11 : decode cX6_value 11 = .ok (.ifCond .eq 12, 3) := by decide +kernel
theorem dX6_value_14 : decode cX6_value 14 = .ok (.aload_n 0, 1) := by decide +kernel
theorem dX6_value_15 : decode cX6_value 15 = .ok (.iload_n 1, 1) := by decide +kernel
theorem dX6_value_16 : decode cX6_value 16 = .ok (.iload_n 2, 1) := by decide +kernel
theorem dX6_value_17 : decode cX6_value 17 = .ok (.invokevirtual 116, 3) := by decide +kernel
theorem dX6_value_20 : decode cX6_value 20 = .ok (.goto 9, 3) := by decide +kernel
theorem dX6_value_23 : decode cX6_value 23 = .ok (.aload_n 0, 1) := by decide +kernel
theorem dX6_value_24 : decode cX6_value 24 = .ok (.ldc 64, 2) := by decide +kernel
theorem dX6_value_26 : decode cX6_value 26 = .ok (.invokevirtual 83, 3) := by decide +kernel
theorem dX6_value_29 : decode cX6_value 29 = .ok (.ireturn, 1) := by decide +kernel
set_option maxRecDepth 20000 in
theorem ggX6_eaten_X6_isThing : GoodIn wsX6_eaten wsX6_isThing := goodIn_r _ [5, 6, 7, 4, 8] (by decide +kernel) (by decide +kernel)
set_option maxRecDepth 20000 in
theorem gX6_eaten_X6_isThing : GoodIn wsX6_eaten (va_wsS RX6 73 yX6_isThing wsX6_isThing) := goodIn_app (goodIn_of _ (by decide +kernel)) ggX6_eaten_X6_isThing
set_option maxRecDepth 20000 in
theorem ggX6_eaten_X6_within : GoodIn wsX6_eaten wsX6_within := goodIn_r _ [8] (by decide +kernel) (by decide +kernel)
set_option maxRecDepth 20000 in
theorem gX6_eaten_X6_within : GoodIn wsX6_eaten (va_wsS RX6 69 yX6_within wsX6_within) := goodIn_app (goodIn_of _ (by decide +kernel)) ggX6_eaten_X6_within
set_option maxRecDepth 20000 in
theorem ggX6_eaten_X6_eatenOf : GoodIn wsX6_eaten wsX6_eatenOf := goodIn_r _ [12, 13, 14, 15, 16, 17, 23, 24, 25, 26, 27, 28, 29, 30, 31, 32, 33, 34, 35, 36, 37, 38, 39, 40, 41, 42, 43, 44] (by decide +kernel) (by decide +kernel)
set_option maxRecDepth 20000 in
theorem gX6_eaten_X6_eatenOf : GoodIn wsX6_eaten (wsV RX6 119 RX6 yX6_eatenOf wsX6_eatenOf) := goodIn_app (goodIn_of _ (by decide +kernel)) ggX6_eaten_X6_eatenOf
set_option maxRecDepth 20000 in
theorem ggX6_eaten_X6_finding : GoodIn wsX6_eaten wsX6_finding := goodIn_r _ [21, 22, 1, 23, 24, 25, 26, 27, 28, 29, 30, 31, 32, 33, 34, 35, 36, 37, 38, 39, 40, 41, 42, 43, 44] (by decide +kernel) (by decide +kernel)
set_option maxRecDepth 20000 in
theorem gX6_eaten_X6_finding : GoodIn wsX6_eaten (wsV RX6 83 RX6 yX6_finding wsX6_finding) := goodIn_app (goodIn_of _ (by decide +kernel)) ggX6_eaten_X6_finding
theorem dX6_eaten_0 : decode cX6_eaten 0 = .ok (.iload_n 1, 1) := by decide +kernel
theorem dX6_eaten_1 : decode cX6_eaten 1 = .ok (.invokestatic 73, 3) := by decide +kernel
theorem dX6_eaten_4 : decode cX6_eaten 4 = .ok (.ifCond .eq 22, 3) := by decide +kernel
theorem dX6_eaten_7 : decode cX6_eaten 7 = .ok (.iload_n 2, 1) := by decide +kernel
theorem dX6_eaten_8 : decode cX6_eaten 8 = .ok (.iconst 0, 1) := by decide +kernel
theorem dX6_eaten_9 : decode cX6_eaten 9 = .ok (.bipush 99, 2) := by decide +kernel
theorem dX6_eaten_11 : decode cX6_eaten 11 = .ok (.invokestatic 69, 3) := by decide +kernel
theorem dX6_eaten_14 : decode cX6_eaten 14 = .ok (.ifCond .eq 12, 3) := by decide +kernel
theorem dX6_eaten_17 : decode cX6_eaten 17 = .ok (.aload_n 0, 1) := by decide +kernel
theorem dX6_eaten_18 : decode cX6_eaten 18 = .ok (.iload_n 1, 1) := by decide +kernel
theorem dX6_eaten_19 : decode cX6_eaten 19 = .ok (.iload_n 2, 1) := by decide +kernel
theorem dX6_eaten_20 : decode cX6_eaten 20 = .ok (.invokevirtual 119, 3) := by decide +kernel
theorem dX6_eaten_23 : decode cX6_eaten 23 = .ok (.goto 9, 3) := by decide +kernel
theorem dX6_eaten_26 : decode cX6_eaten 26 = .ok (.aload_n 0, 1) := by decide +kernel
theorem dX6_eaten_27 : decode cX6_eaten 27 = .ok (.ldc 64, 2) := by decide +kernel
theorem dX6_eaten_29 : decode cX6_eaten 29 = .ok (.invokevirtual 83, 3) := by decide +kernel
theorem dX6_eaten_32 : decode cX6_eaten 32 = .ok (.ireturn, 1) := by decide +kernel
set_option maxRecDepth 20000 in
theorem ggX6_sum_X6_sideIs : GoodIn wsX6_sum wsX6_sideIs := goodIn_r _ [5, 6, 7, 8, 4, 9, 10, 11, 12, 13, 14, 15, 16, 17, 18, 19, 20, 21, 22, 23, 24, 25, 26, 27, 28, 29, 30, 31] (by decide +kernel) (by decide +kernel)
set_option maxRecDepth 20000 in
theorem gX6_sum_X6_sideIs : GoodIn wsX6_sum (wsV RX6 93 RX6 yX6_sideIs wsX6_sideIs) := goodIn_app (goodIn_of _ (by decide +kernel)) ggX6_sum_X6_sideIs
theorem dX6_sum_0 : decode cX6_sum 0 = .ok (.iconst 0, 1) := by decide +kernel
theorem dX6_sum_1 : decode cX6_sum 1 = .ok (.istore_n 3, 1) := by decide +kernel
theorem dX6_sum_2 : decode cX6_sum 2 = .ok (.iconst 0, 1) := by decide +kernel
theorem dX6_sum_3 : decode cX6_sum 3 = .ok (.istore 4, 2) := by decide +kernel
theorem dX6_sum_5 : decode cX6_sum 5 = .ok (.iload 4, 2) := by decide +kernel
theorem dX6_sum_7 : decode cX6_sum 7 = .ok (.iconst 5, 1) := by decide +kernel
theorem dX6_sum_8 : decode cX6_sum 8 = .ok (.if_icmp .ge 21, 3) := by decide +kernel
theorem dX6_sum_11 : decode cX6_sum 11 = .ok (.iload_n 3, 1) := by decide +kernel
theorem dX6_sum_12 : decode cX6_sum 12 = .ok (.aload_n 0, 1) := by decide +kernel
theorem dX6_sum_13 : decode cX6_sum 13 = .ok (.iload_n 1, 1) := by decide +kernel
theorem dX6_sum_14 : decode cX6_sum 14 = .ok (.iload_n 2, 1) := by decide +kernel
theorem dX6_sum_15 : decode cX6_sum 15 = .ok (.iload 4, 2) := by decide +kernel
theorem dX6_sum_17 : decode cX6_sum 17 = .ok (.iadd, 1) := by decide +kernel
theorem dX6_sum_18 : decode cX6_sum 18 = .ok (.invokevirtual 93, 3) := by decide +kernel
theorem dX6_sum_21 : decode cX6_sum 21 = .ok (.iadd, 1) := by decide +kernel
theorem dX6_sum_22 : decode cX6_sum 22 = .ok (.istore_n 3, 1) := by decide +kernel
theorem dX6_sum_23 : decode cX6_sum 23 = .ok (.iinc 4 1, 3) := by decide +kernel
theorem dX6_sum_26 : decode cX6_sum 26 = .ok (.goto (-21), 3) := by decide +kernel
theorem dX6_sum_29 : decode cX6_sum 29 = .ok (.iload_n 3, 1) := by decide +kernel
theorem dX6_sum_30 : decode cX6_sum 30 = .ok (.ireturn, 1) := by decide +kernel
set_option maxRecDepth 20000 in
theorem ggX6_isEmpty_X6_sum : GoodIn wsX6_isEmpty wsX6_sum := goodIn_r _ [5, 6, 7, 8, 4, 9, 10, 11, 12, 13, 14, 15, 16, 17, 18, 19, 20, 21, 22, 23, 24, 25, 26, 27, 28, 29, 30, 31, 32, 33, 34, 35] (by decide +kernel) (by decide +kernel)
set_option maxRecDepth 20000 in
theorem gX6_isEmpty_X6_sum : GoodIn wsX6_isEmpty (wsV RX6 122 RX6 yX6_sum wsX6_sum) := goodIn_app (goodIn_of _ (by decide +kernel)) ggX6_isEmpty_X6_sum
theorem dX6_isEmpty_0 : decode cX6_isEmpty 0 = .ok (.aload_n 0, 1) := by decide +kernel
theorem dX6_isEmpty_1 : decode cX6_isEmpty 1 = .ok (.iload_n 1, 1) := by decide +kernel
theorem dX6_isEmpty_2 : decode cX6_isEmpty 2 = .ok (.bipush 7, 2) := by decide +kernel
theorem dX6_isEmpty_4 : decode cX6_isEmpty 4 = .ok (.invokevirtual 122, 3) := by decide +kernel
theorem dX6_isEmpty_7 : decode cX6_isEmpty 7 = .ok (.ifCond .ne 7, 3) := by decide +kernel
theorem dX6_isEmpty_10 : decode cX6_isEmpty 10 = .ok (.iconst 1, 1) := by decide +kernel
theorem dX6_isEmpty_11 : decode cX6_isEmpty 11 = .ok (.goto 4, 3) := by decide +kernel
theorem dX6_isEmpty_14 : decode cX6_isEmpty 14 = .ok (.iconst 0, 1) := by decide +kernel
theorem dX6_isEmpty_15 : decode cX6_isEmpty 15 = .ok (.ireturn, 1) := by decide +kernel
set_option maxRecDepth 20000 in
theorem ggX6_mayLay_X6_sideIs : GoodIn wsX6_mayLay wsX6_sideIs := goodIn_r _ [5, 6, 7, 8, 4, 9, 10, 11, 12, 13, 14, 15, 16, 17, 18, 19, 20, 21, 22, 23, 24, 25, 26, 27, 28, 29, 30, 31] (by decide +kernel) (by decide +kernel)
set_option maxRecDepth 20000 in
theorem gX6_mayLay_X6_sideIs : GoodIn wsX6_mayLay (wsV RX6 93 RX6 yX6_sideIs wsX6_sideIs) := goodIn_app (goodIn_of _ (by decide +kernel)) ggX6_mayLay_X6_sideIs
theorem dX6_mayLay_0 : decode cX6_mayLay 0 = .ok (.aload_n 0, 1) := by decide +kernel
theorem dX6_mayLay_1 : decode cX6_mayLay 1 = .ok (.iload_n 1, 1) := by decide +kernel
theorem dX6_mayLay_2 : decode cX6_mayLay 2 = .ok (.iconst 2, 1) := by decide +kernel
theorem dX6_mayLay_3 : decode cX6_mayLay 3 = .ok (.iload_n 2, 1) := by decide +kernel
theorem dX6_mayLay_4 : decode cX6_mayLay 4 = .ok (.iadd, 1) := by decide +kernel
theorem dX6_mayLay_5 : decode cX6_mayLay 5 = .ok (.invokevirtual 93, 3) := by decide +kernel
theorem dX6_mayLay_8 : decode cX6_mayLay 8 = .ok (.iload_n 3, 1) := by decide +kernel
theorem dX6_mayLay_9 : decode cX6_mayLay 9 = .ok (.if_icmp .lt 32, 3) := by decide +kernel
theorem dX6_mayLay_12 : decode cX6_mayLay 12 = .ok (.aload_n 0, 1) := by decide +kernel
theorem dX6_mayLay_13 : decode cX6_mayLay 13 = .ok (.iload_n 1, 1) := by decide +kernel
theorem dX6_mayLay_14 : decode cX6_mayLay 14 = .ok (.iconst 1, 1) := by decide +kernel
theorem dX6_mayLay_15 : decode cX6_mayLay 15 = .ok (.invokevirtual 93, 3) := by decide +kernel
theorem dX6_mayLay_18 : decode cX6_mayLay 18 = .ok (.ifCond .le 23, 3) := by decide +kernel
theorem dX6_mayLay_21 : decode cX6_mayLay 21 = .ok (.aload_n 0, 1) := by decide +kernel
theorem dX6_mayLay_22 : decode cX6_mayLay 22 = .ok (.iload_n 1, 1) := by decide +kernel
theorem dX6_mayLay_23 : decode cX6_mayLay 23 = .ok (.bipush 7, 2) := by decide +kernel
theorem dX6_mayLay_25 : decode cX6_mayLay 25 = .ok (.iload_n 2, 1) := by decide +kernel
theorem dX6_mayLay_26 : decode cX6_mayLay 26 = .ok (.iadd, 1) := by decide +kernel
theorem dX6_mayLay_27 : decode cX6_mayLay 27 = .ok (.invokevirtual 93, 3) := by decide +kernel
theorem dX6_mayLay_30 : decode cX6_mayLay 30 = .ok (.iload_n 3, 1) := by decide +kernel
theorem dX6_mayLay_31 : decode cX6_mayLay 31 = .ok (.iadd, 1) := by decide +kernel
theorem dX6_mayLay_32 : decode cX6_mayLay 32 = .ok (.bipush 99, 2) := by decide +kernel
theorem dX6_mayLay_34 : decode cX6_mayLay 34 = .ok (.if_icmp .gt 7, 3) := by decide +kernel
theorem dX6_mayLay_37 : decode cX6_mayLay 37 = .ok (.iconst 1, 1) := by decide +kernel
theorem dX6_mayLay_38 : decode cX6_mayLay 38 = .ok (.goto 4, 3) := by decide +kernel
theorem dX6_mayLay_41 : decode cX6_mayLay 41 = .ok (.iconst 0, 1) := by decide +kernel
theorem dX6_mayLay_42 : decode cX6_mayLay 42 = .ok (.ireturn, 1) := by decide +kernel
set_option maxRecDepth 20000 in
theorem ggX6_laid_X6_at : GoodIn wsX6_laid wsX6_at := goodIn_r _ [5] (by decide +kernel) (by decide +kernel)
set_option maxRecDepth 20000 in
theorem gX6_laid_X6_at : GoodIn wsX6_laid (va_wsS RX6 60 yX6_at wsX6_at) := goodIn_app (goodIn_of _ (by decide +kernel)) ggX6_laid_X6_at
set_option maxRecDepth 20000 in
theorem ggX6_laid_X6_sideIs : GoodIn wsX6_laid wsX6_sideIs := goodIn_r _ [9, 1, 2, 3, 4, 5, 10, 11, 12, 13, 14, 15, 16, 17, 18, 19, 20, 21, 22, 23, 24, 25, 26, 27, 28, 29, 30, 31] (by decide +kernel) (by decide +kernel)
set_option maxRecDepth 20000 in
theorem gX6_laid_X6_sideIs : GoodIn wsX6_laid (wsV RX6 93 RX6 yX6_sideIs wsX6_sideIs) := goodIn_app (goodIn_of _ (by decide +kernel)) ggX6_laid_X6_sideIs
theorem dX6_laid_0 : decode cX6_laid 0 = .ok (.aload_n 0, 1) := by decide +kernel
theorem dX6_laid_1 : decode cX6_laid 1 = .ok (.getfield 9, 3) := by decide +kernel
theorem dX6_laid_4 : decode cX6_laid 4 = .ok (.iload_n 1, 1) := by decide +kernel
theorem dX6_laid_5 : decode cX6_laid 5 = .ok (.iconst 2, 1) := by decide +kernel
theorem dX6_laid_6 : decode cX6_laid 6 = .ok (.iload_n 2, 1) := by decide +kernel
theorem dX6_laid_7 : decode cX6_laid 7 = .ok (.iadd, 1) := by decide +kernel
theorem dX6_laid_8 : decode cX6_laid 8 = .ok (.invokestatic 60, 3) := by decide +kernel
theorem dX6_laid_11 : decode cX6_laid 11 = .ok (.dup2, 1) := by decide +kernel
theorem dX6_laid_12 : decode cX6_laid 12 = .ok (.iaload, 1) := by decide +kernel
theorem dX6_laid_13 : decode cX6_laid 13 = .ok (.iload_n 3, 1) := by decide +kernel
theorem dX6_laid_14 : decode cX6_laid 14 = .ok (.isub, 1) := by decide +kernel
theorem dX6_laid_15 : decode cX6_laid 15 = .ok (.iastore, 1) := by decide +kernel
theorem dX6_laid_16 : decode cX6_laid 16 = .ok (.aload_n 0, 1) := by decide +kernel
theorem dX6_laid_17 : decode cX6_laid 17 = .ok (.getfield 9, 3) := by decide +kernel
theorem dX6_laid_20 : decode cX6_laid 20 = .ok (.iload_n 1, 1) := by decide +kernel
theorem dX6_laid_21 : decode cX6_laid 21 = .ok (.bipush 7, 2) := by decide +kernel
theorem dX6_laid_23 : decode cX6_laid 23 = .ok (.iload_n 2, 1) := by decide +kernel
theorem dX6_laid_24 : decode cX6_laid 24 = .ok (.iadd, 1) := by decide +kernel
theorem dX6_laid_25 : decode cX6_laid 25 = .ok (.invokestatic 60, 3) := by decide +kernel
theorem dX6_laid_28 : decode cX6_laid 28 = .ok (.dup2, 1) := by decide +kernel
theorem dX6_laid_29 : decode cX6_laid 29 = .ok (.iaload, 1) := by decide +kernel
theorem dX6_laid_30 : decode cX6_laid 30 = .ok (.iload_n 3, 1) := by decide +kernel
theorem dX6_laid_31 : decode cX6_laid 31 = .ok (.iadd, 1) := by decide +kernel
theorem dX6_laid_32 : decode cX6_laid 32 = .ok (.iastore, 1) := by decide +kernel
theorem dX6_laid_33 : decode cX6_laid 33 = .ok (.aload_n 0, 1) := by decide +kernel
theorem dX6_laid_34 : decode cX6_laid 34 = .ok (.iload_n 1, 1) := by decide +kernel
theorem dX6_laid_35 : decode cX6_laid 35 = .ok (.bipush 7, 2) := by decide +kernel
theorem dX6_laid_37 : decode cX6_laid 37 = .ok (.iload_n 2, 1) := by decide +kernel
theorem dX6_laid_38 : decode cX6_laid 38 = .ok (.iadd, 1) := by decide +kernel
theorem dX6_laid_39 : decode cX6_laid 39 = .ok (.invokevirtual 93, 3) := by decide +kernel
theorem dX6_laid_42 : decode cX6_laid 42 = .ok (.ireturn, 1) := by decide +kernel
set_option maxRecDepth 20000 in
theorem ggX6_areGood_X6_isSide : GoodIn wsX6_areGood wsX6_isSide := goodIn_r _ [4, 5, 6, 3, 7] (by decide +kernel) (by decide +kernel)
set_option maxRecDepth 20000 in
theorem gX6_areGood_X6_isSide : GoodIn wsX6_areGood (va_wsS RX6 87 yX6_isSide wsX6_isSide) := goodIn_app (goodIn_of _ (by decide +kernel)) ggX6_areGood_X6_isSide
set_option maxRecDepth 20000 in
theorem ggX6_areGood_X6_isThing : GoodIn wsX6_areGood wsX6_isThing := goodIn_r _ [10, 5, 6, 3, 7] (by decide +kernel) (by decide +kernel)
set_option maxRecDepth 20000 in
theorem gX6_areGood_X6_isThing : GoodIn wsX6_areGood (va_wsS RX6 73 yX6_isThing wsX6_isThing) := goodIn_app (goodIn_of _ (by decide +kernel)) ggX6_areGood_X6_isThing
set_option maxRecDepth 20000 in
theorem ggX6_areGood_X6_within : GoodIn wsX6_areGood wsX6_within := goodIn_r _ [7] (by decide +kernel) (by decide +kernel)
set_option maxRecDepth 20000 in
theorem gX6_areGood_X6_within : GoodIn wsX6_areGood (va_wsS RX6 69 yX6_within wsX6_within) := goodIn_app (goodIn_of _ (by decide +kernel)) ggX6_areGood_X6_within
theorem dX6_areGood_0 : decode cX6_areGood 0 = .ok (.iload_n 0, 1) := by decide +kernel
theorem dX6_areGood_1 : decode cX6_areGood 1 = .ok (.invokestatic 87, 3) := by decide +kernel
theorem dX6_areGood_4 : decode cX6_areGood 4 = .ok (.ifCond .eq 24, 3) := by decide +kernel
theorem dX6_areGood_7 : decode cX6_areGood 7 = .ok (.iload_n 1, 1) := by decide +kernel
theorem dX6_areGood_8 : decode cX6_areGood 8 = .ok (.invokestatic 73, 3) := by decide +kernel
theorem dX6_areGood_11 : decode cX6_areGood 11 = .ok (.ifCond .eq 17, 3) := by decide +kernel
theorem dX6_areGood_14 : decode cX6_areGood 14 = .ok (.iload_n 2, 1) := by decide +kernel
theorem dX6_areGood_15 : decode cX6_areGood 15 = .ok (.iconst 1, 1) := by decide +kernel
theorem dX6_areGood_16 : decode cX6_areGood 16 = .ok (.bipush 99, 2) := by decide +kernel
theorem dX6_areGood_18 : decode cX6_areGood 18 = .ok (.invokestatic 69, 3) := by decide +kernel
theorem dX6_areGood_21 : decode cX6_areGood 21 = .ok (.ifCond .eq 7, 3) := by decide +kernel
theorem dX6_areGood_24 : decode cX6_areGood 24 = .ok (.iconst 1, 1) := by decide +kernel
theorem dX6_areGood_25 : decode cX6_areGood 25 = .ok (.goto 4, 3) := by decide +kernel
theorem dX6_areGood_28 : decode cX6_areGood 28 = .ok (.iconst 0, 1) := by decide +kernel
theorem dX6_areGood_29 : decode cX6_areGood 29 = .ok (.ireturn, 1) := by decide +kernel
set_option maxRecDepth 20000 in
theorem ggX6_lay_X6_areGood : GoodIn wsX6_lay wsX6_areGood := goodIn_r _ [6, 7, 8, 5, 9, 10, 11, 12, 13, 14, 15] (by decide +kernel) (by decide +kernel)
set_option maxRecDepth 20000 in
theorem gX6_lay_X6_areGood : GoodIn wsX6_lay (va_wsS RX6 125 yX6_areGood wsX6_areGood) := goodIn_app (goodIn_of _ (by decide +kernel)) ggX6_lay_X6_areGood
set_option maxRecDepth 20000 in
theorem ggX6_lay_X6_finding : GoodIn wsX6_lay wsX6_finding := goodIn_r _ [19, 20, 1, 37, 38, 39, 40, 41, 42, 43, 44, 45, 46, 47, 48, 49, 50, 51, 52, 53, 54, 55, 56, 57, 58] (by decide +kernel) (by decide +kernel)
set_option maxRecDepth 20000 in
theorem gX6_lay_X6_finding : GoodIn wsX6_lay (wsV RX6 83 RX6 yX6_finding wsX6_finding) := goodIn_app (goodIn_of _ (by decide +kernel)) ggX6_lay_X6_finding
set_option maxRecDepth 20000 in
theorem ggX6_lay_X6_mayLay : GoodIn wsX6_lay wsX6_mayLay := goodIn_r _ [24, 25, 26, 27, 5, 28, 29, 30, 31, 32, 37, 38, 39, 40, 41, 42, 43, 44, 45, 46, 47, 48, 49, 50, 51, 52, 53, 54, 55, 56, 57, 58] (by decide +kernel) (by decide +kernel)
set_option maxRecDepth 20000 in
theorem gX6_lay_X6_mayLay : GoodIn wsX6_lay (wsV RX6 128 RX6 yX6_mayLay wsX6_mayLay) := goodIn_app (goodIn_of _ (by decide +kernel)) ggX6_lay_X6_mayLay
set_option maxRecDepth 20000 in
theorem ggX6_lay_X6_laid : GoodIn wsX6_lay wsX6_laid := goodIn_r _ [36, 29, 30, 31, 5, 32, 25, 26, 27, 28, 37, 38, 39, 40, 41, 42, 43, 44, 45, 46, 47, 48, 49, 50, 51, 52, 53, 54, 55, 56, 57, 58] (by decide +kernel) (by decide +kernel)
set_option maxRecDepth 20000 in
theorem gX6_lay_X6_laid : GoodIn wsX6_lay (wsV RX6 131 RX6 yX6_laid wsX6_laid) := goodIn_app (goodIn_of _ (by decide +kernel)) ggX6_lay_X6_laid
theorem dX6_lay_0 : decode cX6_lay 0 = .ok (.iload_n 1, 1) := by decide +kernel
theorem dX6_lay_1 : decode cX6_lay 1 = .ok (.iload_n 2, 1) := by decide +kernel
theorem dX6_lay_2 : decode cX6_lay 2 = .ok (.iload_n 3, 1) := by decide +kernel
theorem dX6_lay_3 : decode cX6_lay 3 = .ok (.invokestatic 125, 3) := by decide +kernel
theorem dX6_lay_6 : decode cX6_lay 6 = .ok (.ifCond .ne 10, 3) := by decide +kernel
theorem dX6_lay_9 : decode cX6_lay 9 = .ok (.aload_n 0, 1) := by decide +kernel
theorem dX6_lay_10 : decode cX6_lay 10 = .ok (.ldc 64, 2) := by decide +kernel
theorem dX6_lay_12 : decode cX6_lay 12 = .ok (.invokevirtual 83, 3) := by decide +kernel
theorem dX6_lay_15 : decode cX6_lay 15 = .ok (.ireturn, 1) := by decide +kernel
theorem dX6_lay_16 : decode cX6_lay 16 = .ok (.aload_n 0, 1) := by decide +kernel
theorem dX6_lay_17 : decode cX6_lay 17 = .ok (.iload_n 1, 1) := by decide +kernel
theorem dX6_lay_18 : decode cX6_lay 18 = .ok (.iload_n 2, 1) := by decide +kernel
theorem dX6_lay_19 : decode cX6_lay 19 = .ok (.iload_n 3, 1) := by decide +kernel
theorem dX6_lay_20 : decode cX6_lay 20 = .ok (.invokevirtual 128, 3) := by decide +kernel
theorem dX6_lay_23 : decode cX6_lay 23 = .ok (.ifCond .eq 13, 3) := by decide +kernel
theorem dX6_lay_26 : decode cX6_lay 26 = .ok (.aload_n 0, 1) := by decide +kernel
theorem dX6_lay_27 : decode cX6_lay 27 = .ok (.iload_n 1, 1) := by decide +kernel
theorem dX6_lay_28 : decode cX6_lay 28 = .ok (.iload_n 2, 1) := by decide +kernel
theorem dX6_lay_29 : decode cX6_lay 29 = .ok (.iload_n 3, 1) := by decide +kernel
theorem dX6_lay_30 : decode cX6_lay 30 = .ok (.invokevirtual 131, 3) := by decide +kernel
theorem dX6_lay_33 : decode cX6_lay 33 = .ok (.goto 9, 3) := by decide +kernel
theorem dX6_lay_36 : decode cX6_lay 36 = .ok (.aload_n 0, 1) := by decide +kernel
theorem dX6_lay_37 : decode cX6_lay 37 = .ok (.ldc 134, 2) := by decide +kernel
theorem dX6_lay_39 : decode cX6_lay 39 = .ok (.invokevirtual 83, 3) := by decide +kernel
theorem dX6_lay_42 : decode cX6_lay 42 = .ok (.ireturn, 1) := by decide +kernel
set_option maxRecDepth 20000 in
theorem ggX6_back_X6_areGood : GoodIn wsX6_back wsX6_areGood := goodIn_r _ [6, 7, 8, 5, 9, 10, 11, 12, 13, 14, 15] (by decide +kernel) (by decide +kernel)
set_option maxRecDepth 20000 in
theorem gX6_back_X6_areGood : GoodIn wsX6_back (va_wsS RX6 125 yX6_areGood wsX6_areGood) := goodIn_app (goodIn_of _ (by decide +kernel)) ggX6_back_X6_areGood
set_option maxRecDepth 20000 in
theorem ggX6_back_X6_finding : GoodIn wsX6_back wsX6_finding := goodIn_r _ [19, 20, 1, 33, 34, 35, 36, 37, 38, 39, 40, 41, 42, 43, 44, 45, 46, 47, 48, 49, 50, 51, 52, 53, 54] (by decide +kernel) (by decide +kernel)
set_option maxRecDepth 20000 in
theorem gX6_back_X6_finding : GoodIn wsX6_back (wsV RX6 83 RX6 yX6_finding wsX6_finding) := goodIn_app (goodIn_of _ (by decide +kernel)) ggX6_back_X6_finding
set_option maxRecDepth 20000 in
theorem ggX6_back_X6_sideIs : GoodIn wsX6_back wsX6_sideIs := goodIn_r _ [24, 25, 26, 27, 5, 28, 33, 34, 35, 36, 37, 38, 39, 40, 41, 42, 43, 44, 45, 46, 47, 48, 49, 50, 51, 52, 53, 54] (by decide +kernel) (by decide +kernel)
set_option maxRecDepth 20000 in
theorem gX6_back_X6_sideIs : GoodIn wsX6_back (wsV RX6 93 RX6 yX6_sideIs wsX6_sideIs) := goodIn_app (goodIn_of _ (by decide +kernel)) ggX6_back_X6_sideIs
set_option maxRecDepth 20000 in
theorem ggX6_back_X6_laid : GoodIn wsX6_back wsX6_laid := goodIn_r _ [32, 25, 26, 27, 5, 28, 21, 22, 23, 24, 33, 34, 35, 36, 37, 38, 39, 40, 41, 42, 43, 44, 45, 46, 47, 48, 49, 50, 51, 52, 53, 54] (by decide +kernel) (by decide +kernel)
set_option maxRecDepth 20000 in
theorem gX6_back_X6_laid : GoodIn wsX6_back (wsV RX6 131 RX6 yX6_laid wsX6_laid) := goodIn_app (goodIn_of _ (by decide +kernel)) ggX6_back_X6_laid
theorem dX6_back_0 : decode cX6_back 0 = .ok (.iload_n 1, 1) := by decide +kernel
theorem dX6_back_1 : decode cX6_back 1 = .ok (.iload_n 2, 1) := by decide +kernel
theorem dX6_back_2 : decode cX6_back 2 = .ok (.iload_n 3, 1) := by decide +kernel
theorem dX6_back_3 : decode cX6_back 3 = .ok (.invokestatic 125, 3) := by decide +kernel
theorem dX6_back_6 : decode cX6_back 6 = .ok (.ifCond .ne 10, 3) := by decide +kernel
theorem dX6_back_9 : decode cX6_back 9 = .ok (.aload_n 0, 1) := by decide +kernel
theorem dX6_back_10 : decode cX6_back 10 = .ok (.ldc 64, 2) := by decide +kernel
theorem dX6_back_12 : decode cX6_back 12 = .ok (.invokevirtual 83, 3) := by decide +kernel
theorem dX6_back_15 : decode cX6_back 15 = .ok (.ireturn, 1) := by decide +kernel
theorem dX6_back_16 : decode cX6_back 16 = .ok (.aload_n 0, 1) := by decide +kernel
theorem dX6_back_17 : decode cX6_back 17 = .ok (.iload_n 1, 1) := by decide +kernel
theorem dX6_back_18 : decode cX6_back 18 = .ok (.bipush 7, 2) := by decide +kernel
theorem dX6_back_20 : decode cX6_back 20 = .ok (.iload_n 2, 1) := by decide +kernel
theorem dX6_back_21 : decode cX6_back 21 = .ok (.iadd, 1) := by decide +kernel
theorem dX6_back_22 : decode cX6_back 22 = .ok (.invokevirtual 93, 3) := by decide +kernel
theorem dX6_back_25 : decode cX6_back 25 = .ok (.iload_n 3, 1) := by decide +kernel
theorem dX6_back_26 : decode cX6_back 26 = .ok (.if_icmp .lt 22, 3) := by decide +kernel
theorem dX6_back_29 : decode cX6_back 29 = .ok (.aload_n 0, 1) := by decide +kernel
theorem dX6_back_30 : decode cX6_back 30 = .ok (.iload_n 1, 1) := by decide +kernel
theorem dX6_back_31 : decode cX6_back 31 = .ok (.iconst 2, 1) := by decide +kernel
theorem dX6_back_32 : decode cX6_back 32 = .ok (.iload_n 2, 1) := by decide +kernel
theorem dX6_back_33 : decode cX6_back 33 = .ok (.iadd, 1) := by decide +kernel
theorem dX6_back_34 : decode cX6_back 34 = .ok (.invokevirtual 93, 3) := by decide +kernel
theorem dX6_back_37 : decode cX6_back 37 = .ok (.iload_n 3, 1) := by decide +kernel
theorem dX6_back_38 : decode cX6_back 38 = .ok (.iadd, 1) := by decide +kernel
theorem dX6_back_39 : decode cX6_back 39 = .ok (.bipush 99, 2) := by decide +kernel
theorem dX6_back_41 : decode cX6_back 41 = .ok (.if_icmp .gt 7, 3) := by decide +kernel
theorem dX6_back_44 : decode cX6_back 44 = .ok (.iconst 1, 1) := by decide +kernel
theorem dX6_back_45 : decode cX6_back 45 = .ok (.goto 4, 3) := by decide +kernel
theorem dX6_back_48 : decode cX6_back 48 = .ok (.iconst 0, 1) := by decide +kernel
theorem dX6_back_49 : decode cX6_back 49 = .ok (.istore 4, 2) := by decide +kernel
theorem dX6_back_51 : decode cX6_back 51 = .ok (.iload 4, 2) := by decide +kernel
theorem dX6_back_53 : decode cX6_back 53 = .ok (.ifCond .eq 14, 3) := by decide +kernel
theorem dX6_back_56 : decode cX6_back 56 = .ok (.aload_n 0, 1) := by decide +kernel
theorem dX6_back_57 : decode cX6_back 57 = .ok (.iload_n 1, 1) := by decide +kernel
theorem dX6_back_58 : decode cX6_back 58 = .ok (.iload_n 2, 1) := by decide +kernel
theorem dX6_back_59 : decode cX6_back 59 = .ok (.iload_n 3, 1) := by decide +kernel
theorem dX6_back_60 : decode cX6_back 60 = .ok (.ineg, 1) := by decide +kernel
theorem dX6_back_61 : decode cX6_back 61 = .ok (.invokevirtual 131, 3) := by decide +kernel
theorem dX6_back_64 : decode cX6_back 64 = .ok (.goto 9, 3) := by decide +kernel
theorem dX6_back_67 : decode cX6_back 67 = .ok (.aload_n 0, 1) := by decide +kernel
theorem dX6_back_68 : decode cX6_back 68 = .ok (.ldc 134, 2) := by decide +kernel
theorem dX6_back_70 : decode cX6_back 70 = .ok (.invokevirtual 83, 3) := by decide +kernel
theorem dX6_back_73 : decode cX6_back 73 = .ok (.ireturn, 1) := by decide +kernel
set_option maxRecDepth 20000 in
theorem ggX6_isContent_X6_isEmpty : GoodIn wsX6_isContent wsX6_isEmpty := goodIn_r _ [5, 6, 7, 8, 4, 9, 10, 11, 12, 13, 14, 15, 16, 17, 36, 37, 38, 39, 40, 41, 42, 43, 44, 45, 46, 47, 48, 49, 50, 51, 52, 53, 54, 55, 56, 57] (by decide +kernel) (by decide +kernel)
set_option maxRecDepth 20000 in
theorem gX6_isContent_X6_isEmpty : GoodIn wsX6_isContent (wsV RX6 135 RX6 yX6_isEmpty wsX6_isEmpty) := goodIn_app (goodIn_of _ (by decide +kernel)) ggX6_isContent_X6_isEmpty
set_option maxRecDepth 20000 in
theorem ggX6_isContent_X6_valueFor : GoodIn wsX6_isContent wsX6_valueFor := goodIn_r _ [21, 10, 11, 12, 4, 13, 14, 15, 16, 17, 22, 23, 24, 25, 26, 27, 28, 29, 30, 31, 32, 33, 34, 35, 36, 37, 38, 39, 40, 41, 42, 43, 44, 45, 46, 47, 48, 49, 50, 51, 52, 53, 54, 55, 56, 57] (by decide +kernel) (by decide +kernel)
set_option maxRecDepth 20000 in
theorem gX6_isContent_X6_valueFor : GoodIn wsX6_isContent (wsV RX6 116 RX6 yX6_valueFor wsX6_valueFor) := goodIn_app (goodIn_of _ (by decide +kernel)) ggX6_isContent_X6_valueFor
set_option maxRecDepth 20000 in
theorem ggX6_isContent_X6_sideIs : GoodIn wsX6_isContent wsX6_sideIs := goodIn_r _ [13, 14, 15, 16, 4, 17, 36, 37, 38, 39, 40, 41, 42, 43, 44, 45, 46, 47, 48, 49, 50, 51, 52, 53, 54, 55, 56, 57] (by decide +kernel) (by decide +kernel)
set_option maxRecDepth 20000 in
theorem gX6_isContent_X6_sideIs : GoodIn wsX6_isContent (wsV RX6 93 RX6 yX6_sideIs wsX6_sideIs) := goodIn_app (goodIn_of _ (by decide +kernel)) ggX6_isContent_X6_sideIs
theorem dX6_isContent_0 : decode cX6_isContent 0 = .ok (.aload_n 0, 1) := by decide +kernel
theorem dX6_isContent_1 : decode cX6_isContent 1 = .ok (.iconst 1, 1) := by decide +kernel
theorem dX6_isContent_2 : decode cX6_isContent 2 = .ok (.iload_n 1, 1) := by decide +kernel
theorem dX6_isContent_3 : decode cX6_isContent 3 = .ok (.isub, 1) := by decide +kernel
theorem dX6_isContent_4 : decode cX6_isContent 4 = .ok (.invokevirtual 135, 3) := by decide +kernel
theorem dX6_isContent_7 : decode cX6_isContent 7 = .ok (.ifCond .ne 31, 3) := by decide +kernel
theorem dX6_isContent_10 : decode cX6_isContent 10 = .ok (.aload_n 0, 1) := by decide +kernel
theorem dX6_isContent_11 : decode cX6_isContent 11 = .ok (.iload_n 1, 1) := by decide +kernel
theorem dX6_isContent_12 : decode cX6_isContent 12 = .ok (.iconst 1, 1) := by decide +kernel
theorem dX6_isContent_13 : decode cX6_isContent 13 = .ok (.iload_n 1, 1) := by decide +kernel
theorem dX6_isContent_14 : decode cX6_isContent 14 = .ok (.isub, 1) := by decide +kernel
theorem dX6_isContent_15 : decode cX6_isContent 15 = .ok (.invokevirtual 116, 3) := by decide +kernel
theorem dX6_isContent_18 : decode cX6_isContent 18 = .ok (.aload_n 0, 1) := by decide +kernel
theorem dX6_isContent_19 : decode cX6_isContent 19 = .ok (.iload_n 1, 1) := by decide +kernel
theorem dX6_isContent_20 : decode cX6_isContent 20 = .ok (.iload_n 1, 1) := by decide +kernel
theorem dX6_isContent_21 : decode cX6_isContent 21 = .ok (.invokevirtual 116, 3) := by decide +kernel
theorem dX6_isContent_24 : decode cX6_isContent 24 = .ok (.aload_n 0, 1) := by decide +kernel
theorem dX6_isContent_25 : decode cX6_isContent 25 = .ok (.iload_n 1, 1) := by decide +kernel
theorem dX6_isContent_26 : decode cX6_isContent 26 = .ok (.iconst 0, 1) := by decide +kernel
theorem dX6_isContent_27 : decode cX6_isContent 27 = .ok (.invokevirtual 93, 3) := by decide +kernel
theorem dX6_isContent_30 : decode cX6_isContent 30 = .ok (.iadd, 1) := by decide +kernel
theorem dX6_isContent_31 : decode cX6_isContent 31 = .ok (.if_icmp .lt 7, 3) := by decide +kernel
theorem dX6_isContent_34 : decode cX6_isContent 34 = .ok (.iconst 1, 1) := by decide +kernel
theorem dX6_isContent_35 : decode cX6_isContent 35 = .ok (.goto 4, 3) := by decide +kernel
theorem dX6_isContent_38 : decode cX6_isContent 38 = .ok (.iconst 0, 1) := by decide +kernel
theorem dX6_isContent_39 : decode cX6_isContent 39 = .ok (.ireturn, 1) := by decide +kernel
set_option maxRecDepth 20000 in
theorem ggX6_wouldDo_X6_sideIs : GoodIn wsX6_wouldDo wsX6_sideIs := goodIn_r _ [5, 6, 7, 8, 4, 9, 40, 41, 42, 43, 44, 45, 46, 47, 48, 49, 50, 51, 52, 53, 54, 55, 56, 57, 58, 59, 60, 61] (by decide +kernel) (by decide +kernel)
set_option maxRecDepth 20000 in
theorem gX6_wouldDo_X6_sideIs : GoodIn wsX6_wouldDo (wsV RX6 93 RX6 yX6_sideIs wsX6_sideIs) := goodIn_app (goodIn_of _ (by decide +kernel)) ggX6_wouldDo_X6_sideIs
set_option maxRecDepth 20000 in
theorem ggX6_wouldDo_X6_isEmpty : GoodIn wsX6_wouldDo wsX6_isEmpty := goodIn_r _ [13, 14, 15, 16, 4, 17, 1, 2, 3, 5, 6, 7, 8, 9, 40, 41, 42, 43, 44, 45, 46, 47, 48, 49, 50, 51, 52, 53, 54, 55, 56, 57, 58, 59, 60, 61] (by decide +kernel) (by decide +kernel)
set_option maxRecDepth 20000 in
theorem gX6_wouldDo_X6_isEmpty : GoodIn wsX6_wouldDo (wsV RX6 135 RX6 yX6_isEmpty wsX6_isEmpty) := goodIn_app (goodIn_of _ (by decide +kernel)) ggX6_wouldDo_X6_isEmpty
set_option maxRecDepth 20000 in
theorem ggX6_wouldDo_X6_isContent : GoodIn wsX6_wouldDo wsX6_isContent := goodIn_r _ [21, 10, 11, 12, 4, 13, 14, 15, 16, 17, 1, 2, 3, 5, 6, 7, 8, 9, 22, 23, 24, 25, 26, 27, 28, 29, 30, 31, 32, 33, 34, 35, 36, 37, 38, 39, 40, 41, 42, 43, 44, 45, 46, 47, 48, 49, 50, 51, 52, 53, 54, 55, 56, 57, 58, 59, 60, 61] (by decide +kernel) (by decide +kernel)
set_option maxRecDepth 20000 in
theorem gX6_wouldDo_X6_isContent : GoodIn wsX6_wouldDo (wsV RX6 138 RX6 yX6_isContent wsX6_isContent) := goodIn_app (goodIn_of _ (by decide +kernel)) ggX6_wouldDo_X6_isContent
theorem dX6_wouldDo_0 : decode cX6_wouldDo 0 = .ok (.aload_n 0, 1) := by decide +kernel
theorem dX6_wouldDo_1 : decode cX6_wouldDo 1 = .ok (.iload_n 1, 1) := by decide +kernel
theorem dX6_wouldDo_2 : decode cX6_wouldDo 2 = .ok (.iconst 1, 1) := by decide +kernel
theorem dX6_wouldDo_3 : decode cX6_wouldDo 3 = .ok (.invokevirtual 93, 3) := by decide +kernel
theorem dX6_wouldDo_6 : decode cX6_wouldDo 6 = .ok (.ifCond .ne 17, 3) := by decide +kernel
theorem dX6_wouldDo_9 : decode cX6_wouldDo 9 = .ok (.aload_n 0, 1) := by decide +kernel
theorem dX6_wouldDo_10 : decode cX6_wouldDo 10 = .ok (.iload_n 1, 1) := by decide +kernel
theorem dX6_wouldDo_11 : decode cX6_wouldDo 11 = .ok (.invokevirtual 135, 3) := by decide +kernel
theorem dX6_wouldDo_14 : decode cX6_wouldDo 14 = .ok (.ifCond .eq 7, 3) := by decide +kernel
theorem dX6_wouldDo_17 : decode cX6_wouldDo 17 = .ok (.iconst 0, 1) := by decide +kernel
theorem dX6_wouldDo_18 : decode cX6_wouldDo 18 = .ok (.goto 4, 3) := by decide +kernel
theorem dX6_wouldDo_21 : decode cX6_wouldDo 21 = .ok (.iconst 3, 1) := by decide +kernel
theorem dX6_wouldDo_22 : decode cX6_wouldDo 22 = .ok (.ireturn, 1) := by decide +kernel
theorem dX6_wouldDo_23 : decode cX6_wouldDo 23 = .ok (.aload_n 0, 1) := by decide +kernel
theorem dX6_wouldDo_24 : decode cX6_wouldDo 24 = .ok (.iload_n 1, 1) := by decide +kernel
theorem dX6_wouldDo_25 : decode cX6_wouldDo 25 = .ok (.invokevirtual 138, 3) := by decide +kernel
theorem dX6_wouldDo_28 : decode cX6_wouldDo 28 = .ok (.ifCond .eq 7, 3) := by decide +kernel
theorem dX6_wouldDo_31 : decode cX6_wouldDo 31 = .ok (.iconst 1, 1) := by decide +kernel
theorem dX6_wouldDo_32 : decode cX6_wouldDo 32 = .ok (.goto 16, 3) := by decide +kernel
theorem dX6_wouldDo_35 : decode cX6_wouldDo 35 = .ok (.aload_n 0, 1) := by decide +kernel
theorem dX6_wouldDo_36 : decode cX6_wouldDo 36 = .ok (.iload_n 1, 1) := by decide +kernel
theorem dX6_wouldDo_37 : decode cX6_wouldDo 37 = .ok (.invokevirtual 135, 3) := by decide +kernel
theorem dX6_wouldDo_40 : decode cX6_wouldDo 40 = .ok (.ifCond .eq 7, 3) := by decide +kernel
theorem dX6_wouldDo_43 : decode cX6_wouldDo 43 = .ok (.iconst 0, 1) := by decide +kernel
theorem dX6_wouldDo_44 : decode cX6_wouldDo 44 = .ok (.goto 4, 3) := by decide +kernel
theorem dX6_wouldDo_47 : decode cX6_wouldDo 47 = .ok (.iconst 2, 1) := by decide +kernel
theorem dX6_wouldDo_48 : decode cX6_wouldDo 48 = .ok (.ireturn, 1) := by decide +kernel
set_option maxRecDepth 20000 in
theorem ggX6_content_X6_isSide : GoodIn wsX6_content wsX6_isSide := goodIn_r _ [5, 6, 7, 4, 8] (by decide +kernel) (by decide +kernel)
set_option maxRecDepth 20000 in
theorem gX6_content_X6_isSide : GoodIn wsX6_content (va_wsS RX6 87 yX6_isSide wsX6_isSide) := goodIn_app (goodIn_of _ (by decide +kernel)) ggX6_content_X6_isSide
set_option maxRecDepth 20000 in
theorem ggX6_content_X6_isContent : GoodIn wsX6_content wsX6_isContent := goodIn_r _ [12, 13, 14, 15, 4, 16, 17, 18, 19, 20, 21, 22, 23, 24, 25, 26, 27, 28, 29, 30, 31, 32, 33, 34, 35, 36, 37, 38, 39, 40, 41, 42, 43, 44, 45, 46, 52, 53, 54, 55, 56, 57, 58, 59, 60, 61, 62, 63, 64, 65, 66, 67, 68, 69, 70, 71, 72, 73] (by decide +kernel) (by decide +kernel)
set_option maxRecDepth 20000 in
theorem gX6_content_X6_isContent : GoodIn wsX6_content (wsV RX6 138 RX6 yX6_isContent wsX6_isContent) := goodIn_app (goodIn_of _ (by decide +kernel)) ggX6_content_X6_isContent
set_option maxRecDepth 20000 in
theorem ggX6_content_X6_finding : GoodIn wsX6_content wsX6_finding := goodIn_r _ [50, 51, 1, 52, 53, 54, 55, 56, 57, 58, 59, 60, 61, 62, 63, 64, 65, 66, 67, 68, 69, 70, 71, 72, 73] (by decide +kernel) (by decide +kernel)
set_option maxRecDepth 20000 in
theorem gX6_content_X6_finding : GoodIn wsX6_content (wsV RX6 83 RX6 yX6_finding wsX6_finding) := goodIn_app (goodIn_of _ (by decide +kernel)) ggX6_content_X6_finding
theorem dX6_content_0 : decode cX6_content 0 = .ok (.iload_n 1, 1) := by decide +kernel
theorem dX6_content_1 : decode cX6_content 1 = .ok (.invokestatic 87, 3) := by decide +kernel
theorem dX6_content_4 : decode cX6_content 4 = .ok (.ifCond .eq 19, 3) := by decide +kernel
theorem dX6_content_7 : decode cX6_content 7 = .ok (.aload_n 0, 1) := by decide +kernel
theorem dX6_content_8 : decode cX6_content 8 = .ok (.iload_n 1, 1) := by decide +kernel
theorem dX6_content_9 : decode cX6_content 9 = .ok (.invokevirtual 138, 3) := by decide +kernel
theorem dX6_content_12 : decode cX6_content 12 = .ok (.ifCond .eq 7, 3) := by decide +kernel
theorem dX6_content_15 : decode cX6_content 15 = .ok (.iconst 1, 1) := by decide +kernel
theorem dX6_content_16 : decode cX6_content 16 = .ok (.goto 13, 3) := by decide +kernel
theorem dX6_content_19 : decode cX6_content 19 = .ok (.iconst 0, 1) := by decide +kernel
theorem dX6_content_20 : decode cX6_content 20 = .ok (.goto 9, 3) := by decide +kernel
theorem dX6_content_23 : decode cX6_content 23 = .ok (.aload_n 0, 1) := by decide +kernel
theorem dX6_content_24 : decode cX6_content 24 = .ok (.ldc 64, 2) := by decide +kernel
theorem dX6_content_26 : decode cX6_content 26 = .ok (.invokevirtual 83, 3) := by decide +kernel
theorem dX6_content_29 : decode cX6_content 29 = .ok (.ireturn, 1) := by decide +kernel
set_option maxRecDepth 20000 in
theorem ggX6_does_X6_isSide : GoodIn wsX6_does wsX6_isSide := goodIn_r _ [5, 6, 7, 4, 8] (by decide +kernel) (by decide +kernel)
set_option maxRecDepth 20000 in
theorem gX6_does_X6_isSide : GoodIn wsX6_does (va_wsS RX6 87 yX6_isSide wsX6_isSide) := goodIn_app (goodIn_of _ (by decide +kernel)) ggX6_does_X6_isSide
set_option maxRecDepth 20000 in
theorem ggX6_does_X6_wouldDo : GoodIn wsX6_does wsX6_wouldDo := goodIn_r _ [12, 13, 14, 15, 4, 16, 17, 18, 19, 20, 21, 22, 23, 24, 25, 26, 27, 28, 29, 30, 31, 32, 33, 34, 35, 36, 37, 38, 39, 40, 41, 42, 43, 44, 45, 46, 47, 48, 49, 50, 56, 57, 58, 59, 60, 61, 62, 63, 64, 65, 66, 67, 68, 69, 70, 71, 72, 73, 74, 75, 76, 77] (by decide +kernel) (by decide +kernel)
set_option maxRecDepth 20000 in
theorem gX6_does_X6_wouldDo : GoodIn wsX6_does (wsV RX6 141 RX6 yX6_wouldDo wsX6_wouldDo) := goodIn_app (goodIn_of _ (by decide +kernel)) ggX6_does_X6_wouldDo
set_option maxRecDepth 20000 in
theorem ggX6_does_X6_finding : GoodIn wsX6_does wsX6_finding := goodIn_r _ [54, 55, 1, 56, 57, 58, 59, 60, 61, 62, 63, 64, 65, 66, 67, 68, 69, 70, 71, 72, 73, 74, 75, 76, 77] (by decide +kernel) (by decide +kernel)
set_option maxRecDepth 20000 in
theorem gX6_does_X6_finding : GoodIn wsX6_does (wsV RX6 83 RX6 yX6_finding wsX6_finding) := goodIn_app (goodIn_of _ (by decide +kernel)) ggX6_does_X6_finding
theorem dX6_does_0 : decode cX6_does 0 = .ok (.iload_n 1, 1) := by decide +kernel
theorem dX6_does_1 : decode cX6_does 1 = .ok (.invokestatic 87, 3) := by decide +kernel
theorem dX6_does_4 : decode cX6_does 4 = .ok (.ifCond .eq 11, 3) := by decide +kernel
theorem dX6_does_7 : decode cX6_does 7 = .ok (.aload_n 0, 1) := by decide +kernel
theorem dX6_does_8 : decode cX6_does 8 = .ok (.iload_n 1, 1) := by decide +kernel
theorem dX6_does_9 : decode cX6_does 9 = .ok (.invokevirtual 141, 3) := by decide +kernel
theorem dX6_does_12 : decode cX6_does 12 = .ok (.goto 9, 3) := by decide +kernel
theorem dX6_does_15 : decode cX6_does 15 = .ok (.aload_n 0, 1) := by decide +kernel
theorem dX6_does_16 : decode cX6_does 16 = .ok (.ldc 64, 2) := by decide +kernel
theorem dX6_does_18 : decode cX6_does 18 = .ok (.invokevirtual 83, 3) := by decide +kernel
theorem dX6_does_21 : decode cX6_does 21 = .ok (.ireturn, 1) := by decide +kernel
set_option maxRecDepth 20000 in
theorem ggX6_dearest_X6_sideIs : GoodIn wsX6_dearest wsX6_sideIs := goodIn_r _ [5, 6, 7, 8, 4, 9, 24, 25, 26, 27, 28, 29, 30, 31, 32, 33, 34, 35, 36, 37, 38, 39, 40, 41, 42, 43, 44, 45] (by decide +kernel) (by decide +kernel)
set_option maxRecDepth 20000 in
theorem gX6_dearest_X6_sideIs : GoodIn wsX6_dearest (wsV RX6 93 RX6 yX6_sideIs wsX6_sideIs) := goodIn_app (goodIn_of _ (by decide +kernel)) ggX6_dearest_X6_sideIs
set_option maxRecDepth 20000 in
theorem ggX6_dearest_X6_priceFor : GoodIn wsX6_dearest wsX6_priceFor := goodIn_r _ [13, 6, 1, 2, 3, 4, 5, 7, 8, 9, 14, 15, 16, 17, 18, 19, 20, 21, 22, 23, 24, 25, 26, 27, 28, 29, 30, 31, 32, 33, 34, 35, 36, 37, 38, 39, 40, 41, 42, 43, 44, 45] (by decide +kernel) (by decide +kernel)
set_option maxRecDepth 20000 in
theorem gX6_dearest_X6_priceFor : GoodIn wsX6_dearest (wsV RX6 107 RX6 yX6_priceFor wsX6_priceFor) := goodIn_app (goodIn_of _ (by decide +kernel)) ggX6_dearest_X6_priceFor
theorem dX6_dearest_0 : decode cX6_dearest 0 = .ok (.iconst (-1), 1) := by decide +kernel
theorem dX6_dearest_1 : decode cX6_dearest 1 = .ok (.istore_n 2, 1) := by decide +kernel
theorem dX6_dearest_2 : decode cX6_dearest 2 = .ok (.iconst 0, 1) := by decide +kernel
theorem dX6_dearest_3 : decode cX6_dearest 3 = .ok (.istore_n 3, 1) := by decide +kernel
theorem dX6_dearest_4 : decode cX6_dearest 4 = .ok (.iconst 0, 1) := by decide +kernel
theorem dX6_dearest_5 : decode cX6_dearest 5 = .ok (.istore 4, 2) := by decide +kernel
theorem dX6_dearest_7 : decode cX6_dearest 7 = .ok (.iload 4, 2) := by decide +kernel
theorem dX6_dearest_9 : decode cX6_dearest 9 = .ok (.iconst 5, 1) := by decide +kernel
theorem dX6_dearest_10 : decode cX6_dearest 10 = .ok (.if_icmp .ge 74, 3) := by decide +kernel
theorem dX6_dearest_13 : decode cX6_dearest 13 = .ok (.aload_n 0, 1) := by decide +kernel
theorem dX6_dearest_14 : decode cX6_dearest 14 = .ok (.iload_n 1, 1) := by decide +kernel
theorem dX6_dearest_15 : decode cX6_dearest 15 = .ok (.bipush 7, 2) := by decide +kernel
theorem dX6_dearest_17 : decode cX6_dearest 17 = .ok (.iload 4, 2) := by decide +kernel
theorem dX6_dearest_19 : decode cX6_dearest 19 = .ok (.iadd, 1) := by decide +kernel
theorem dX6_dearest_20 : decode cX6_dearest 20 = .ok (.invokevirtual 93, 3) := by decide +kernel
theorem dX6_dearest_23 : decode cX6_dearest 23 = .ok (.istore 5, 2) := by decide +kernel
theorem dX6_dearest_25 : decode cX6_dearest 25 = .ok (.iload 5, 2) := by decide +kernel
theorem dX6_dearest_27 : decode cX6_dearest 27 = .ok (.ifCond .ne 7, 3) := by decide +kernel
theorem dX6_dearest_30 : decode cX6_dearest 30 = .ok (.iconst (-1), 1) := by decide +kernel
theorem dX6_dearest_31 : decode cX6_dearest 31 = .ok (.goto 24, 3) := by decide +kernel
theorem dX6_dearest_34 : decode cX6_dearest 34 = .ok (.aload_n 0, 1) := by decide +kernel
theorem dX6_dearest_35 : decode cX6_dearest 35 = .ok (.iload_n 1, 1) := by decide +kernel
theorem dX6_dearest_36 : decode cX6_dearest 36 = .ok (.iload 4, 2) := by decide +kernel
theorem dX6_dearest_38 : decode cX6_dearest 38 = .ok (.iload 5, 2) := by decide +kernel
theorem dX6_dearest_40 : decode cX6_dearest 40 = .ok (.invokevirtual 107, 3) := by decide +kernel
theorem dX6_dearest_43 : decode cX6_dearest 43 = .ok (.aload_n 0, 1) := by decide +kernel
theorem dX6_dearest_44 : decode cX6_dearest 44 = .ok (.iload_n 1, 1) := by decide +kernel
theorem dX6_dearest_45 : decode cX6_dearest 45 = .ok (.iload 4, 2) := by decide +kernel
theorem dX6_dearest_47 : decode cX6_dearest 47 = .ok (.iload 5, 2) := by decide +kernel
theorem dX6_dearest_49 : decode cX6_dearest 49 = .ok (.iconst 1, 1) := by decide +kernel
theorem dX6_dearest_50 : decode cX6_dearest 50 = .ok (.isub, 1) := by decide +kernel
theorem dX6_dearest_51 : decode cX6_dearest 51 = .ok (.invokevirtual 107, 3) := by decide +kernel
theorem dX6_dearest_54 : decode cX6_dearest 54 = .ok (.isub, 1) := by decide +kernel
theorem dX6_dearest_55 : decode cX6_dearest 55 = .ok (.istore 6, 2) := by decide +kernel
theorem dX6_dearest_57 : decode cX6_dearest 57 = .ok (.iload 5, 2) := by decide +kernel
theorem dX6_dearest_59 : decode cX6_dearest 59 = .ok (.ifCond .le 19, 3) := by decide +kernel
theorem dX6_dearest_62 : decode cX6_dearest 62 = .ok (.iload_n 2, 1) := by decide +kernel
theorem dX6_dearest_63 : decode cX6_dearest 63 = .ok (.ifCond .lt 9, 3) := by decide +kernel
theorem dX6_dearest_66 : decode cX6_dearest 66 = .ok (.iload 6, 2) := by decide +kernel
theorem dX6_dearest_68 : decode cX6_dearest 68 = .ok (.iload_n 3, 1) := by decide +kernel
theorem dX6_dearest_69 : decode cX6_dearest 69 = .ok (.if_icmp .le 9, 3) := by decide +kernel
theorem dX6_dearest_72 : decode cX6_dearest 72 = .ok (.iload 4, 2) := by decide +kernel
theorem dX6_dearest_74 : decode cX6_dearest 74 = .ok (.istore_n 2, 1) := by decide +kernel
theorem dX6_dearest_75 : decode cX6_dearest 75 = .ok (.iload 6, 2) := by decide +kernel
theorem dX6_dearest_77 : decode cX6_dearest 77 = .ok (.istore_n 3, 1) := by decide +kernel
theorem dX6_dearest_78 : decode cX6_dearest 78 = .ok (.iinc 4 1, 3) := by decide +kernel
theorem dX6_dearest_81 : decode cX6_dearest 81 = .ok (.goto (-74), 3) := by decide +kernel
theorem dX6_dearest_84 : decode cX6_dearest 84 = .ok (.iload_n 2, 1) := by decide +kernel
theorem dX6_dearest_85 : decode cX6_dearest 85 = .ok (.ireturn, 1) := by decide +kernel
set_option maxRecDepth 20000 in
theorem ggX6_less_X6_isSide : GoodIn wsX6_less wsX6_isSide := goodIn_r _ [6, 7, 8, 5, 9] (by decide +kernel) (by decide +kernel)
set_option maxRecDepth 20000 in
theorem gX6_less_X6_isSide : GoodIn wsX6_less (va_wsS RX6 87 yX6_isSide wsX6_isSide) := goodIn_app (goodIn_of _ (by decide +kernel)) ggX6_less_X6_isSide
set_option maxRecDepth 20000 in
theorem ggX6_less_X6_finding : GoodIn wsX6_less wsX6_finding := goodIn_r _ [13, 14, 1, 61, 62, 63, 64, 65, 66, 67, 68, 69, 70, 71, 72, 73, 74, 75, 76, 77, 78, 79, 80, 81, 82] (by decide +kernel) (by decide +kernel)
set_option maxRecDepth 20000 in
theorem gX6_less_X6_finding : GoodIn wsX6_less (wsV RX6 83 RX6 yX6_finding wsX6_finding) := goodIn_app (goodIn_of _ (by decide +kernel)) ggX6_less_X6_finding
set_option maxRecDepth 20000 in
theorem ggX6_less_X6_wouldDo : GoodIn wsX6_less wsX6_wouldDo := goodIn_r _ [18, 19, 20, 21, 5, 22, 23, 24, 25, 26, 27, 28, 29, 30, 31, 32, 33, 34, 35, 36, 37, 38, 39, 40, 41, 42, 43, 44, 45, 46, 47, 48, 49, 50, 51, 52, 53, 54, 55, 56, 61, 62, 63, 64, 65, 66, 67, 68, 69, 70, 71, 72, 73, 74, 75, 76, 77, 78, 79, 80, 81, 82] (by decide +kernel) (by decide +kernel)
set_option maxRecDepth 20000 in
theorem gX6_less_X6_wouldDo : GoodIn wsX6_less (wsV RX6 141 RX6 yX6_wouldDo wsX6_wouldDo) := goodIn_app (goodIn_of _ (by decide +kernel)) ggX6_less_X6_wouldDo
set_option maxRecDepth 20000 in
theorem ggX6_less_X6_dearest : GoodIn wsX6_less wsX6_dearest := goodIn_r _ [60, 19, 20, 21, 5, 22, 23, 24, 25, 26, 43, 44, 45, 46, 47, 48, 49, 50, 51, 52, 53, 54, 55, 56, 61, 62, 63, 64, 65, 66, 67, 68, 69, 70, 71, 72, 73, 74, 75, 76, 77, 78, 79, 80, 81, 82] (by decide +kernel) (by decide +kernel)
set_option maxRecDepth 20000 in
theorem gX6_less_X6_dearest : GoodIn wsX6_less (wsV RX6 144 RX6 yX6_dearest wsX6_dearest) := goodIn_app (goodIn_of _ (by decide +kernel)) ggX6_less_X6_dearest
theorem dX6_less_0 : decode cX6_less 0 = .ok (.iload_n 1, 1) := by decide +kernel
theorem dX6_less_1 : decode cX6_less 1 = .ok (.invokestatic 87, 3) := by decide +kernel
theorem dX6_less_4 : decode cX6_less 4 = .ok (.ifCond .ne 10, 3) := by decide +kernel
theorem dX6_less_7 : decode cX6_less 7 = .ok (.aload_n 0, 1) := by decide +kernel
theorem dX6_less_8 : decode cX6_less 8 = .ok (.ldc 64, 2) := by decide +kernel
theorem dX6_less_10 : decode cX6_less 10 = .ok (.invokevirtual 83, 3) := by decide +kernel
theorem dX6_less_13 : decode cX6_less 13 = .ok (.ireturn, 1) := by decide +kernel
theorem dX6_less_14 : decode cX6_less 14 = .ok (.aload_n 0, 1) := by decide +kernel
theorem dX6_less_15 : decode cX6_less 15 = .ok (.iload_n 1, 1) := by decide +kernel
theorem dX6_less_16 : decode cX6_less 16 = .ok (.invokevirtual 141, 3) := by decide +kernel
theorem dX6_less_19 : decode cX6_less 19 = .ok (.iconst 2, 1) := by decide +kernel
theorem dX6_less_20 : decode cX6_less 20 = .ok (.if_icmp .ne 11, 3) := by decide +kernel
theorem dX6_less_23 : decode cX6_less 23 = .ok (.aload_n 0, 1) := by decide +kernel
theorem dX6_less_24 : decode cX6_less 24 = .ok (.iload_n 1, 1) := by decide +kernel
theorem dX6_less_25 : decode cX6_less 25 = .ok (.invokevirtual 144, 3) := by decide +kernel
theorem dX6_less_28 : decode cX6_less 28 = .ok (.goto 9, 3) := by decide +kernel
theorem dX6_less_31 : decode cX6_less 31 = .ok (.aload_n 0, 1) := by decide +kernel
theorem dX6_less_32 : decode cX6_less 32 = .ok (.ldc 147, 2) := by decide +kernel
theorem dX6_less_34 : decode cX6_less 34 = .ok (.invokevirtual 83, 3) := by decide +kernel
theorem dX6_less_37 : decode cX6_less 37 = .ok (.ireturn, 1) := by decide +kernel
set_option maxRecDepth 20000 in
theorem ggX6_comesHome_X6_at : GoodIn wsX6_comesHome wsX6_at := goodIn_r _ [9] (by decide +kernel) (by decide +kernel)
set_option maxRecDepth 20000 in
theorem gX6_comesHome_X6_at : GoodIn wsX6_comesHome (va_wsS RX6 60 yX6_at wsX6_at) := goodIn_app (goodIn_of _ (by decide +kernel)) ggX6_comesHome_X6_at
set_option maxRecDepth 20000 in
theorem ggX6_comesHome_X6_sideIs : GoodIn wsX6_comesHome wsX6_sideIs := goodIn_r _ [13, 1, 6, 7, 8, 9, 14, 15, 16, 17, 18, 19, 20, 21, 22, 23, 24, 25, 26, 27, 28, 29, 30, 31, 32, 33, 34, 35] (by decide +kernel) (by decide +kernel)
set_option maxRecDepth 20000 in
theorem gX6_comesHome_X6_sideIs : GoodIn wsX6_comesHome (wsV RX6 93 RX6 yX6_sideIs wsX6_sideIs) := goodIn_app (goodIn_of _ (by decide +kernel)) ggX6_comesHome_X6_sideIs
theorem dX6_comesHome_0 : decode cX6_comesHome 0 = .ok (.aload_n 0, 1) := by decide +kernel
theorem dX6_comesHome_1 : decode cX6_comesHome 1 = .ok (.getfield 9, 3) := by decide +kernel
theorem dX6_comesHome_4 : decode cX6_comesHome 4 = .ok (.iload_n 1, 1) := by decide +kernel
theorem dX6_comesHome_5 : decode cX6_comesHome 5 = .ok (.iconst 2, 1) := by decide +kernel
theorem dX6_comesHome_6 : decode cX6_comesHome 6 = .ok (.iload_n 2, 1) := by decide +kernel
theorem dX6_comesHome_7 : decode cX6_comesHome 7 = .ok (.iadd, 1) := by decide +kernel
theorem dX6_comesHome_8 : decode cX6_comesHome 8 = .ok (.invokestatic 60, 3) := by decide +kernel
theorem dX6_comesHome_11 : decode cX6_comesHome 11 = .ok (.bipush 99, 2) := by decide +kernel
theorem dX6_comesHome_13 : decode cX6_comesHome 13 = .ok (.aload_n 0, 1) := by decide +kernel
theorem dX6_comesHome_14 : decode cX6_comesHome 14 = .ok (.iload_n 1, 1) := by decide +kernel
theorem dX6_comesHome_15 : decode cX6_comesHome 15 = .ok (.iconst 2, 1) := by decide +kernel
theorem dX6_comesHome_16 : decode cX6_comesHome 16 = .ok (.iload_n 2, 1) := by decide +kernel
theorem dX6_comesHome_17 : decode cX6_comesHome 17 = .ok (.iadd, 1) := by decide +kernel
theorem dX6_comesHome_18 : decode cX6_comesHome 18 = .ok (.invokevirtual 93, 3) := by decide +kernel
theorem dX6_comesHome_21 : decode cX6_comesHome 21 = .ok (.iload_n 3, 1) := by decide +kernel
theorem dX6_comesHome_22 : decode cX6_comesHome 22 = .ok (.iadd, 1) := by decide +kernel
theorem dX6_comesHome_23 : decode cX6_comesHome 23 = .ok (.invokestatic 111, 3) := by decide +kernel
theorem dX6_comesHome_26 : decode cX6_comesHome 26 = .ok (.iastore, 1) := by decide +kernel
theorem dX6_comesHome_27 : decode cX6_comesHome 27 = .ok (.return_, 1) := by decide +kernel
set_option maxRecDepth 20000 in
theorem ggX6_goesHome_X6_at : GoodIn wsX6_goesHome wsX6_at := goodIn_r _ [4] (by decide +kernel) (by decide +kernel)
set_option maxRecDepth 20000 in
theorem gX6_goesHome_X6_at : GoodIn wsX6_goesHome (va_wsS RX6 60 yX6_at wsX6_at) := goodIn_app (goodIn_of _ (by decide +kernel)) ggX6_goesHome_X6_at
set_option maxRecDepth 20000 in
theorem ggX6_goesHome_X6_become : GoodIn wsX6_goesHome wsX6_become := goodIn_r _ [8, 9, 22, 23, 24, 25, 26, 27, 28, 29, 30, 31, 32, 33, 34, 35, 36, 37, 38, 39, 40, 41, 42, 43] (by decide +kernel) (by decide +kernel)
set_option maxRecDepth 20000 in
theorem gX6_goesHome_X6_become : GoodIn wsX6_goesHome (wsV RX6 80 RX6 yX6_become wsX6_become) := goodIn_app (goodIn_of _ (by decide +kernel)) ggX6_goesHome_X6_become
set_option maxRecDepth 20000 in
theorem ggX6_goesHome_X6_comesHome : GoodIn wsX6_goesHome wsX6_comesHome := goodIn_r _ [13, 9, 14, 15, 16, 17, 1, 2, 3, 4, 18, 19, 20, 21, 22, 23, 24, 25, 26, 27, 28, 29, 30, 31, 32, 33, 34, 35, 36, 37, 38, 39, 40, 41, 42, 43] (by decide +kernel) (by decide +kernel)
set_option maxRecDepth 20000 in
theorem gX6_goesHome_X6_comesHome : GoodIn wsX6_goesHome (wsV RX6 148 RX6 yX6_comesHome wsX6_comesHome) := goodIn_app (goodIn_of _ (by decide +kernel)) ggX6_goesHome_X6_comesHome
theorem dX6_goesHome_0 : decode cX6_goesHome 0 = .ok (.iconst 0, 1) := by decide +kernel
theorem dX6_goesHome_1 : decode cX6_goesHome 1 = .ok (.istore_n 3, 1) := by decide +kernel
theorem dX6_goesHome_2 : decode cX6_goesHome 2 = .ok (.iload_n 3, 1) := by decide +kernel
theorem dX6_goesHome_3 : decode cX6_goesHome 3 = .ok (.iconst 5, 1) := by decide +kernel
theorem dX6_goesHome_4 : decode cX6_goesHome 4 = .ok (.if_icmp .ge 28, 3) := by decide +kernel
theorem dX6_goesHome_7 : decode cX6_goesHome 7 = .ok (.aload_n 0, 1) := by decide +kernel
theorem dX6_goesHome_8 : decode cX6_goesHome 8 = .ok (.iload_n 2, 1) := by decide +kernel
theorem dX6_goesHome_9 : decode cX6_goesHome 9 = .ok (.iload_n 3, 1) := by decide +kernel
theorem dX6_goesHome_10 : decode cX6_goesHome 10 = .ok (.aload_n 0, 1) := by decide +kernel
theorem dX6_goesHome_11 : decode cX6_goesHome 11 = .ok (.iload_n 1, 1) := by decide +kernel
theorem dX6_goesHome_12 : decode cX6_goesHome 12 = .ok (.bipush 7, 2) := by decide +kernel
theorem dX6_goesHome_14 : decode cX6_goesHome 14 = .ok (.iload_n 3, 1) := by decide +kernel
theorem dX6_goesHome_15 : decode cX6_goesHome 15 = .ok (.iadd, 1) := by decide +kernel
theorem dX6_goesHome_16 : decode cX6_goesHome 16 = .ok (.invokestatic 60, 3) := by decide +kernel
theorem dX6_goesHome_19 : decode cX6_goesHome 19 = .ok (.iconst 0, 1) := by decide +kernel
theorem dX6_goesHome_20 : decode cX6_goesHome 20 = .ok (.invokevirtual 80, 3) := by decide +kernel
theorem dX6_goesHome_23 : decode cX6_goesHome 23 = .ok (.invokevirtual 148, 3) := by decide +kernel
theorem dX6_goesHome_26 : decode cX6_goesHome 26 = .ok (.iinc 3 1, 3) := by decide +kernel
theorem dX6_goesHome_29 : decode cX6_goesHome 29 = .ok (.goto (-27), 3) := by decide +kernel
theorem dX6_goesHome_32 : decode cX6_goesHome 32 = .ok (.return_, 1) := by decide +kernel
set_option maxRecDepth 20000 in
theorem ggX6_trusts_X6_at : GoodIn wsX6_trusts wsX6_at := goodIn_r _ [9] (by decide +kernel) (by decide +kernel)
set_option maxRecDepth 20000 in
theorem gX6_trusts_X6_at : GoodIn wsX6_trusts (va_wsS RX6 60 yX6_at wsX6_at) := goodIn_app (goodIn_of _ (by decide +kernel)) ggX6_trusts_X6_at
set_option maxRecDepth 20000 in
theorem ggX6_trusts_X6_sideIs : GoodIn wsX6_trusts wsX6_sideIs := goodIn_r _ [13, 1, 6, 7, 8, 9, 14, 15, 16, 17, 18, 19, 20, 21, 22, 23, 24, 25, 26, 27, 28, 29, 30, 31, 32, 33, 34, 35] (by decide +kernel) (by decide +kernel)
set_option maxRecDepth 20000 in
theorem gX6_trusts_X6_sideIs : GoodIn wsX6_trusts (wsV RX6 93 RX6 yX6_sideIs wsX6_sideIs) := goodIn_app (goodIn_of _ (by decide +kernel)) ggX6_trusts_X6_sideIs
theorem dX6_trusts_0 : decode cX6_trusts 0 = .ok (.aload_n 0, 1) := by decide +kernel
theorem dX6_trusts_1 : decode cX6_trusts 1 = .ok (.getfield 9, 3) := by decide +kernel
theorem dX6_trusts_4 : decode cX6_trusts 4 = .ok (.iload_n 1, 1) := by decide +kernel
theorem dX6_trusts_5 : decode cX6_trusts 5 = .ok (.iconst 1, 1) := by decide +kernel
theorem dX6_trusts_6 : decode cX6_trusts 6 = .ok (.invokestatic 60, 3) := by decide +kernel
theorem dX6_trusts_9 : decode cX6_trusts 9 = .ok (.bipush 9, 2) := by decide +kernel
theorem dX6_trusts_11 : decode cX6_trusts 11 = .ok (.aload_n 0, 1) := by decide +kernel
theorem dX6_trusts_12 : decode cX6_trusts 12 = .ok (.iload_n 1, 1) := by decide +kernel
theorem dX6_trusts_13 : decode cX6_trusts 13 = .ok (.iconst 1, 1) := by decide +kernel
theorem dX6_trusts_14 : decode cX6_trusts 14 = .ok (.invokevirtual 93, 3) := by decide +kernel
theorem dX6_trusts_17 : decode cX6_trusts 17 = .ok (.iconst 1, 1) := by decide +kernel
theorem dX6_trusts_18 : decode cX6_trusts 18 = .ok (.iadd, 1) := by decide +kernel
theorem dX6_trusts_19 : decode cX6_trusts 19 = .ok (.invokestatic 111, 3) := by decide +kernel
theorem dX6_trusts_22 : decode cX6_trusts 22 = .ok (.iastore, 1) := by decide +kernel
theorem dX6_trusts_23 : decode cX6_trusts 23 = .ok (.return_, 1) := by decide +kernel
set_option maxRecDepth 20000 in
theorem ggX6_stolen_X6_valueFor : GoodIn wsX6_stolen wsX6_valueFor := goodIn_r _ [6, 7, 8, 9, 5, 10, 1, 11, 12, 13, 14, 15, 16, 17, 18, 19, 20, 21, 22, 23, 24, 25, 26, 27, 44, 45, 46, 47, 48, 49, 50, 51, 52, 53, 54, 55, 56, 57, 58, 59, 60, 61, 62, 63, 64, 65] (by decide +kernel) (by decide +kernel)
set_option maxRecDepth 20000 in
theorem gX6_stolen_X6_valueFor : GoodIn wsX6_stolen (wsV RX6 116 RX6 yX6_valueFor wsX6_valueFor) := goodIn_app (goodIn_of _ (by decide +kernel)) ggX6_stolen_X6_valueFor
set_option maxRecDepth 20000 in
theorem ggX6_stolen_X6_goesHome : GoodIn wsX6_stolen wsX6_goesHome := goodIn_r _ [31, 11, 12, 5, 13, 32, 33, 34, 35, 1, 36, 37, 38, 39, 40, 41, 42, 43, 7, 8, 9, 10, 44, 45, 46, 47, 48, 49, 50, 51, 52, 53, 54, 55, 56, 57, 58, 59, 60, 61, 62, 63, 64, 65] (by decide +kernel) (by decide +kernel)
set_option maxRecDepth 20000 in
theorem gX6_stolen_X6_goesHome : GoodIn wsX6_stolen (wsV RX6 152 RX6 yX6_goesHome wsX6_goesHome) := goodIn_app (goodIn_of _ (by decide +kernel)) ggX6_stolen_X6_goesHome
set_option maxRecDepth 20000 in
theorem ggX6_stolen_X6_at : GoodIn wsX6_stolen wsX6_at := goodIn_r _ [13] (by decide +kernel) (by decide +kernel)
set_option maxRecDepth 20000 in
theorem gX6_stolen_X6_at : GoodIn wsX6_stolen (va_wsS RX6 60 yX6_at wsX6_at) := goodIn_app (goodIn_of _ (by decide +kernel)) ggX6_stolen_X6_at
theorem dX6_stolen_0 : decode cX6_stolen 0 = .ok (.aload_n 0, 1) := by decide +kernel
theorem dX6_stolen_1 : decode cX6_stolen 1 = .ok (.iload_n 1, 1) := by decide +kernel
theorem dX6_stolen_2 : decode cX6_stolen 2 = .ok (.iconst 1, 1) := by decide +kernel
theorem dX6_stolen_3 : decode cX6_stolen 3 = .ok (.iload_n 1, 1) := by decide +kernel
theorem dX6_stolen_4 : decode cX6_stolen 4 = .ok (.isub, 1) := by decide +kernel
theorem dX6_stolen_5 : decode cX6_stolen 5 = .ok (.invokevirtual 116, 3) := by decide +kernel
theorem dX6_stolen_8 : decode cX6_stolen 8 = .ok (.istore_n 2, 1) := by decide +kernel
theorem dX6_stolen_9 : decode cX6_stolen 9 = .ok (.aload_n 0, 1) := by decide +kernel
theorem dX6_stolen_10 : decode cX6_stolen 10 = .ok (.iconst 1, 1) := by decide +kernel
theorem dX6_stolen_11 : decode cX6_stolen 11 = .ok (.iload_n 1, 1) := by decide +kernel
theorem dX6_stolen_12 : decode cX6_stolen 12 = .ok (.isub, 1) := by decide +kernel
theorem dX6_stolen_13 : decode cX6_stolen 13 = .ok (.iload_n 1, 1) := by decide +kernel
theorem dX6_stolen_14 : decode cX6_stolen 14 = .ok (.invokevirtual 152, 3) := by decide +kernel
theorem dX6_stolen_17 : decode cX6_stolen 17 = .ok (.aload_n 0, 1) := by decide +kernel
theorem dX6_stolen_18 : decode cX6_stolen 18 = .ok (.getfield 9, 3) := by decide +kernel
theorem dX6_stolen_21 : decode cX6_stolen 21 = .ok (.iconst 1, 1) := by decide +kernel
theorem dX6_stolen_22 : decode cX6_stolen 22 = .ok (.iload_n 1, 1) := by decide +kernel
theorem dX6_stolen_23 : decode cX6_stolen 23 = .ok (.isub, 1) := by decide +kernel
theorem dX6_stolen_24 : decode cX6_stolen 24 = .ok (.iconst 1, 1) := by decide +kernel
theorem dX6_stolen_25 : decode cX6_stolen 25 = .ok (.invokestatic 60, 3) := by decide +kernel
theorem dX6_stolen_28 : decode cX6_stolen 28 = .ok (.iconst 0, 1) := by decide +kernel
theorem dX6_stolen_29 : decode cX6_stolen 29 = .ok (.iastore, 1) := by decide +kernel
theorem dX6_stolen_30 : decode cX6_stolen 30 = .ok (.iload_n 2, 1) := by decide +kernel
theorem dX6_stolen_31 : decode cX6_stolen 31 = .ok (.ireturn, 1) := by decide +kernel
set_option maxRecDepth 20000 in
theorem ggX6_steal_X6_isSide : GoodIn wsX6_steal wsX6_isSide := goodIn_r _ [6, 7, 8, 5, 9] (by decide +kernel) (by decide +kernel)
set_option maxRecDepth 20000 in
theorem gX6_steal_X6_isSide : GoodIn wsX6_steal (va_wsS RX6 87 yX6_isSide wsX6_isSide) := goodIn_app (goodIn_of _ (by decide +kernel)) ggX6_steal_X6_isSide
set_option maxRecDepth 20000 in
theorem ggX6_steal_X6_finding : GoodIn wsX6_steal wsX6_finding := goodIn_r _ [13, 14, 1, 69, 70, 71, 72, 73, 74, 75, 76, 77, 78, 79, 80, 81, 82, 83, 84, 85, 86, 87, 88, 89, 90] (by decide +kernel) (by decide +kernel)
set_option maxRecDepth 20000 in
theorem gX6_steal_X6_finding : GoodIn wsX6_steal (wsV RX6 83 RX6 yX6_finding wsX6_finding) := goodIn_app (goodIn_of _ (by decide +kernel)) ggX6_steal_X6_finding
set_option maxRecDepth 20000 in
theorem ggX6_steal_X6_isEmpty : GoodIn wsX6_steal wsX6_isEmpty := goodIn_r _ [18, 19, 20, 21, 5, 22, 23, 24, 25, 26, 27, 28, 29, 30, 69, 70, 71, 72, 73, 74, 75, 76, 77, 78, 79, 80, 81, 82, 83, 84, 85, 86, 87, 88, 89, 90] (by decide +kernel) (by decide +kernel)
set_option maxRecDepth 20000 in
theorem gX6_steal_X6_isEmpty : GoodIn wsX6_steal (wsV RX6 135 RX6 yX6_isEmpty wsX6_isEmpty) := goodIn_app (goodIn_of _ (by decide +kernel)) ggX6_steal_X6_isEmpty
set_option maxRecDepth 20000 in
theorem ggX6_steal_X6_stolen : GoodIn wsX6_steal wsX6_stolen := goodIn_r _ [34, 27, 35, 36, 37, 5, 38, 23, 24, 25, 26, 28, 29, 30, 39, 40, 41, 42, 43, 44, 45, 46, 47, 48, 49, 50, 51, 52, 53, 54, 55, 56, 57, 58, 59, 60, 61, 62, 63, 64, 65, 66, 67, 68, 69, 70, 71, 72, 73, 74, 75, 76, 77, 78, 79, 80, 81, 82, 83, 84, 85, 86, 87, 88, 89, 90] (by decide +kernel) (by decide +kernel)
set_option maxRecDepth 20000 in
theorem gX6_steal_X6_stolen : GoodIn wsX6_steal (wsV RX6 156 RX6 yX6_stolen wsX6_stolen) := goodIn_app (goodIn_of _ (by decide +kernel)) ggX6_steal_X6_stolen
theorem dX6_steal_0 : decode cX6_steal 0 = .ok (.iload_n 1, 1) := by decide +kernel
theorem dX6_steal_1 : decode cX6_steal 1 = .ok (.invokestatic 87, 3) := by decide +kernel
theorem dX6_steal_4 : decode cX6_steal 4 = .ok (.ifCond .ne 10, 3) := by decide +kernel
theorem dX6_steal_7 : decode cX6_steal 7 = .ok (.aload_n 0, 1) := by decide +kernel
theorem dX6_steal_8 : decode cX6_steal 8 = .ok (.ldc 64, 2) := by decide +kernel
theorem dX6_steal_10 : decode cX6_steal 10 = .ok (.invokevirtual 83, 3) := by decide +kernel
theorem dX6_steal_13 : decode cX6_steal 13 = .ok (.ireturn, 1) := by decide +kernel
theorem dX6_steal_14 : decode cX6_steal 14 = .ok (.aload_n 0, 1) := by decide +kernel
theorem dX6_steal_15 : decode cX6_steal 15 = .ok (.iconst 1, 1) := by decide +kernel
theorem dX6_steal_16 : decode cX6_steal 16 = .ok (.iload_n 1, 1) := by decide +kernel
theorem dX6_steal_17 : decode cX6_steal 17 = .ok (.isub, 1) := by decide +kernel
theorem dX6_steal_18 : decode cX6_steal 18 = .ok (.invokevirtual 135, 3) := by decide +kernel
theorem dX6_steal_21 : decode cX6_steal 21 = .ok (.ifCond .eq 12, 3) := by decide +kernel
theorem dX6_steal_24 : decode cX6_steal 24 = .ok (.aload_n 0, 1) := by decide +kernel
theorem dX6_steal_25 : decode cX6_steal 25 = .ok (.ldc 134, 2) := by decide +kernel
theorem dX6_steal_27 : decode cX6_steal 27 = .ok (.invokevirtual 83, 3) := by decide +kernel
theorem dX6_steal_30 : decode cX6_steal 30 = .ok (.goto 8, 3) := by decide +kernel
theorem dX6_steal_33 : decode cX6_steal 33 = .ok (.aload_n 0, 1) := by decide +kernel
theorem dX6_steal_34 : decode cX6_steal 34 = .ok (.iload_n 1, 1) := by decide +kernel
theorem dX6_steal_35 : decode cX6_steal 35 = .ok (.invokevirtual 156, 3) := by decide +kernel
theorem dX6_steal_38 : decode cX6_steal 38 = .ok (.ireturn, 1) := by decide +kernel
set_option maxRecDepth 20000 in
theorem ggX6_gift_X6_areGood : GoodIn wsX6_gift wsX6_areGood := goodIn_r _ [7, 8, 9, 6, 10, 11, 12, 13, 14, 15, 16] (by decide +kernel) (by decide +kernel)
set_option maxRecDepth 20000 in
theorem gX6_gift_X6_areGood : GoodIn wsX6_gift (va_wsS RX6 125 yX6_areGood wsX6_areGood) := goodIn_app (goodIn_of _ (by decide +kernel)) ggX6_gift_X6_areGood
set_option maxRecDepth 20000 in
theorem ggX6_gift_X6_finding : GoodIn wsX6_gift wsX6_finding := goodIn_r _ [20, 21, 1, 41, 42, 43, 44, 45, 46, 47, 48, 49, 50, 51, 52, 53, 54, 55, 56, 57, 58, 59, 60, 61, 62] (by decide +kernel) (by decide +kernel)
set_option maxRecDepth 20000 in
theorem gX6_gift_X6_finding : GoodIn wsX6_gift (wsV RX6 83 RX6 yX6_finding wsX6_finding) := goodIn_app (goodIn_of _ (by decide +kernel)) ggX6_gift_X6_finding
set_option maxRecDepth 20000 in
theorem ggX6_gift_X6_sideIs : GoodIn wsX6_gift wsX6_sideIs := goodIn_r _ [25, 3, 26, 27, 6, 28, 41, 42, 43, 44, 45, 46, 47, 48, 49, 50, 51, 52, 53, 54, 55, 56, 57, 58, 59, 60, 61, 62] (by decide +kernel) (by decide +kernel)
set_option maxRecDepth 20000 in
theorem gX6_gift_X6_sideIs : GoodIn wsX6_gift (wsV RX6 93 RX6 yX6_sideIs wsX6_sideIs) := goodIn_app (goodIn_of _ (by decide +kernel)) ggX6_gift_X6_sideIs
set_option maxRecDepth 20000 in
theorem ggX6_gift_X6_at : GoodIn wsX6_gift wsX6_at := goodIn_r _ [28] (by decide +kernel) (by decide +kernel)
set_option maxRecDepth 20000 in
theorem gX6_gift_X6_at : GoodIn wsX6_gift (va_wsS RX6 60 yX6_at wsX6_at) := goodIn_app (goodIn_of _ (by decide +kernel)) ggX6_gift_X6_at
set_option maxRecDepth 20000 in
theorem ggX6_gift_X6_comesHome : GoodIn wsX6_gift wsX6_comesHome := goodIn_r _ [32, 3, 33, 34, 35, 36, 26, 27, 6, 28, 22, 23, 24, 25, 41, 42, 43, 44, 45, 46, 47, 48, 49, 50, 51, 52, 53, 54, 55, 56, 57, 58, 59, 60, 61, 62] (by decide +kernel) (by decide +kernel)
set_option maxRecDepth 20000 in
theorem gX6_gift_X6_comesHome : GoodIn wsX6_gift (wsV RX6 148 RX6 yX6_comesHome wsX6_comesHome) := goodIn_app (goodIn_of _ (by decide +kernel)) ggX6_gift_X6_comesHome
set_option maxRecDepth 20000 in
theorem ggX6_gift_X6_trusts : GoodIn wsX6_gift wsX6_trusts := goodIn_r _ [40, 3, 33, 34, 35, 36, 26, 27, 6, 28, 22, 23, 24, 25, 41, 42, 43, 44, 45, 46, 47, 48, 49, 50, 51, 52, 53, 54, 55, 56, 57, 58, 59, 60, 61, 62] (by decide +kernel) (by decide +kernel)
set_option maxRecDepth 20000 in
theorem gX6_gift_X6_trusts : GoodIn wsX6_gift (wsV RX6 159 RX6 yX6_trusts wsX6_trusts) := goodIn_app (goodIn_of _ (by decide +kernel)) ggX6_gift_X6_trusts
theorem dX6_gift_0 : decode cX6_gift 0 = .ok (.iload_n 1, 1) := by decide +kernel
theorem dX6_gift_1 : decode cX6_gift 1 = .ok (.iload_n 2, 1) := by decide +kernel
theorem dX6_gift_2 : decode cX6_gift 2 = .ok (.iload_n 3, 1) := by decide +kernel
theorem dX6_gift_3 : decode cX6_gift 3 = .ok (.invokestatic 125, 3) := by decide +kernel
theorem dX6_gift_6 : decode cX6_gift 6 = .ok (.ifCond .ne 10, 3) := by decide +kernel
theorem dX6_gift_9 : decode cX6_gift 9 = .ok (.aload_n 0, 1) := by decide +kernel
theorem dX6_gift_10 : decode cX6_gift 10 = .ok (.ldc 64, 2) := by decide +kernel
theorem dX6_gift_12 : decode cX6_gift 12 = .ok (.invokevirtual 83, 3) := by decide +kernel
theorem dX6_gift_15 : decode cX6_gift 15 = .ok (.ireturn, 1) := by decide +kernel
theorem dX6_gift_16 : decode cX6_gift 16 = .ok (.aload_n 0, 1) := by decide +kernel
theorem dX6_gift_17 : decode cX6_gift 17 = .ok (.iload_n 1, 1) := by decide +kernel
theorem dX6_gift_18 : decode cX6_gift 18 = .ok (.iconst 2, 1) := by decide +kernel
theorem dX6_gift_19 : decode cX6_gift 19 = .ok (.iload_n 2, 1) := by decide +kernel
theorem dX6_gift_20 : decode cX6_gift 20 = .ok (.iadd, 1) := by decide +kernel
theorem dX6_gift_21 : decode cX6_gift 21 = .ok (.invokevirtual 93, 3) := by decide +kernel
theorem dX6_gift_24 : decode cX6_gift 24 = .ok (.iload_n 3, 1) := by decide +kernel
theorem dX6_gift_25 : decode cX6_gift 25 = .ok (.if_icmp .ge 10, 3) := by decide +kernel
theorem dX6_gift_28 : decode cX6_gift 28 = .ok (.aload_n 0, 1) := by decide +kernel
theorem dX6_gift_29 : decode cX6_gift 29 = .ok (.ldc 134, 2) := by decide +kernel
theorem dX6_gift_31 : decode cX6_gift 31 = .ok (.invokevirtual 83, 3) := by decide +kernel
theorem dX6_gift_34 : decode cX6_gift 34 = .ok (.ireturn, 1) := by decide +kernel
theorem dX6_gift_35 : decode cX6_gift 35 = .ok (.aload_n 0, 1) := by decide +kernel
theorem dX6_gift_36 : decode cX6_gift 36 = .ok (.getfield 9, 3) := by decide +kernel
theorem dX6_gift_39 : decode cX6_gift 39 = .ok (.iload_n 1, 1) := by decide +kernel
theorem dX6_gift_40 : decode cX6_gift 40 = .ok (.iconst 2, 1) := by decide +kernel
theorem dX6_gift_41 : decode cX6_gift 41 = .ok (.iload_n 2, 1) := by decide +kernel
theorem dX6_gift_42 : decode cX6_gift 42 = .ok (.iadd, 1) := by decide +kernel
theorem dX6_gift_43 : decode cX6_gift 43 = .ok (.invokestatic 60, 3) := by decide +kernel
theorem dX6_gift_46 : decode cX6_gift 46 = .ok (.dup2, 1) := by decide +kernel
theorem dX6_gift_47 : decode cX6_gift 47 = .ok (.iaload, 1) := by decide +kernel
theorem dX6_gift_48 : decode cX6_gift 48 = .ok (.iload_n 3, 1) := by decide +kernel
theorem dX6_gift_49 : decode cX6_gift 49 = .ok (.isub, 1) := by decide +kernel
theorem dX6_gift_50 : decode cX6_gift 50 = .ok (.iastore, 1) := by decide +kernel
theorem dX6_gift_51 : decode cX6_gift 51 = .ok (.aload_n 0, 1) := by decide +kernel
theorem dX6_gift_52 : decode cX6_gift 52 = .ok (.iconst 1, 1) := by decide +kernel
theorem dX6_gift_53 : decode cX6_gift 53 = .ok (.iload_n 1, 1) := by decide +kernel
theorem dX6_gift_54 : decode cX6_gift 54 = .ok (.isub, 1) := by decide +kernel
theorem dX6_gift_55 : decode cX6_gift 55 = .ok (.iload_n 2, 1) := by decide +kernel
theorem dX6_gift_56 : decode cX6_gift 56 = .ok (.iload_n 3, 1) := by decide +kernel
theorem dX6_gift_57 : decode cX6_gift 57 = .ok (.invokevirtual 148, 3) := by decide +kernel
theorem dX6_gift_60 : decode cX6_gift 60 = .ok (.aload_n 0, 1) := by decide +kernel
theorem dX6_gift_61 : decode cX6_gift 61 = .ok (.iconst 1, 1) := by decide +kernel
theorem dX6_gift_62 : decode cX6_gift 62 = .ok (.iload_n 1, 1) := by decide +kernel
theorem dX6_gift_63 : decode cX6_gift 63 = .ok (.isub, 1) := by decide +kernel
theorem dX6_gift_64 : decode cX6_gift 64 = .ok (.invokevirtual 159, 3) := by decide +kernel
theorem dX6_gift_67 : decode cX6_gift 67 = .ok (.aload_n 0, 1) := by decide +kernel
theorem dX6_gift_68 : decode cX6_gift 68 = .ok (.iconst 1, 1) := by decide +kernel
theorem dX6_gift_69 : decode cX6_gift 69 = .ok (.iload_n 1, 1) := by decide +kernel
theorem dX6_gift_70 : decode cX6_gift 70 = .ok (.isub, 1) := by decide +kernel
theorem dX6_gift_71 : decode cX6_gift 71 = .ok (.iconst 1, 1) := by decide +kernel
theorem dX6_gift_72 : decode cX6_gift 72 = .ok (.invokevirtual 93, 3) := by decide +kernel
theorem dX6_gift_75 : decode cX6_gift 75 = .ok (.ireturn, 1) := by decide +kernel
theorem dX6_bookAt_0 : decode cX6_bookAt 0 = .ok (.bipush 54, 2) := by decide +kernel
theorem dX6_bookAt_2 : decode cX6_bookAt 2 = .ok (.bipush 13, 2) := by decide +kernel
theorem dX6_bookAt_4 : decode cX6_bookAt 4 = .ok (.iload_n 0, 1) := by decide +kernel
theorem dX6_bookAt_5 : decode cX6_bookAt 5 = .ok (.bipush 12, 2) := by decide +kernel
theorem dX6_bookAt_7 : decode cX6_bookAt 7 = .ok (.irem, 1) := by decide +kernel
theorem dX6_bookAt_8 : decode cX6_bookAt 8 = .ok (.imul, 1) := by decide +kernel
theorem dX6_bookAt_9 : decode cX6_bookAt 9 = .ok (.iadd, 1) := by decide +kernel
theorem dX6_bookAt_10 : decode cX6_bookAt 10 = .ok (.iload_n 1, 1) := by decide +kernel
theorem dX6_bookAt_11 : decode cX6_bookAt 11 = .ok (.iadd, 1) := by decide +kernel
theorem dX6_bookAt_12 : decode cX6_bookAt 12 = .ok (.ireturn, 1) := by decide +kernel
set_option maxRecDepth 20000 in
theorem ggX6_writeBook_X6_bookAt : GoodIn wsX6_writeBook wsX6_bookAt := goodIn_r _ [5] (by decide +kernel) (by decide +kernel)
set_option maxRecDepth 20000 in
theorem gX6_writeBook_X6_bookAt : GoodIn wsX6_writeBook (va_wsS RX6 163 yX6_bookAt wsX6_bookAt) := goodIn_app (goodIn_of _ (by decide +kernel)) ggX6_writeBook_X6_bookAt
set_option maxRecDepth 20000 in
theorem ggX6_writeBook_X6_sideIs : GoodIn wsX6_writeBook wsX6_sideIs := goodIn_r _ [9, 1, 10, 11, 4, 12, 13, 14, 15, 16, 17, 18, 19, 20, 21, 22, 23, 24, 25, 26, 27, 28, 29, 30, 31, 32, 33, 34] (by decide +kernel) (by decide +kernel)
set_option maxRecDepth 20000 in
theorem gX6_writeBook_X6_sideIs : GoodIn wsX6_writeBook (wsV RX6 93 RX6 yX6_sideIs wsX6_sideIs) := goodIn_app (goodIn_of _ (by decide +kernel)) ggX6_writeBook_X6_sideIs
theorem dX6_writeBook_0 : decode cX6_writeBook 0 = .ok (.aload_n 0, 1) := by decide +kernel
theorem dX6_writeBook_1 : decode cX6_writeBook 1 = .ok (.getfield 9, 3) := by decide +kernel
theorem dX6_writeBook_4 : decode cX6_writeBook 4 = .ok (.iconst 0, 1) := by decide +kernel
theorem dX6_writeBook_5 : decode cX6_writeBook 5 = .ok (.iaload, 1) := by decide +kernel
theorem dX6_writeBook_6 : decode cX6_writeBook 6 = .ok (.istore_n 3, 1) := by decide +kernel
theorem dX6_writeBook_7 : decode cX6_writeBook 7 = .ok (.aload_n 0, 1) := by decide +kernel
theorem dX6_writeBook_8 : decode cX6_writeBook 8 = .ok (.getfield 9, 3) := by decide +kernel
theorem dX6_writeBook_11 : decode cX6_writeBook 11 = .ok (.iload_n 3, 1) := by decide +kernel
theorem dX6_writeBook_12 : decode cX6_writeBook 12 = .ok (.iconst 0, 1) := by decide +kernel
theorem dX6_writeBook_13 : decode cX6_writeBook 13 = .ok (.invokestatic 163, 3) := by decide +kernel
theorem dX6_writeBook_16 : decode cX6_writeBook 16 = .ok (.iload_n 2, 1) := by decide +kernel
theorem dX6_writeBook_17 : decode cX6_writeBook 17 = .ok (.iastore, 1) := by decide +kernel
theorem dX6_writeBook_18 : decode cX6_writeBook 18 = .ok (.aload_n 0, 1) := by decide +kernel
theorem dX6_writeBook_19 : decode cX6_writeBook 19 = .ok (.getfield 9, 3) := by decide +kernel
theorem dX6_writeBook_22 : decode cX6_writeBook 22 = .ok (.iload_n 3, 1) := by decide +kernel
theorem dX6_writeBook_23 : decode cX6_writeBook 23 = .ok (.iconst 1, 1) := by decide +kernel
theorem dX6_writeBook_24 : decode cX6_writeBook 24 = .ok (.invokestatic 163, 3) := by decide +kernel
theorem dX6_writeBook_27 : decode cX6_writeBook 27 = .ok (.aload_n 0, 1) := by decide +kernel
theorem dX6_writeBook_28 : decode cX6_writeBook 28 = .ok (.getfield 9, 3) := by decide +kernel
theorem dX6_writeBook_31 : decode cX6_writeBook 31 = .ok (.iconst 1, 1) := by decide +kernel
theorem dX6_writeBook_32 : decode cX6_writeBook 32 = .ok (.iaload, 1) := by decide +kernel
theorem dX6_writeBook_33 : decode cX6_writeBook 33 = .ok (.iastore, 1) := by decide +kernel
theorem dX6_writeBook_34 : decode cX6_writeBook 34 = .ok (.aload_n 0, 1) := by decide +kernel
theorem dX6_writeBook_35 : decode cX6_writeBook 35 = .ok (.getfield 9, 3) := by decide +kernel
theorem dX6_writeBook_38 : decode cX6_writeBook 38 = .ok (.iload_n 3, 1) := by decide +kernel
theorem dX6_writeBook_39 : decode cX6_writeBook 39 = .ok (.iconst 2, 1) := by decide +kernel
theorem dX6_writeBook_40 : decode cX6_writeBook 40 = .ok (.invokestatic 163, 3) := by decide +kernel
theorem dX6_writeBook_43 : decode cX6_writeBook 43 = .ok (.aload_n 0, 1) := by decide +kernel
theorem dX6_writeBook_44 : decode cX6_writeBook 44 = .ok (.iload_n 1, 1) := by decide +kernel
theorem dX6_writeBook_45 : decode cX6_writeBook 45 = .ok (.iconst 1, 1) := by decide +kernel
theorem dX6_writeBook_46 : decode cX6_writeBook 46 = .ok (.invokevirtual 93, 3) := by decide +kernel
theorem dX6_writeBook_49 : decode cX6_writeBook 49 = .ok (.iastore, 1) := by decide +kernel
theorem dX6_writeBook_50 : decode cX6_writeBook 50 = .ok (.iconst 0, 1) := by decide +kernel
theorem dX6_writeBook_51 : decode cX6_writeBook 51 = .ok (.istore 4, 2) := by decide +kernel
theorem dX6_writeBook_53 : decode cX6_writeBook 53 = .ok (.iload 4, 2) := by decide +kernel
theorem dX6_writeBook_55 : decode cX6_writeBook 55 = .ok (.iconst 5, 1) := by decide +kernel
theorem dX6_writeBook_56 : decode cX6_writeBook 56 = .ok (.if_icmp .ge 56, 3) := by decide +kernel
theorem dX6_writeBook_59 : decode cX6_writeBook 59 = .ok (.aload_n 0, 1) := by decide +kernel
theorem dX6_writeBook_60 : decode cX6_writeBook 60 = .ok (.getfield 9, 3) := by decide +kernel
theorem dX6_writeBook_63 : decode cX6_writeBook 63 = .ok (.iload_n 3, 1) := by decide +kernel
theorem dX6_writeBook_64 : decode cX6_writeBook 64 = .ok (.iconst 3, 1) := by decide +kernel
theorem dX6_writeBook_65 : decode cX6_writeBook 65 = .ok (.iload 4, 2) := by decide +kernel
theorem dX6_writeBook_67 : decode cX6_writeBook 67 = .ok (.iadd, 1) := by decide +kernel
theorem dX6_writeBook_68 : decode cX6_writeBook 68 = .ok (.invokestatic 163, 3) := by decide +kernel
theorem dX6_writeBook_71 : decode cX6_writeBook 71 = .ok (.aload_n 0, 1) := by decide +kernel
theorem dX6_writeBook_72 : decode cX6_writeBook 72 = .ok (.iconst 0, 1) := by decide +kernel
theorem dX6_writeBook_73 : decode cX6_writeBook 73 = .ok (.bipush 7, 2) := by decide +kernel
theorem dX6_writeBook_75 : decode cX6_writeBook 75 = .ok (.iload 4, 2) := by decide +kernel
theorem dX6_writeBook_77 : decode cX6_writeBook 77 = .ok (.iadd, 1) := by decide +kernel
theorem dX6_writeBook_78 : decode cX6_writeBook 78 = .ok (.invokevirtual 93, 3) := by decide +kernel
theorem dX6_writeBook_81 : decode cX6_writeBook 81 = .ok (.iastore, 1) := by decide +kernel
theorem dX6_writeBook_82 : decode cX6_writeBook 82 = .ok (.aload_n 0, 1) := by decide +kernel
theorem dX6_writeBook_83 : decode cX6_writeBook 83 = .ok (.getfield 9, 3) := by decide +kernel
theorem dX6_writeBook_86 : decode cX6_writeBook 86 = .ok (.iload_n 3, 1) := by decide +kernel
theorem dX6_writeBook_87 : decode cX6_writeBook 87 = .ok (.bipush 8, 2) := by decide +kernel
theorem dX6_writeBook_89 : decode cX6_writeBook 89 = .ok (.iload 4, 2) := by decide +kernel
theorem dX6_writeBook_91 : decode cX6_writeBook 91 = .ok (.iadd, 1) := by decide +kernel
theorem dX6_writeBook_92 : decode cX6_writeBook 92 = .ok (.invokestatic 163, 3) := by decide +kernel
theorem dX6_writeBook_95 : decode cX6_writeBook 95 = .ok (.aload_n 0, 1) := by decide +kernel
theorem dX6_writeBook_96 : decode cX6_writeBook 96 = .ok (.iconst 1, 1) := by decide +kernel
theorem dX6_writeBook_97 : decode cX6_writeBook 97 = .ok (.bipush 7, 2) := by decide +kernel
theorem dX6_writeBook_99 : decode cX6_writeBook 99 = .ok (.iload 4, 2) := by decide +kernel
theorem dX6_writeBook_101 : decode cX6_writeBook 101 = .ok (.iadd, 1) := by decide +kernel
theorem dX6_writeBook_102 : decode cX6_writeBook 102 = .ok (.invokevirtual 93, 3) := by decide +kernel
theorem dX6_writeBook_105 : decode cX6_writeBook 105 = .ok (.iastore, 1) := by decide +kernel
theorem dX6_writeBook_106 : decode cX6_writeBook 106 = .ok (.iinc 4 1, 3) := by decide +kernel
theorem dX6_writeBook_109 : decode cX6_writeBook 109 = .ok (.goto (-56), 3) := by decide +kernel
theorem dX6_writeBook_112 : decode cX6_writeBook 112 = .ok (.return_, 1) := by decide +kernel
set_option maxRecDepth 20000 in
theorem ggX6_birds_X6_sideIs : GoodIn wsX6_birds wsX6_sideIs := goodIn_r _ [6, 1, 7, 8, 5, 9, 18, 19, 20, 21, 22, 23, 24, 25, 26, 27, 28, 29, 30, 31, 32, 33, 34, 35, 36, 37, 38, 39] (by decide +kernel) (by decide +kernel)
set_option maxRecDepth 20000 in
theorem gX6_birds_X6_sideIs : GoodIn wsX6_birds (wsV RX6 93 RX6 yX6_sideIs wsX6_sideIs) := goodIn_app (goodIn_of _ (by decide +kernel)) ggX6_birds_X6_sideIs
set_option maxRecDepth 20000 in
theorem ggX6_birds_X6_eatenOf : GoodIn wsX6_birds wsX6_eatenOf := goodIn_r _ [13, 1, 14, 15, 16, 17, 18, 19, 20, 21, 22, 23, 24, 25, 26, 27, 28, 29, 30, 31, 32, 33, 34, 35, 36, 37, 38, 39] (by decide +kernel) (by decide +kernel)
set_option maxRecDepth 20000 in
theorem gX6_birds_X6_eatenOf : GoodIn wsX6_birds (wsV RX6 119 RX6 yX6_eatenOf wsX6_eatenOf) := goodIn_app (goodIn_of _ (by decide +kernel)) ggX6_birds_X6_eatenOf
set_option maxRecDepth 20000 in
theorem ggX6_birds_X6_at : GoodIn wsX6_birds wsX6_at := goodIn_r _ [9] (by decide +kernel) (by decide +kernel)
set_option maxRecDepth 20000 in
theorem gX6_birds_X6_at : GoodIn wsX6_birds (va_wsS RX6 60 yX6_at wsX6_at) := goodIn_app (goodIn_of _ (by decide +kernel)) ggX6_birds_X6_at
theorem dX6_birds_0 : decode cX6_birds 0 = .ok (.iconst 0, 1) := by decide +kernel
theorem dX6_birds_1 : decode cX6_birds 1 = .ok (.istore_n 2, 1) := by decide +kernel
theorem dX6_birds_2 : decode cX6_birds 2 = .ok (.iload_n 2, 1) := by decide +kernel
theorem dX6_birds_3 : decode cX6_birds 3 = .ok (.iconst 5, 1) := by decide +kernel
theorem dX6_birds_4 : decode cX6_birds 4 = .ok (.if_icmp .ge 51, 3) := by decide +kernel
theorem dX6_birds_7 : decode cX6_birds 7 = .ok (.aload_n 0, 1) := by decide +kernel
theorem dX6_birds_8 : decode cX6_birds 8 = .ok (.iload_n 2, 1) := by decide +kernel
theorem dX6_birds_9 : decode cX6_birds 9 = .ok (.aload_n 0, 1) := by decide +kernel
theorem dX6_birds_10 : decode cX6_birds 10 = .ok (.iload_n 1, 1) := by decide +kernel
theorem dX6_birds_11 : decode cX6_birds 11 = .ok (.bipush 7, 2) := by decide +kernel
theorem dX6_birds_13 : decode cX6_birds 13 = .ok (.iload_n 2, 1) := by decide +kernel
theorem dX6_birds_14 : decode cX6_birds 14 = .ok (.iadd, 1) := by decide +kernel
theorem dX6_birds_15 : decode cX6_birds 15 = .ok (.invokevirtual 93, 3) := by decide +kernel
theorem dX6_birds_18 : decode cX6_birds 18 = .ok (.invokevirtual 119, 3) := by decide +kernel
theorem dX6_birds_21 : decode cX6_birds 21 = .ok (.istore_n 3, 1) := by decide +kernel
theorem dX6_birds_22 : decode cX6_birds 22 = .ok (.aload_n 0, 1) := by decide +kernel
theorem dX6_birds_23 : decode cX6_birds 23 = .ok (.getfield 9, 3) := by decide +kernel
theorem dX6_birds_26 : decode cX6_birds 26 = .ok (.iload_n 1, 1) := by decide +kernel
theorem dX6_birds_27 : decode cX6_birds 27 = .ok (.bipush 7, 2) := by decide +kernel
theorem dX6_birds_29 : decode cX6_birds 29 = .ok (.iload_n 2, 1) := by decide +kernel
theorem dX6_birds_30 : decode cX6_birds 30 = .ok (.iadd, 1) := by decide +kernel
theorem dX6_birds_31 : decode cX6_birds 31 = .ok (.invokestatic 60, 3) := by decide +kernel
theorem dX6_birds_34 : decode cX6_birds 34 = .ok (.dup2, 1) := by decide +kernel
theorem dX6_birds_35 : decode cX6_birds 35 = .ok (.iaload, 1) := by decide +kernel
theorem dX6_birds_36 : decode cX6_birds 36 = .ok (.iload_n 3, 1) := by decide +kernel
theorem dX6_birds_37 : decode cX6_birds 37 = .ok (.isub, 1) := by decide +kernel
theorem dX6_birds_38 : decode cX6_birds 38 = .ok (.iastore, 1) := by decide +kernel
theorem dX6_birds_39 : decode cX6_birds 39 = .ok (.aload_n 0, 1) := by decide +kernel
theorem dX6_birds_40 : decode cX6_birds 40 = .ok (.getfield 9, 3) := by decide +kernel
theorem dX6_birds_43 : decode cX6_birds 43 = .ok (.iconst 3, 1) := by decide +kernel
theorem dX6_birds_44 : decode cX6_birds 44 = .ok (.dup2, 1) := by decide +kernel
theorem dX6_birds_45 : decode cX6_birds 45 = .ok (.iaload, 1) := by decide +kernel
theorem dX6_birds_46 : decode cX6_birds 46 = .ok (.iload_n 3, 1) := by decide +kernel
theorem dX6_birds_47 : decode cX6_birds 47 = .ok (.iadd, 1) := by decide +kernel
theorem dX6_birds_48 : decode cX6_birds 48 = .ok (.iastore, 1) := by decide +kernel
theorem dX6_birds_49 : decode cX6_birds 49 = .ok (.iinc 2 1, 3) := by decide +kernel
theorem dX6_birds_52 : decode cX6_birds 52 = .ok (.goto (-50), 3) := by decide +kernel
theorem dX6_birds_55 : decode cX6_birds 55 = .ok (.return_, 1) := by decide +kernel
set_option maxRecDepth 20000 in
theorem ggX6_night_X6_wouldDo : GoodIn wsX6_night wsX6_wouldDo := goodIn_r _ [6, 7, 8, 9, 5, 10, 1, 11, 12, 13, 14, 15, 16, 17, 18, 19, 20, 21, 22, 23, 24, 25, 26, 27, 28, 29, 30, 31, 32, 33, 34, 35, 36, 37, 38, 39, 40, 41, 42, 43, 83, 84, 85, 86, 87, 88, 89, 90, 91, 92, 93, 94, 95, 96, 97, 98, 99, 100, 101, 102, 103, 104] (by decide +kernel) (by decide +kernel)
set_option maxRecDepth 20000 in
theorem gX6_night_X6_wouldDo : GoodIn wsX6_night (wsV RX6 141 RX6 yX6_wouldDo wsX6_wouldDo) := goodIn_app (goodIn_of _ (by decide +kernel)) ggX6_night_X6_wouldDo
set_option maxRecDepth 20000 in
theorem ggX6_night_X6_writeBook : GoodIn wsX6_night wsX6_writeBook := goodIn_r _ [47, 1, 48, 49, 5, 50, 7, 8, 9, 10, 11, 12, 13, 83, 84, 85, 86, 87, 88, 89, 90, 91, 92, 93, 94, 95, 96, 97, 98, 99, 100, 101, 102, 103, 104] (by decide +kernel) (by decide +kernel)
set_option maxRecDepth 20000 in
theorem gX6_night_X6_writeBook : GoodIn wsX6_night (wsV RX6 166 RX6 yX6_writeBook wsX6_writeBook) := goodIn_app (goodIn_of _ (by decide +kernel)) ggX6_night_X6_writeBook
set_option maxRecDepth 20000 in
theorem ggX6_night_X6_goesHome : GoodIn wsX6_night wsX6_goesHome := goodIn_r _ [54, 11, 12, 5, 13, 55, 56, 57, 58, 1, 59, 60, 61, 62, 63, 64, 65, 66, 7, 8, 9, 10, 83, 84, 85, 86, 87, 88, 89, 90, 91, 92, 93, 94, 95, 96, 97, 98, 99, 100, 101, 102, 103, 104] (by decide +kernel) (by decide +kernel)
set_option maxRecDepth 20000 in
theorem gX6_night_X6_goesHome : GoodIn wsX6_night (wsV RX6 152 RX6 yX6_goesHome wsX6_goesHome) := goodIn_app (goodIn_of _ (by decide +kernel)) ggX6_night_X6_goesHome
set_option maxRecDepth 20000 in
theorem ggX6_night_X6_trusts : GoodIn wsX6_night wsX6_trusts := goodIn_r _ [70, 1, 63, 64, 65, 66, 11, 12, 5, 13, 7, 8, 9, 10, 83, 84, 85, 86, 87, 88, 89, 90, 91, 92, 93, 94, 95, 96, 97, 98, 99, 100, 101, 102, 103, 104] (by decide +kernel) (by decide +kernel)
set_option maxRecDepth 20000 in
theorem gX6_night_X6_trusts : GoodIn wsX6_night (wsV RX6 159 RX6 yX6_trusts wsX6_trusts) := goodIn_app (goodIn_of _ (by decide +kernel)) ggX6_night_X6_trusts
set_option maxRecDepth 20000 in
theorem ggX6_night_X6_dearest : GoodIn wsX6_night wsX6_dearest := goodIn_r _ [74, 7, 8, 9, 5, 10, 1, 11, 12, 13, 30, 31, 32, 33, 34, 35, 36, 37, 38, 39, 40, 41, 42, 43, 83, 84, 85, 86, 87, 88, 89, 90, 91, 92, 93, 94, 95, 96, 97, 98, 99, 100, 101, 102, 103, 104] (by decide +kernel) (by decide +kernel)
set_option maxRecDepth 20000 in
theorem gX6_night_X6_dearest : GoodIn wsX6_night (wsV RX6 144 RX6 yX6_dearest wsX6_dearest) := goodIn_app (goodIn_of _ (by decide +kernel)) ggX6_night_X6_dearest
set_option maxRecDepth 20000 in
theorem ggX6_night_X6_at : GoodIn wsX6_night wsX6_at := goodIn_r _ [13] (by decide +kernel) (by decide +kernel)
set_option maxRecDepth 20000 in
theorem gX6_night_X6_at : GoodIn wsX6_night (va_wsS RX6 60 yX6_at wsX6_at) := goodIn_app (goodIn_of _ (by decide +kernel)) ggX6_night_X6_at
set_option maxRecDepth 20000 in
theorem ggX6_night_X6_comesHome : GoodIn wsX6_night wsX6_comesHome := goodIn_r _ [62, 1, 63, 64, 65, 66, 11, 12, 5, 13, 7, 8, 9, 10, 83, 84, 85, 86, 87, 88, 89, 90, 91, 92, 93, 94, 95, 96, 97, 98, 99, 100, 101, 102, 103, 104] (by decide +kernel) (by decide +kernel)
set_option maxRecDepth 20000 in
theorem gX6_night_X6_comesHome : GoodIn wsX6_night (wsV RX6 148 RX6 yX6_comesHome wsX6_comesHome) := goodIn_app (goodIn_of _ (by decide +kernel)) ggX6_night_X6_comesHome
set_option maxRecDepth 20000 in
theorem ggX6_night_X6_birds : GoodIn wsX6_night wsX6_birds := goodIn_r _ [78, 1, 7, 8, 9, 5, 10, 11, 12, 13, 79, 80, 81, 82, 63, 64, 65, 66, 83, 84, 85, 86, 87, 88, 89, 90, 91, 92, 93, 94, 95, 96, 97, 98, 99, 100, 101, 102, 103, 104] (by decide +kernel) (by decide +kernel)
set_option maxRecDepth 20000 in
theorem gX6_night_X6_birds : GoodIn wsX6_night (wsV RX6 169 RX6 yX6_birds wsX6_birds) := goodIn_app (goodIn_of _ (by decide +kernel)) ggX6_night_X6_birds
theorem dX6_night_0 : decode cX6_night 0 = .ok (.aload_n 0, 1) := by decide +kernel
theorem dX6_night_1 : decode cX6_night 1 = .ok (.getfield 9, 3) := by decide +kernel
theorem dX6_night_4 : decode cX6_night 4 = .ok (.iconst 0, 1) := by decide +kernel
theorem dX6_night_5 : decode cX6_night 5 = .ok (.iaload, 1) := by decide +kernel
theorem dX6_night_6 : decode cX6_night 6 = .ok (.iconst 2, 1) := by decide +kernel
theorem dX6_night_7 : decode cX6_night 7 = .ok (.irem, 1) := by decide +kernel
theorem dX6_night_8 : decode cX6_night 8 = .ok (.istore_n 1, 1) := by decide +kernel
theorem dX6_night_9 : decode cX6_night 9 = .ok (.aload_n 0, 1) := by decide +kernel
theorem dX6_night_10 : decode cX6_night 10 = .ok (.iload_n 1, 1) := by decide +kernel
theorem dX6_night_11 : decode cX6_night 11 = .ok (.invokevirtual 141, 3) := by decide +kernel
theorem dX6_night_14 : decode cX6_night 14 = .ok (.istore_n 2, 1) := by decide +kernel
theorem dX6_night_15 : decode cX6_night 15 = .ok (.aload_n 0, 1) := by decide +kernel
theorem dX6_night_16 : decode cX6_night 16 = .ok (.iload_n 1, 1) := by decide +kernel
theorem dX6_night_17 : decode cX6_night 17 = .ok (.iload_n 2, 1) := by decide +kernel
theorem dX6_night_18 : decode cX6_night 18 = .ok (.invokevirtual 166, 3) := by decide +kernel
theorem dX6_night_21 : decode cX6_night 21 = .ok (.iload_n 2, 1) := by decide +kernel
theorem dX6_night_22 : decode cX6_night 22 = .ok (.iconst 1, 1) := by decide +kernel
theorem dX6_night_23 : decode cX6_night 23 = .ok (.if_icmp .ne 44, 3) := by decide +kernel
theorem dX6_night_26 : decode cX6_night 26 = .ok (.aload_n 0, 1) := by decide +kernel
theorem dX6_night_27 : decode cX6_night 27 = .ok (.iload_n 1, 1) := by decide +kernel
theorem dX6_night_28 : decode cX6_night 28 = .ok (.iconst 1, 1) := by decide +kernel
theorem dX6_night_29 : decode cX6_night 29 = .ok (.iload_n 1, 1) := by decide +kernel
theorem dX6_night_30 : decode cX6_night 30 = .ok (.isub, 1) := by decide +kernel
theorem dX6_night_31 : decode cX6_night 31 = .ok (.invokevirtual 152, 3) := by decide +kernel
theorem dX6_night_34 : decode cX6_night 34 = .ok (.aload_n 0, 1) := by decide +kernel
theorem dX6_night_35 : decode cX6_night 35 = .ok (.iconst 1, 1) := by decide +kernel
theorem dX6_night_36 : decode cX6_night 36 = .ok (.iload_n 1, 1) := by decide +kernel
theorem dX6_night_37 : decode cX6_night 37 = .ok (.isub, 1) := by decide +kernel
theorem dX6_night_38 : decode cX6_night 38 = .ok (.iload_n 1, 1) := by decide +kernel
theorem dX6_night_39 : decode cX6_night 39 = .ok (.invokevirtual 152, 3) := by decide +kernel
theorem dX6_night_42 : decode cX6_night 42 = .ok (.aload_n 0, 1) := by decide +kernel
theorem dX6_night_43 : decode cX6_night 43 = .ok (.iload_n 1, 1) := by decide +kernel
theorem dX6_night_44 : decode cX6_night 44 = .ok (.invokevirtual 159, 3) := by decide +kernel
theorem dX6_night_47 : decode cX6_night 47 = .ok (.aload_n 0, 1) := by decide +kernel
theorem dX6_night_48 : decode cX6_night 48 = .ok (.iconst 1, 1) := by decide +kernel
theorem dX6_night_49 : decode cX6_night 49 = .ok (.iload_n 1, 1) := by decide +kernel
theorem dX6_night_50 : decode cX6_night 50 = .ok (.isub, 1) := by decide +kernel
theorem dX6_night_51 : decode cX6_night 51 = .ok (.invokevirtual 159, 3) := by decide +kernel
theorem dX6_night_54 : decode cX6_night 54 = .ok (.aload_n 0, 1) := by decide +kernel
theorem dX6_night_55 : decode cX6_night 55 = .ok (.getfield 9, 3) := by decide +kernel
theorem dX6_night_58 : decode cX6_night 58 = .ok (.iconst 2, 1) := by decide +kernel
theorem dX6_night_59 : decode cX6_night 59 = .ok (.dup2, 1) := by decide +kernel
theorem dX6_night_60 : decode cX6_night 60 = .ok (.iaload, 1) := by decide +kernel
theorem dX6_night_61 : decode cX6_night 61 = .ok (.iconst 1, 1) := by decide +kernel
theorem dX6_night_62 : decode cX6_night 62 = .ok (.iadd, 1) := by decide +kernel
theorem dX6_night_63 : decode cX6_night 63 = .ok (.iastore, 1) := by decide +kernel
theorem dX6_night_64 : decode cX6_night 64 = .ok (.goto 52, 3) := by decide +kernel
theorem dX6_night_67 : decode cX6_night 67 = .ok (.iload_n 2, 1) := by decide +kernel
theorem dX6_night_68 : decode cX6_night 68 = .ok (.iconst 2, 1) := by decide +kernel
theorem dX6_night_69 : decode cX6_night 69 = .ok (.if_icmp .ne 36, 3) := by decide +kernel
theorem dX6_night_72 : decode cX6_night 72 = .ok (.aload_n 0, 1) := by decide +kernel
theorem dX6_night_73 : decode cX6_night 73 = .ok (.iload_n 1, 1) := by decide +kernel
theorem dX6_night_74 : decode cX6_night 74 = .ok (.invokevirtual 144, 3) := by decide +kernel
theorem dX6_night_77 : decode cX6_night 77 = .ok (.istore_n 3, 1) := by decide +kernel
theorem dX6_night_78 : decode cX6_night 78 = .ok (.aload_n 0, 1) := by decide +kernel
theorem dX6_night_79 : decode cX6_night 79 = .ok (.getfield 9, 3) := by decide +kernel
theorem dX6_night_82 : decode cX6_night 82 = .ok (.iload_n 1, 1) := by decide +kernel
theorem dX6_night_83 : decode cX6_night 83 = .ok (.bipush 7, 2) := by decide +kernel
theorem dX6_night_85 : decode cX6_night 85 = .ok (.iload_n 3, 1) := by decide +kernel
theorem dX6_night_86 : decode cX6_night 86 = .ok (.iadd, 1) := by decide +kernel
theorem dX6_night_87 : decode cX6_night 87 = .ok (.invokestatic 60, 3) := by decide +kernel
theorem dX6_night_90 : decode cX6_night 90 = .ok (.dup2, 1) := by decide +kernel
theorem dX6_night_91 : decode cX6_night 91 = .ok (.iaload, 1) := by decide +kernel
theorem dX6_night_92 : decode cX6_night 92 = .ok (.iconst 1, 1) := by decide +kernel
theorem dX6_night_93 : decode cX6_night 93 = .ok (.isub, 1) := by decide +kernel
theorem dX6_night_94 : decode cX6_night 94 = .ok (.iastore, 1) := by decide +kernel
theorem dX6_night_95 : decode cX6_night 95 = .ok (.aload_n 0, 1) := by decide +kernel
theorem dX6_night_96 : decode cX6_night 96 = .ok (.iload_n 1, 1) := by decide +kernel
theorem dX6_night_97 : decode cX6_night 97 = .ok (.iload_n 3, 1) := by decide +kernel
theorem dX6_night_98 : decode cX6_night 98 = .ok (.iconst 1, 1) := by decide +kernel
theorem dX6_night_99 : decode cX6_night 99 = .ok (.invokevirtual 148, 3) := by decide +kernel
theorem dX6_night_102 : decode cX6_night 102 = .ok (.goto 14, 3) := by decide +kernel
theorem dX6_night_105 : decode cX6_night 105 = .ok (.iload_n 2, 1) := by decide +kernel
theorem dX6_night_106 : decode cX6_night 106 = .ok (.iconst 3, 1) := by decide +kernel
theorem dX6_night_107 : decode cX6_night 107 = .ok (.if_icmp .ne 9, 3) := by decide +kernel
theorem dX6_night_110 : decode cX6_night 110 = .ok (.aload_n 0, 1) := by decide +kernel
theorem dX6_night_111 : decode cX6_night 111 = .ok (.iload_n 1, 1) := by decide +kernel
theorem dX6_night_112 : decode cX6_night 112 = .ok (.iload_n 1, 1) := by decide +kernel
theorem dX6_night_113 : decode cX6_night 113 = .ok (.invokevirtual 152, 3) := by decide +kernel
theorem dX6_night_116 : decode cX6_night 116 = .ok (.aload_n 0, 1) := by decide +kernel
theorem dX6_night_117 : decode cX6_night 117 = .ok (.iconst 0, 1) := by decide +kernel
theorem dX6_night_118 : decode cX6_night 118 = .ok (.invokevirtual 169, 3) := by decide +kernel
theorem dX6_night_121 : decode cX6_night 121 = .ok (.aload_n 0, 1) := by decide +kernel
theorem dX6_night_122 : decode cX6_night 122 = .ok (.iconst 1, 1) := by decide +kernel
theorem dX6_night_123 : decode cX6_night 123 = .ok (.invokevirtual 169, 3) := by decide +kernel
theorem dX6_night_126 : decode cX6_night 126 = .ok (.aload_n 0, 1) := by decide +kernel
theorem dX6_night_127 : decode cX6_night 127 = .ok (.getfield 9, 3) := by decide +kernel
theorem dX6_night_130 : decode cX6_night 130 = .ok (.iconst 0, 1) := by decide +kernel
theorem dX6_night_131 : decode cX6_night 131 = .ok (.dup2, 1) := by decide +kernel
theorem dX6_night_132 : decode cX6_night 132 = .ok (.iaload, 1) := by decide +kernel
theorem dX6_night_133 : decode cX6_night 133 = .ok (.iconst 1, 1) := by decide +kernel
theorem dX6_night_134 : decode cX6_night 134 = .ok (.iadd, 1) := by decide +kernel
theorem dX6_night_135 : decode cX6_night 135 = .ok (.iastore, 1) := by decide +kernel
theorem dX6_night_136 : decode cX6_night 136 = .ok (.iload_n 2, 1) := by decide +kernel
theorem dX6_night_137 : decode cX6_night 137 = .ok (.ireturn, 1) := by decide +kernel
set_option maxRecDepth 20000 in
theorem ggX6_nightsGo_X6_night : GoodIn wsX6_nightsGo wsX6_night := goodIn_r _ [5, 6, 7, 8, 9, 4, 10, 11, 12, 13, 14, 15, 16, 17, 18, 19, 20, 21, 22, 23, 24, 25, 26, 27, 28, 29, 30, 31, 32, 33, 34, 35, 36, 37, 38, 39, 40, 41, 42, 43, 44, 45, 46, 47, 48, 49, 50, 51, 52, 53, 54, 55, 56, 57, 58, 59, 60, 61, 62, 63, 64, 65, 66, 67, 68, 69, 70, 71, 72, 73, 74, 75, 76, 77, 78, 79, 80, 81, 82, 83, 84, 85, 86, 87, 88, 89, 90, 91, 92, 93, 94, 95, 96, 97, 98, 99, 100, 101, 102, 103, 104, 105, 106, 107, 108] (by decide +kernel) (by decide +kernel)
set_option maxRecDepth 20000 in
theorem gX6_nightsGo_X6_night : GoodIn wsX6_nightsGo (wsV RX6 172 RX6 yX6_night wsX6_night) := goodIn_app (goodIn_of _ (by decide +kernel)) ggX6_nightsGo_X6_night
theorem dX6_nightsGo_0 : decode cX6_nightsGo 0 = .ok (.iconst 0, 1) := by decide +kernel
theorem dX6_nightsGo_1 : decode cX6_nightsGo 1 = .ok (.istore_n 2, 1) := by decide +kernel
theorem dX6_nightsGo_2 : decode cX6_nightsGo 2 = .ok (.iconst 0, 1) := by decide +kernel
theorem dX6_nightsGo_3 : decode cX6_nightsGo 3 = .ok (.istore_n 3, 1) := by decide +kernel
theorem dX6_nightsGo_4 : decode cX6_nightsGo 4 = .ok (.iload_n 3, 1) := by decide +kernel
theorem dX6_nightsGo_5 : decode cX6_nightsGo 5 = .ok (.iload_n 1, 1) := by decide +kernel
theorem dX6_nightsGo_6 : decode cX6_nightsGo 6 = .ok (.if_icmp .ge 25, 3) := by decide +kernel
theorem dX6_nightsGo_9 : decode cX6_nightsGo 9 = .ok (.iload_n 2, 1) := by decide +kernel
theorem dX6_nightsGo_10 : decode cX6_nightsGo 10 = .ok (.aload_n 0, 1) := by decide +kernel
theorem dX6_nightsGo_11 : decode cX6_nightsGo 11 = .ok (.invokevirtual 172, 3) := by decide +kernel
theorem dX6_nightsGo_14 : decode cX6_nightsGo 14 = .ok (.iconst 1, 1) := by decide +kernel
theorem dX6_nightsGo_15 : decode cX6_nightsGo 15 = .ok (.if_icmp .ne 7, 3) := by decide +kernel
theorem dX6_nightsGo_18 : decode cX6_nightsGo 18 = .ok (.iconst 1, 1) := by decide +kernel
theorem dX6_nightsGo_19 : decode cX6_nightsGo 19 = .ok (.goto 4, 3) := by decide +kernel
theorem dX6_nightsGo_22 : decode cX6_nightsGo 22 = .ok (.iconst 0, 1) := by decide +kernel
theorem dX6_nightsGo_23 : decode cX6_nightsGo 23 = .ok (.iadd, 1) := by decide +kernel
theorem dX6_nightsGo_24 : decode cX6_nightsGo 24 = .ok (.istore_n 2, 1) := by decide +kernel
theorem dX6_nightsGo_25 : decode cX6_nightsGo 25 = .ok (.iinc 3 1, 3) := by decide +kernel
theorem dX6_nightsGo_28 : decode cX6_nightsGo 28 = .ok (.goto (-24), 3) := by decide +kernel
theorem dX6_nightsGo_31 : decode cX6_nightsGo 31 = .ok (.iload_n 2, 1) := by decide +kernel
theorem dX6_nightsGo_32 : decode cX6_nightsGo 32 = .ok (.ireturn, 1) := by decide +kernel
theorem dX6_isTooLate_0 : decode cX6_isTooLate 0 = .ok (.aload_n 0, 1) := by decide +kernel
theorem dX6_isTooLate_1 : decode cX6_isTooLate 1 = .ok (.getfield 9, 3) := by decide +kernel
theorem dX6_isTooLate_4 : decode cX6_isTooLate 4 = .ok (.iconst 0, 1) := by decide +kernel
theorem dX6_isTooLate_5 : decode cX6_isTooLate 5 = .ok (.iaload, 1) := by decide +kernel
theorem dX6_isTooLate_6 : decode cX6_isTooLate 6 = .ok (.iload_n 1, 1) := by decide +kernel
theorem dX6_isTooLate_7 : decode cX6_isTooLate 7 = .ok (.iadd, 1) := by decide +kernel
theorem dX6_isTooLate_8 : decode cX6_isTooLate 8 = .ok (.sipush 9999, 3) := by decide +kernel
theorem dX6_isTooLate_11 : decode cX6_isTooLate 11 = .ok (.if_icmp .le 7, 3) := by decide +kernel
theorem dX6_isTooLate_14 : decode cX6_isTooLate 14 = .ok (.iconst 1, 1) := by decide +kernel
theorem dX6_isTooLate_15 : decode cX6_isTooLate 15 = .ok (.goto 4, 3) := by decide +kernel
theorem dX6_isTooLate_18 : decode cX6_isTooLate 18 = .ok (.iconst 0, 1) := by decide +kernel
theorem dX6_isTooLate_19 : decode cX6_isTooLate 19 = .ok (.ireturn, 1) := by decide +kernel
set_option maxRecDepth 20000 in
theorem ggX6_nights_X6_within : GoodIn wsX6_nights wsX6_within := goodIn_r _ [6] (by decide +kernel) (by decide +kernel)
set_option maxRecDepth 20000 in
theorem gX6_nights_X6_within : GoodIn wsX6_nights (va_wsS RX6 69 yX6_within wsX6_within) := goodIn_app (goodIn_of _ (by decide +kernel)) ggX6_nights_X6_within
set_option maxRecDepth 20000 in
theorem ggX6_nights_X6_finding : GoodIn wsX6_nights wsX6_finding := goodIn_r _ [10, 11, 1, 105, 106, 107, 108, 109, 110, 111, 112, 113, 114, 115, 116, 117, 118, 119, 120, 121, 122, 123, 124, 125, 126] (by decide +kernel) (by decide +kernel)
set_option maxRecDepth 20000 in
theorem gX6_nights_X6_finding : GoodIn wsX6_nights (wsV RX6 83 RX6 yX6_finding wsX6_finding) := goodIn_app (goodIn_of _ (by decide +kernel)) ggX6_nights_X6_finding
set_option maxRecDepth 20000 in
theorem ggX6_nights_X6_isTooLate : GoodIn wsX6_nights wsX6_isTooLate := goodIn_r _ [15, 16, 105, 106, 107, 108, 109, 110, 111, 112, 113, 114, 115, 116, 117, 118, 119, 120, 121, 122, 123, 124, 125, 126] (by decide +kernel) (by decide +kernel)
set_option maxRecDepth 20000 in
theorem gX6_nights_X6_isTooLate : GoodIn wsX6_nights (wsV RX6 176 RX6 yX6_isTooLate wsX6_isTooLate) := goodIn_app (goodIn_of _ (by decide +kernel)) ggX6_nights_X6_isTooLate
set_option maxRecDepth 20000 in
theorem ggX6_nights_X6_nightsGo : GoodIn wsX6_nights wsX6_nightsGo := goodIn_r _ [20, 21, 22, 23, 5, 24, 16, 25, 26, 27, 28, 29, 30, 31, 32, 33, 34, 35, 36, 37, 38, 39, 40, 41, 42, 43, 44, 45, 46, 47, 48, 49, 50, 51, 52, 53, 54, 55, 56, 57, 58, 59, 60, 61, 62, 63, 64, 65, 66, 67, 68, 69, 70, 71, 72, 73, 74, 75, 76, 77, 78, 79, 80, 81, 82, 83, 84, 85, 86, 87, 88, 89, 90, 91, 92, 93, 94, 95, 96, 97, 98, 99, 100, 101, 102, 103, 104, 105, 106, 107, 108, 109, 110, 111, 112, 113, 114, 115, 116, 117, 118, 119, 120, 121, 122, 123, 124, 125, 126] (by decide +kernel) (by decide +kernel)
set_option maxRecDepth 20000 in
theorem gX6_nights_X6_nightsGo : GoodIn wsX6_nights (wsV RX6 179 RX6 yX6_nightsGo wsX6_nightsGo) := goodIn_app (goodIn_of _ (by decide +kernel)) ggX6_nights_X6_nightsGo
theorem dX6_nights_0 : decode cX6_nights 0 = .ok (.iload_n 1, 1) := by decide +kernel
theorem dX6_nights_1 : decode cX6_nights 1 = .ok (.iconst 1, 1) := by decide +kernel
theorem dX6_nights_2 : decode cX6_nights 2 = .ok (.bipush 60, 2) := by decide +kernel
theorem dX6_nights_4 : decode cX6_nights 4 = .ok (.invokestatic 69, 3) := by decide +kernel
theorem dX6_nights_7 : decode cX6_nights 7 = .ok (.ifCond .ne 10, 3) := by decide +kernel
theorem dX6_nights_10 : decode cX6_nights 10 = .ok (.aload_n 0, 1) := by decide +kernel
theorem dX6_nights_11 : decode cX6_nights 11 = .ok (.ldc 64, 2) := by decide +kernel
theorem dX6_nights_13 : decode cX6_nights 13 = .ok (.invokevirtual 83, 3) := by decide +kernel
theorem dX6_nights_16 : decode cX6_nights 16 = .ok (.ireturn, 1) := by decide +kernel
theorem dX6_nights_17 : decode cX6_nights 17 = .ok (.aload_n 0, 1) := by decide +kernel
theorem dX6_nights_18 : decode cX6_nights 18 = .ok (.iload_n 1, 1) := by decide +kernel
theorem dX6_nights_19 : decode cX6_nights 19 = .ok (.invokevirtual 176, 3) := by decide +kernel
theorem dX6_nights_22 : decode cX6_nights 22 = .ok (.ifCond .eq 12, 3) := by decide +kernel
theorem dX6_nights_25 : decode cX6_nights 25 = .ok (.aload_n 0, 1) := by decide +kernel
theorem dX6_nights_26 : decode cX6_nights 26 = .ok (.ldc 134, 2) := by decide +kernel
theorem dX6_nights_28 : decode cX6_nights 28 = .ok (.invokevirtual 83, 3) := by decide +kernel
theorem dX6_nights_31 : decode cX6_nights 31 = .ok (.goto 8, 3) := by decide +kernel
theorem dX6_nights_34 : decode cX6_nights 34 = .ok (.aload_n 0, 1) := by decide +kernel
theorem dX6_nights_35 : decode cX6_nights 35 = .ok (.iload_n 1, 1) := by decide +kernel
theorem dX6_nights_36 : decode cX6_nights 36 = .ok (.invokevirtual 179, 3) := by decide +kernel
theorem dX6_nights_39 : decode cX6_nights 39 = .ok (.ireturn, 1) := by decide +kernel
set_option maxRecDepth 20000 in
theorem ggX6_inHeaps_X6_sum : GoodIn wsX6_inHeaps wsX6_sum := goodIn_r _ [5, 6, 7, 8, 4, 9, 10, 11, 12, 13, 14, 15, 16, 17, 18, 19, 20, 21, 22, 23, 24, 25, 26, 27, 28, 29, 30, 31, 32, 33, 34, 35] (by decide +kernel) (by decide +kernel)
set_option maxRecDepth 20000 in
theorem gX6_inHeaps_X6_sum : GoodIn wsX6_inHeaps (wsV RX6 122 RX6 yX6_sum wsX6_sum) := goodIn_app (goodIn_of _ (by decide +kernel)) ggX6_inHeaps_X6_sum
theorem dX6_inHeaps_0 : decode cX6_inHeaps 0 = .ok (.aload_n 0, 1) := by decide +kernel
theorem dX6_inHeaps_1 : decode cX6_inHeaps 1 = .ok (.iconst 0, 1) := by decide +kernel
theorem dX6_inHeaps_2 : decode cX6_inHeaps 2 = .ok (.bipush 7, 2) := by decide +kernel
theorem dX6_inHeaps_4 : decode cX6_inHeaps 4 = .ok (.invokevirtual 122, 3) := by decide +kernel
theorem dX6_inHeaps_7 : decode cX6_inHeaps 7 = .ok (.aload_n 0, 1) := by decide +kernel
theorem dX6_inHeaps_8 : decode cX6_inHeaps 8 = .ok (.iconst 1, 1) := by decide +kernel
theorem dX6_inHeaps_9 : decode cX6_inHeaps 9 = .ok (.bipush 7, 2) := by decide +kernel
theorem dX6_inHeaps_11 : decode cX6_inHeaps 11 = .ok (.invokevirtual 122, 3) := by decide +kernel
theorem dX6_inHeaps_14 : decode cX6_inHeaps 14 = .ok (.iadd, 1) := by decide +kernel
theorem dX6_inHeaps_15 : decode cX6_inHeaps 15 = .ok (.ireturn, 1) := by decide +kernel
set_option maxRecDepth 20000 in
theorem ggX6_now_X6_sum : GoodIn wsX6_now wsX6_sum := goodIn_r _ [11, 12, 13, 14, 10, 15, 1, 16, 17, 18, 24, 25, 26, 27, 28, 29, 30, 31, 32, 33, 34, 35, 36, 37, 38, 39, 40, 41, 42, 43, 44, 45] (by decide +kernel) (by decide +kernel)
set_option maxRecDepth 20000 in
theorem gX6_now_X6_sum : GoodIn wsX6_now (wsV RX6 122 RX6 yX6_sum wsX6_sum) := goodIn_app (goodIn_of _ (by decide +kernel)) ggX6_now_X6_sum
set_option maxRecDepth 20000 in
theorem ggX6_now_X6_finding : GoodIn wsX6_now wsX6_finding := goodIn_r _ [22, 23, 6, 24, 25, 26, 27, 28, 29, 30, 31, 32, 33, 34, 35, 36, 37, 38, 39, 40, 41, 42, 43, 44, 45] (by decide +kernel) (by decide +kernel)
set_option maxRecDepth 20000 in
theorem gX6_now_X6_finding : GoodIn wsX6_now (wsV RX6 83 RX6 yX6_finding wsX6_finding) := goodIn_app (goodIn_of _ (by decide +kernel)) ggX6_now_X6_finding
theorem dX6_now_0 : decode cX6_now 0 = .ok (.iload_n 1, 1) := by decide +kernel
theorem dX6_now_1 : decode cX6_now 1 = .ok (.tableswitch 106 0 6 #[43, 50, 58, 66, 80, 92, 99], 43) := by decide +kernel
theorem dX6_now_44 : decode cX6_now 44 = .ok (.aload_n 0, 1) := by decide +kernel
theorem dX6_now_45 : decode cX6_now 45 = .ok (.getfield 9, 3) := by decide +kernel
theorem dX6_now_48 : decode cX6_now 48 = .ok (.iconst 0, 1) := by decide +kernel
theorem dX6_now_49 : decode cX6_now 49 = .ok (.iaload, 1) := by decide +kernel
theorem dX6_now_50 : decode cX6_now 50 = .ok (.ireturn, 1) := by decide +kernel
theorem dX6_now_51 : decode cX6_now 51 = .ok (.aload_n 0, 1) := by decide +kernel
theorem dX6_now_52 : decode cX6_now 52 = .ok (.iconst 0, 1) := by decide +kernel
theorem dX6_now_53 : decode cX6_now 53 = .ok (.bipush 7, 2) := by decide +kernel
theorem dX6_now_55 : decode cX6_now 55 = .ok (.invokevirtual 122, 3) := by decide +kernel
theorem dX6_now_58 : decode cX6_now 58 = .ok (.ireturn, 1) := by decide +kernel
theorem dX6_now_59 : decode cX6_now 59 = .ok (.aload_n 0, 1) := by decide +kernel
theorem dX6_now_60 : decode cX6_now 60 = .ok (.iconst 1, 1) := by decide +kernel
theorem dX6_now_61 : decode cX6_now 61 = .ok (.bipush 7, 2) := by decide +kernel
theorem dX6_now_63 : decode cX6_now 63 = .ok (.invokevirtual 122, 3) := by decide +kernel
theorem dX6_now_66 : decode cX6_now 66 = .ok (.ireturn, 1) := by decide +kernel
theorem dX6_now_67 : decode cX6_now 67 = .ok (.aload_n 0, 1) := by decide +kernel
theorem dX6_now_68 : decode cX6_now 68 = .ok (.iconst 0, 1) := by decide +kernel
theorem dX6_now_69 : decode cX6_now 69 = .ok (.iconst 2, 1) := by decide +kernel
theorem dX6_now_70 : decode cX6_now 70 = .ok (.invokevirtual 122, 3) := by decide +kernel
theorem dX6_now_73 : decode cX6_now 73 = .ok (.aload_n 0, 1) := by decide +kernel
theorem dX6_now_74 : decode cX6_now 74 = .ok (.iconst 1, 1) := by decide +kernel
theorem dX6_now_75 : decode cX6_now 75 = .ok (.iconst 2, 1) := by decide +kernel
theorem dX6_now_76 : decode cX6_now 76 = .ok (.invokevirtual 122, 3) := by decide +kernel
theorem dX6_now_79 : decode cX6_now 79 = .ok (.iadd, 1) := by decide +kernel
theorem dX6_now_80 : decode cX6_now 80 = .ok (.ireturn, 1) := by decide +kernel
theorem dX6_now_81 : decode cX6_now 81 = .ok (.bipush 12, 2) := by decide +kernel
theorem dX6_now_83 : decode cX6_now 83 = .ok (.aload_n 0, 1) := by decide +kernel
theorem dX6_now_84 : decode cX6_now 84 = .ok (.getfield 9, 3) := by decide +kernel
theorem dX6_now_87 : decode cX6_now 87 = .ok (.iconst 0, 1) := by decide +kernel
theorem dX6_now_88 : decode cX6_now 88 = .ok (.iaload, 1) := by decide +kernel
theorem dX6_now_89 : decode cX6_now 89 = .ok (.invokestatic 111, 3) := by decide +kernel
theorem dX6_now_92 : decode cX6_now 92 = .ok (.ireturn, 1) := by decide +kernel
theorem dX6_now_93 : decode cX6_now 93 = .ok (.aload_n 0, 1) := by decide +kernel
theorem dX6_now_94 : decode cX6_now 94 = .ok (.getfield 9, 3) := by decide +kernel
theorem dX6_now_97 : decode cX6_now 97 = .ok (.iconst 1, 1) := by decide +kernel
theorem dX6_now_98 : decode cX6_now 98 = .ok (.iaload, 1) := by decide +kernel
theorem dX6_now_99 : decode cX6_now 99 = .ok (.ireturn, 1) := by decide +kernel
theorem dX6_now_100 : decode cX6_now 100 = .ok (.aload_n 0, 1) := by decide +kernel
theorem dX6_now_101 : decode cX6_now 101 = .ok (.getfield 9, 3) := by decide +kernel
theorem dX6_now_104 : decode cX6_now 104 = .ok (.iconst 2, 1) := by decide +kernel
theorem dX6_now_105 : decode cX6_now 105 = .ok (.iaload, 1) := by decide +kernel
theorem dX6_now_106 : decode cX6_now 106 = .ok (.ireturn, 1) := by decide +kernel
theorem dX6_now_107 : decode cX6_now 107 = .ok (.aload_n 0, 1) := by decide +kernel
theorem dX6_now_108 : decode cX6_now 108 = .ok (.ldc 64, 2) := by decide +kernel
theorem dX6_now_110 : decode cX6_now 110 = .ok (.invokevirtual 83, 3) := by decide +kernel
theorem dX6_now_113 : decode cX6_now 113 = .ok (.ireturn, 1) := by decide +kernel
set_option maxRecDepth 20000 in
theorem ggX6_ahead_X6_within : GoodIn wsX6_ahead wsX6_within := goodIn_r _ [8] (by decide +kernel) (by decide +kernel)
set_option maxRecDepth 20000 in
theorem gX6_ahead_X6_within : GoodIn wsX6_ahead (va_wsS RX6 69 yX6_within wsX6_within) := goodIn_app (goodIn_of _ (by decide +kernel)) ggX6_ahead_X6_within
set_option maxRecDepth 20000 in
theorem ggX6_ahead_X6_finding : GoodIn wsX6_ahead wsX6_finding := goodIn_r _ [12, 13, 1, 121, 122, 123, 124, 125, 126, 127, 128, 129, 130, 131, 132, 133, 134, 135, 136, 137, 138, 139, 140, 141, 142] (by decide +kernel) (by decide +kernel)
set_option maxRecDepth 20000 in
theorem gX6_ahead_X6_finding : GoodIn wsX6_ahead (wsV RX6 83 RX6 yX6_finding wsX6_finding) := goodIn_app (goodIn_of _ (by decide +kernel)) ggX6_ahead_X6_finding
set_option maxRecDepth 20000 in
theorem ggX6_ahead_X6_isTooLate : GoodIn wsX6_ahead wsX6_isTooLate := goodIn_r _ [17, 3, 121, 122, 123, 124, 125, 126, 127, 128, 129, 130, 131, 132, 133, 134, 135, 136, 137, 138, 139, 140, 141, 142] (by decide +kernel) (by decide +kernel)
set_option maxRecDepth 20000 in
theorem gX6_ahead_X6_isTooLate : GoodIn wsX6_ahead (wsV RX6 176 RX6 yX6_isTooLate wsX6_isTooLate) := goodIn_app (goodIn_of _ (by decide +kernel)) ggX6_ahead_X6_isTooLate
set_option maxRecDepth 20000 in
theorem ggX6_ahead_X6_copyRow : GoodIn wsX6_ahead wsX6_copyRow := goodIn_r _ [20] (by decide +kernel) (by decide +kernel)
set_option maxRecDepth 20000 in
theorem gX6_ahead_X6_copyRow : GoodIn wsX6_ahead (va_wsS RX6 65 yX6_copyRow wsX6_copyRow) := goodIn_app (goodIn_of _ (by decide +kernel)) ggX6_ahead_X6_copyRow
set_option maxRecDepth 20000 in
theorem ggX6_ahead_X6_allOf : GoodIn wsX6_ahead wsX6_allOf := goodIn_r _ [24, 25, 26, 27, 7, 28, 3, 29, 30, 31, 32, 33, 34, 35, 36, 37, 38, 39, 40, 41, 42, 43, 44, 45, 121, 122, 123, 124, 125, 126, 127, 128, 129, 130, 131, 132, 133, 134, 135, 136, 137, 138, 139, 140, 141, 142] (by decide +kernel) (by decide +kernel)
set_option maxRecDepth 20000 in
theorem gX6_ahead_X6_allOf : GoodIn wsX6_ahead (wsV RX6 182 RX6 yX6_allOf wsX6_allOf) := goodIn_app (goodIn_of _ (by decide +kernel)) ggX6_ahead_X6_allOf
set_option maxRecDepth 20000 in
theorem ggX6_ahead_X6_nightsGo : GoodIn wsX6_ahead wsX6_nightsGo := goodIn_r _ [49, 50, 51, 52, 7, 53, 3, 54, 55, 56, 57, 25, 26, 27, 28, 29, 30, 31, 58, 59, 60, 61, 62, 63, 64, 65, 66, 67, 68, 69, 70, 71, 72, 73, 32, 33, 34, 35, 36, 37, 38, 39, 40, 41, 42, 43, 44, 45, 74, 75, 76, 77, 78, 79, 80, 81, 82, 83, 84, 85, 86, 87, 88, 89, 90, 91, 92, 93, 94, 95, 96, 97, 98, 99, 100, 101, 102, 103, 104, 105, 106, 107, 108, 109, 110, 111, 112, 121, 122, 123, 124, 125, 126, 127, 128, 129, 130, 131, 132, 133, 134, 135, 136, 137, 138, 139, 140, 141, 142] (by decide +kernel) (by decide +kernel)
set_option maxRecDepth 20000 in
theorem gX6_ahead_X6_nightsGo : GoodIn wsX6_ahead (wsV RX6 179 RX6 yX6_nightsGo wsX6_nightsGo) := goodIn_app (goodIn_of _ (by decide +kernel)) ggX6_ahead_X6_nightsGo
set_option maxRecDepth 20000 in
theorem ggX6_ahead_X6_inHeaps : GoodIn wsX6_ahead wsX6_inHeaps := goodIn_r _ [116, 62, 63, 64, 7, 65, 25, 26, 27, 28, 3, 29, 30, 31, 121, 122, 123, 124, 125, 126, 127, 128, 129, 130, 131, 132, 133, 134, 135, 136, 137, 138, 139, 140, 141, 142] (by decide +kernel) (by decide +kernel)
set_option maxRecDepth 20000 in
theorem gX6_ahead_X6_inHeaps : GoodIn wsX6_ahead (wsV RX6 185 RX6 yX6_inHeaps wsX6_inHeaps) := goodIn_app (goodIn_of _ (by decide +kernel)) ggX6_ahead_X6_inHeaps
set_option maxRecDepth 20000 in
theorem ggX6_ahead_X6_putBack : GoodIn wsX6_ahead wsX6_putBack := goodIn_r _ [120, 4, 3, 18, 19, 7, 20, 121, 122, 123, 124, 125, 126, 127, 128, 129, 130, 131, 132, 133, 134, 135, 136, 137, 138, 139, 140, 141, 142] (by decide +kernel) (by decide +kernel)
set_option maxRecDepth 20000 in
theorem gX6_ahead_X6_putBack : GoodIn wsX6_ahead (wsV RX6 188 RX6 yX6_putBack wsX6_putBack) := goodIn_app (goodIn_of _ (by decide +kernel)) ggX6_ahead_X6_putBack
theorem dX6_ahead_0 : decode cX6_ahead 0 = .ok (.iload_n 1, 1) := by decide +kernel
theorem dX6_ahead_1 : decode cX6_ahead 1 = .ok (.iconst 0, 1) := by decide +kernel
theorem dX6_ahead_2 : decode cX6_ahead 2 = .ok (.bipush 60, 2) := by decide +kernel
theorem dX6_ahead_4 : decode cX6_ahead 4 = .ok (.invokestatic 69, 3) := by decide +kernel
theorem dX6_ahead_7 : decode cX6_ahead 7 = .ok (.ifCond .eq 12, 3) := by decide +kernel
theorem dX6_ahead_10 : decode cX6_ahead 10 = .ok (.iload_n 2, 1) := by decide +kernel
theorem dX6_ahead_11 : decode cX6_ahead 11 = .ok (.iconst 0, 1) := by decide +kernel
theorem dX6_ahead_12 : decode cX6_ahead 12 = .ok (.iconst 4, 1) := by decide +kernel
theorem dX6_ahead_13 : decode cX6_ahead 13 = .ok (.invokestatic 69, 3) := by decide +kernel
theorem dX6_ahead_16 : decode cX6_ahead 16 = .ok (.ifCond .ne 10, 3) := by decide +kernel
theorem dX6_ahead_19 : decode cX6_ahead 19 = .ok (.aload_n 0, 1) := by decide +kernel
theorem dX6_ahead_20 : decode cX6_ahead 20 = .ok (.ldc 64, 2) := by decide +kernel
theorem dX6_ahead_22 : decode cX6_ahead 22 = .ok (.invokevirtual 83, 3) := by decide +kernel
theorem dX6_ahead_25 : decode cX6_ahead 25 = .ok (.ireturn, 1) := by decide +kernel
theorem dX6_ahead_26 : decode cX6_ahead 26 = .ok (.aload_n 0, 1) := by decide +kernel
theorem dX6_ahead_27 : decode cX6_ahead 27 = .ok (.iload_n 1, 1) := by decide +kernel
theorem dX6_ahead_28 : decode cX6_ahead 28 = .ok (.invokevirtual 176, 3) := by decide +kernel
theorem dX6_ahead_31 : decode cX6_ahead 31 = .ok (.ifCond .eq 10, 3) := by decide +kernel
theorem dX6_ahead_34 : decode cX6_ahead 34 = .ok (.aload_n 0, 1) := by decide +kernel
theorem dX6_ahead_35 : decode cX6_ahead 35 = .ok (.ldc 134, 2) := by decide +kernel
theorem dX6_ahead_37 : decode cX6_ahead 37 = .ok (.invokevirtual 83, 3) := by decide +kernel
theorem dX6_ahead_40 : decode cX6_ahead 40 = .ok (.ireturn, 1) := by decide +kernel
theorem dX6_ahead_41 : decode cX6_ahead 41 = .ok (.aload_n 0, 1) := by decide +kernel
theorem dX6_ahead_42 : decode cX6_ahead 42 = .ok (.getfield 9, 3) := by decide +kernel
theorem dX6_ahead_45 : decode cX6_ahead 45 = .ok (.aload_n 0, 1) := by decide +kernel
theorem dX6_ahead_46 : decode cX6_ahead 46 = .ok (.getfield 16, 3) := by decide +kernel
theorem dX6_ahead_49 : decode cX6_ahead 49 = .ok (.invokestatic 65, 3) := by decide +kernel
theorem dX6_ahead_52 : decode cX6_ahead 52 = .ok (.iload_n 2, 1) := by decide +kernel
theorem dX6_ahead_53 : decode cX6_ahead 53 = .ok (.iconst 2, 1) := by decide +kernel
theorem dX6_ahead_54 : decode cX6_ahead 54 = .ok (.if_icmp .le 13, 3) := by decide +kernel
theorem dX6_ahead_57 : decode cX6_ahead 57 = .ok (.aload_n 0, 1) := by decide +kernel
theorem dX6_ahead_58 : decode cX6_ahead 58 = .ok (.iload_n 2, 1) := by decide +kernel
theorem dX6_ahead_59 : decode cX6_ahead 59 = .ok (.iconst 3, 1) := by decide +kernel
theorem dX6_ahead_60 : decode cX6_ahead 60 = .ok (.isub, 1) := by decide +kernel
theorem dX6_ahead_61 : decode cX6_ahead 61 = .ok (.invokevirtual 182, 3) := by decide +kernel
theorem dX6_ahead_64 : decode cX6_ahead 64 = .ok (.goto 4, 3) := by decide +kernel
theorem dX6_ahead_67 : decode cX6_ahead 67 = .ok (.iconst 0, 1) := by decide +kernel
theorem dX6_ahead_68 : decode cX6_ahead 68 = .ok (.istore_n 3, 1) := by decide +kernel
theorem dX6_ahead_69 : decode cX6_ahead 69 = .ok (.aload_n 0, 1) := by decide +kernel
theorem dX6_ahead_70 : decode cX6_ahead 70 = .ok (.getfield 9, 3) := by decide +kernel
theorem dX6_ahead_73 : decode cX6_ahead 73 = .ok (.iconst 3, 1) := by decide +kernel
theorem dX6_ahead_74 : decode cX6_ahead 74 = .ok (.iaload, 1) := by decide +kernel
theorem dX6_ahead_75 : decode cX6_ahead 75 = .ok (.istore 4, 2) := by decide +kernel
theorem dX6_ahead_77 : decode cX6_ahead 77 = .ok (.aload_n 0, 1) := by decide +kernel
theorem dX6_ahead_78 : decode cX6_ahead 78 = .ok (.iload_n 1, 1) := by decide +kernel
theorem dX6_ahead_79 : decode cX6_ahead 79 = .ok (.invokevirtual 179, 3) := by decide +kernel
theorem dX6_ahead_82 : decode cX6_ahead 82 = .ok (.istore 5, 2) := by decide +kernel
theorem dX6_ahead_84 : decode cX6_ahead 84 = .ok (.aload_n 0, 1) := by decide +kernel
theorem dX6_ahead_85 : decode cX6_ahead 85 = .ok (.iload_n 2, 1) := by decide +kernel
theorem dX6_ahead_86 : decode cX6_ahead 86 = .ok (.ifCond .ne 8, 3) := by decide +kernel
theorem dX6_ahead_89 : decode cX6_ahead 89 = .ok (.iload 5, 2) := by decide +kernel
theorem dX6_ahead_91 : decode cX6_ahead 91 = .ok (.goto 41, 3) := by decide +kernel
theorem dX6_ahead_94 : decode cX6_ahead 94 = .ok (.iload_n 2, 1) := by decide +kernel
theorem dX6_ahead_95 : decode cX6_ahead 95 = .ok (.iconst 1, 1) := by decide +kernel
theorem dX6_ahead_96 : decode cX6_ahead 96 = .ok (.if_icmp .ne 10, 3) := by decide +kernel
theorem dX6_ahead_99 : decode cX6_ahead 99 = .ok (.aload_n 0, 1) := by decide +kernel
theorem dX6_ahead_100 : decode cX6_ahead 100 = .ok (.invokevirtual 185, 3) := by decide +kernel
theorem dX6_ahead_103 : decode cX6_ahead 103 = .ok (.goto 29, 3) := by decide +kernel
theorem dX6_ahead_106 : decode cX6_ahead 106 = .ok (.iload_n 2, 1) := by decide +kernel
theorem dX6_ahead_107 : decode cX6_ahead 107 = .ok (.iconst 2, 1) := by decide +kernel
theorem dX6_ahead_108 : decode cX6_ahead 108 = .ok (.if_icmp .ne 15, 3) := by decide +kernel
theorem dX6_ahead_111 : decode cX6_ahead 111 = .ok (.aload_n 0, 1) := by decide +kernel
theorem dX6_ahead_112 : decode cX6_ahead 112 = .ok (.getfield 9, 3) := by decide +kernel
theorem dX6_ahead_115 : decode cX6_ahead 115 = .ok (.iconst 3, 1) := by decide +kernel
theorem dX6_ahead_116 : decode cX6_ahead 116 = .ok (.iaload, 1) := by decide +kernel
theorem dX6_ahead_117 : decode cX6_ahead 117 = .ok (.iload 4, 2) := by decide +kernel
theorem dX6_ahead_119 : decode cX6_ahead 119 = .ok (.isub, 1) := by decide +kernel
theorem dX6_ahead_120 : decode cX6_ahead 120 = .ok (.goto 12, 3) := by decide +kernel
theorem dX6_ahead_123 : decode cX6_ahead 123 = .ok (.aload_n 0, 1) := by decide +kernel
theorem dX6_ahead_124 : decode cX6_ahead 124 = .ok (.iload_n 2, 1) := by decide +kernel
theorem dX6_ahead_125 : decode cX6_ahead 125 = .ok (.iconst 3, 1) := by decide +kernel
theorem dX6_ahead_126 : decode cX6_ahead 126 = .ok (.isub, 1) := by decide +kernel
theorem dX6_ahead_127 : decode cX6_ahead 127 = .ok (.invokevirtual 182, 3) := by decide +kernel
theorem dX6_ahead_130 : decode cX6_ahead 130 = .ok (.iload_n 3, 1) := by decide +kernel
theorem dX6_ahead_131 : decode cX6_ahead 131 = .ok (.isub, 1) := by decide +kernel
theorem dX6_ahead_132 : decode cX6_ahead 132 = .ok (.invokevirtual 188, 3) := by decide +kernel
theorem dX6_ahead_135 : decode cX6_ahead 135 = .ok (.ireturn, 1) := by decide +kernel
set_option maxRecDepth 20000 in
theorem ggX6_isLate_X6_isTooLate : GoodIn wsX6_isLate wsX6_isTooLate := goodIn_r _ [5, 6, 7, 8, 9, 10, 11, 12, 13, 14, 15, 16, 17, 18, 19, 20, 21, 22, 23, 24, 25, 26, 27, 28] (by decide +kernel) (by decide +kernel)
set_option maxRecDepth 20000 in
theorem gX6_isLate_X6_isTooLate : GoodIn wsX6_isLate (wsV RX6 176 RX6 yX6_isTooLate wsX6_isTooLate) := goodIn_app (goodIn_of _ (by decide +kernel)) ggX6_isLate_X6_isTooLate
theorem dX6_isLate_0 : decode cX6_isLate 0 = .ok (.aload_n 0, 1) := by decide +kernel
theorem dX6_isLate_1 : decode cX6_isLate 1 = .ok (.bipush 60, 2) := by decide +kernel
theorem dX6_isLate_3 : decode cX6_isLate 3 = .ok (.invokevirtual 176, 3) := by decide +kernel
theorem dX6_isLate_6 : decode cX6_isLate 6 = .ok (.ireturn, 1) := by decide +kernel
set_option maxRecDepth 20000 in
theorem ggX6_struck_X6_isLate : GoodIn wsX6_struck wsX6_isLate := goodIn_r _ [9, 10, 11, 12, 8, 13, 2, 111, 112, 113, 114, 115, 116, 117, 118, 119, 120, 121, 122, 123, 124, 125, 126, 127, 128, 129, 130, 131, 132] (by decide +kernel) (by decide +kernel)
set_option maxRecDepth 20000 in
theorem gX6_struck_X6_isLate : GoodIn wsX6_struck (wsV RX6 191 RX6 yX6_isLate wsX6_isLate) := goodIn_app (goodIn_of _ (by decide +kernel)) ggX6_struck_X6_isLate
set_option maxRecDepth 20000 in
theorem ggX6_struck_X6_finding : GoodIn wsX6_struck wsX6_finding := goodIn_r _ [17, 18, 19, 111, 112, 113, 114, 115, 116, 117, 118, 119, 120, 121, 122, 123, 124, 125, 126, 127, 128, 129, 130, 131, 132] (by decide +kernel) (by decide +kernel)
set_option maxRecDepth 20000 in
theorem gX6_struck_X6_finding : GoodIn wsX6_struck (wsV RX6 83 RX6 yX6_finding wsX6_finding) := goodIn_app (goodIn_of _ (by decide +kernel)) ggX6_struck_X6_finding
set_option maxRecDepth 20000 in
theorem ggX6_struck_X6_copyRow : GoodIn wsX6_struck wsX6_copyRow := goodIn_r _ [22] (by decide +kernel) (by decide +kernel)
set_option maxRecDepth 20000 in
theorem gX6_struck_X6_copyRow : GoodIn wsX6_struck (va_wsS RX6 65 yX6_copyRow wsX6_copyRow) := goodIn_app (goodIn_of _ (by decide +kernel)) ggX6_struck_X6_copyRow
set_option maxRecDepth 20000 in
theorem ggX6_struck_X6_night : GoodIn wsX6_struck wsX6_night := goodIn_r _ [26, 2, 27, 28, 29, 8, 30, 31, 32, 33, 34, 35, 36, 37, 38, 39, 40, 41, 42, 43, 44, 45, 46, 47, 48, 49, 50, 51, 52, 53, 54, 55, 56, 57, 58, 59, 60, 61, 62, 63, 64, 65, 66, 67, 68, 69, 70, 71, 72, 73, 74, 75, 76, 77, 78, 79, 80, 81, 82, 83, 84, 85, 86, 87, 88, 89, 90, 91, 92, 93, 94, 95, 96, 97, 98, 99, 100, 101, 102, 103, 104, 105, 106, 111, 112, 113, 114, 115, 116, 117, 118, 119, 120, 121, 122, 123, 124, 125, 126, 127, 128, 129, 130, 131, 132] (by decide +kernel) (by decide +kernel)
set_option maxRecDepth 20000 in
theorem gX6_struck_X6_night : GoodIn wsX6_struck (wsV RX6 172 RX6 yX6_night wsX6_night) := goodIn_app (goodIn_of _ (by decide +kernel)) ggX6_struck_X6_night
set_option maxRecDepth 20000 in
theorem ggX6_struck_X6_putBack : GoodIn wsX6_struck wsX6_putBack := goodIn_r _ [110, 3, 2, 20, 21, 8, 22, 111, 112, 113, 114, 115, 116, 117, 118, 119, 120, 121, 122, 123, 124, 125, 126, 127, 128, 129, 130, 131, 132] (by decide +kernel) (by decide +kernel)
set_option maxRecDepth 20000 in
theorem gX6_struck_X6_putBack : GoodIn wsX6_struck (wsV RX6 188 RX6 yX6_putBack wsX6_putBack) := goodIn_app (goodIn_of _ (by decide +kernel)) ggX6_struck_X6_putBack
theorem dX6_struck_0 : decode cX6_struck 0 = .ok (.aload_n 0, 1) := by decide +kernel
theorem dX6_struck_1 : decode cX6_struck 1 = .ok (.invokevirtual 191, 3) := by decide +kernel
theorem dX6_struck_4 : decode cX6_struck 4 = .ok (.ifCond .eq 10, 3) := by decide +kernel
theorem dX6_struck_7 : decode cX6_struck 7 = .ok (.aload_n 0, 1) := by decide +kernel
theorem dX6_struck_8 : decode cX6_struck 8 = .ok (.ldc 134, 2) := by decide +kernel
theorem dX6_struck_10 : decode cX6_struck 10 = .ok (.invokevirtual 83, 3) := by decide +kernel
theorem dX6_struck_13 : decode cX6_struck 13 = .ok (.ireturn, 1) := by decide +kernel
theorem dX6_struck_14 : decode cX6_struck 14 = .ok (.aload_n 0, 1) := by decide +kernel
theorem dX6_struck_15 : decode cX6_struck 15 = .ok (.getfield 9, 3) := by decide +kernel
theorem dX6_struck_18 : decode cX6_struck 18 = .ok (.aload_n 0, 1) := by decide +kernel
theorem dX6_struck_19 : decode cX6_struck 19 = .ok (.getfield 16, 3) := by decide +kernel
theorem dX6_struck_22 : decode cX6_struck 22 = .ok (.invokestatic 65, 3) := by decide +kernel
theorem dX6_struck_25 : decode cX6_struck 25 = .ok (.iconst 0, 1) := by decide +kernel
theorem dX6_struck_26 : decode cX6_struck 26 = .ok (.istore_n 1, 1) := by decide +kernel
theorem dX6_struck_27 : decode cX6_struck 27 = .ok (.iconst 0, 1) := by decide +kernel
theorem dX6_struck_28 : decode cX6_struck 28 = .ok (.istore_n 2, 1) := by decide +kernel
theorem dX6_struck_29 : decode cX6_struck 29 = .ok (.iload_n 1, 1) := by decide +kernel
theorem dX6_struck_30 : decode cX6_struck 30 = .ok (.bipush 60, 2) := by decide +kernel
theorem dX6_struck_32 : decode cX6_struck 32 = .ok (.if_icmp .ge 27, 3) := by decide +kernel
theorem dX6_struck_35 : decode cX6_struck 35 = .ok (.iload_n 2, 1) := by decide +kernel
theorem dX6_struck_36 : decode cX6_struck 36 = .ok (.ifCond .ne 23, 3) := by decide +kernel
theorem dX6_struck_39 : decode cX6_struck 39 = .ok (.aload_n 0, 1) := by decide +kernel
theorem dX6_struck_40 : decode cX6_struck 40 = .ok (.invokevirtual 172, 3) := by decide +kernel
theorem dX6_struck_43 : decode cX6_struck 43 = .ok (.iconst 1, 1) := by decide +kernel
theorem dX6_struck_44 : decode cX6_struck 44 = .ok (.if_icmp .ne 7, 3) := by decide +kernel
theorem dX6_struck_47 : decode cX6_struck 47 = .ok (.iconst 1, 1) := by decide +kernel
theorem dX6_struck_48 : decode cX6_struck 48 = .ok (.goto 4, 3) := by decide +kernel
theorem dX6_struck_51 : decode cX6_struck 51 = .ok (.iconst 0, 1) := by decide +kernel
theorem dX6_struck_52 : decode cX6_struck 52 = .ok (.istore_n 2, 1) := by decide +kernel
theorem dX6_struck_53 : decode cX6_struck 53 = .ok (.iinc 1 1, 3) := by decide +kernel
theorem dX6_struck_56 : decode cX6_struck 56 = .ok (.goto (-27), 3) := by decide +kernel
theorem dX6_struck_59 : decode cX6_struck 59 = .ok (.aload_n 0, 1) := by decide +kernel
theorem dX6_struck_60 : decode cX6_struck 60 = .ok (.iload_n 2, 1) := by decide +kernel
theorem dX6_struck_61 : decode cX6_struck 61 = .ok (.ifCond .eq 7, 3) := by decide +kernel
theorem dX6_struck_64 : decode cX6_struck 64 = .ok (.iconst 1, 1) := by decide +kernel
theorem dX6_struck_65 : decode cX6_struck 65 = .ok (.goto 4, 3) := by decide +kernel
theorem dX6_struck_68 : decode cX6_struck 68 = .ok (.iconst 0, 1) := by decide +kernel
theorem dX6_struck_69 : decode cX6_struck 69 = .ok (.invokevirtual 188, 3) := by decide +kernel
theorem dX6_struck_72 : decode cX6_struck 72 = .ok (.ifCond .ne 12, 3) := by decide +kernel
theorem dX6_struck_75 : decode cX6_struck 75 = .ok (.aload_n 0, 1) := by decide +kernel
theorem dX6_struck_76 : decode cX6_struck 76 = .ok (.ldc 147, 2) := by decide +kernel
theorem dX6_struck_78 : decode cX6_struck 78 = .ok (.invokevirtual 83, 3) := by decide +kernel
theorem dX6_struck_81 : decode cX6_struck 81 = .ok (.goto 4, 3) := by decide +kernel
theorem dX6_struck_84 : decode cX6_struck 84 = .ok (.iload_n 1, 1) := by decide +kernel
theorem dX6_struck_85 : decode cX6_struck 85 = .ok (.ireturn, 1) := by decide +kernel
set_option maxRecDepth 20000 in
theorem ggX6_empty_X6_isLate : GoodIn wsX6_empty wsX6_isLate := goodIn_r _ [9, 10, 11, 12, 8, 13, 2, 115, 116, 117, 118, 119, 120, 121, 122, 123, 124, 125, 126, 127, 128, 129, 130, 131, 132, 133, 134, 135, 136] (by decide +kernel) (by decide +kernel)
set_option maxRecDepth 20000 in
theorem gX6_empty_X6_isLate : GoodIn wsX6_empty (wsV RX6 191 RX6 yX6_isLate wsX6_isLate) := goodIn_app (goodIn_of _ (by decide +kernel)) ggX6_empty_X6_isLate
set_option maxRecDepth 20000 in
theorem ggX6_empty_X6_finding : GoodIn wsX6_empty wsX6_finding := goodIn_r _ [17, 18, 19, 115, 116, 117, 118, 119, 120, 121, 122, 123, 124, 125, 126, 127, 128, 129, 130, 131, 132, 133, 134, 135, 136] (by decide +kernel) (by decide +kernel)
set_option maxRecDepth 20000 in
theorem gX6_empty_X6_finding : GoodIn wsX6_empty (wsV RX6 83 RX6 yX6_finding wsX6_finding) := goodIn_app (goodIn_of _ (by decide +kernel)) ggX6_empty_X6_finding
