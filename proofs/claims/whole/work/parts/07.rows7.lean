set_option maxRecDepth 20000 in
theorem ggX6_goesHome_X6_at : GoodIn wsX6_goesHome wsX6_at := goodIn_r _ [4] (by decide +kernel) (by decide +kernel)
set_option maxRecDepth 20000 in
theorem gX6_goesHome_X6_at : GoodIn wsX6_goesHome (va_wsS RX6 60 yX6_at wsX6_at) := goodIn_app (goodIn_of _ (by decide +kernel)) ggX6_goesHome_X6_at
set_option maxRecDepth 20000 in
theorem ggX6_goesHome_X6_become : GoodIn wsX6_goesHome wsX6_become := goodIn_r _ [8, 9, 22, 23, 24, 25, 26, 27, 28, 29, 30, 31, 32, 33, 34, 35, 36, 37, 38, 39, 40, 41, 42, 43] (by decide +kernel) (by decide +kernel)
set_option maxRecDepth 20000 in
theorem gX6_goesHome_X6_become : GoodIn wsX6_goesHome (wsV RX6 80 RX6 yX6_become wsX6_become) := goodIn_app (goodIn_of _ (by decide +kernel)) ggX6_goesHome_X6_become
set_option maxRecDepth 20000 in
theorem ggX6_goesHome_X6_comesHome : GoodIn wsX6_goesHome wsX6_comesHome := goodIn_r _ [13, 9, 14, 15, 16, 17, 1, 2, 3, 4, 18, 19, 20, 21, 22, 23, 24, 25, 26, 27, 28, 29, 30, 31, 32, 33, 34, 35, 36, 37, 38, 39, 40, 41, 42, 43] (by decide +kernel) (by decide +kernel)
set_option maxRecDepth 20000 in
theorem gX6_goesHome_X6_comesHome : GoodIn wsX6_goesHome (wsV RX6 148 RX6 yX6_comesHome wsX6_comesHome) := goodIn_app (goodIn_of _ (by decide +kernel)) ggX6_goesHome_X6_comesHome
theorem dX6_goesHome_0 : decode cX6_goesHome 0 = .ok (.iconst 0, 1) := by decide +kernel
theorem dX6_goesHome_1 : decode cX6_goesHome 1 = .ok (.istore_n 3, 1) := by decide +kernel
theorem dX6_goesHome_2 : decode cX6_goesHome 2 = .ok (.iload_n 3, 1) := by decide +kernel
theorem dX6_goesHome_3 : decode cX6_goesHome 3 = .ok (.iconst 5, 1) := by decide +kernel
theorem dX6_goesHome_4 : decode cX6_goesHome 4 = .ok (.if_icmp .ge 28, 3) := by decide +kernel
theorem dX6_goesHome_7 : decode cX6_goesHome 7 = .ok (.aload_n 0, 1) := by decide +kernel
theorem dX6_goesHome_8 : decode cX6_goesHome 8 = .ok (.iload_n 2, 1) := by decide +kernel
theorem dX6_goesHome_9 : decode cX6_goesHome 9 = .ok (.iload_n 3, 1) := by decide +kernel
theorem dX6_goesHome_10 : decode cX6_goesHome 10 = .ok (.aload_n 0, 1) := by decide +kernel
theorem dX6_goesHome_11 : decode cX6_goesHome 11 = .ok (.iload_n 1, 1) := by decide +kernel
theorem dX6_goesHome_12 : decode cX6_goesHome 12 = .ok (.bipush 7, 2) := by decide +kernel
theorem dX6_goesHome_14 : decode cX6_goesHome 14 = .ok (.iload_n 3, 1) := by decide +kernel
theorem dX6_goesHome_15 : decode cX6_goesHome 15 = .ok (.iadd, 1) := by decide +kernel
theorem dX6_goesHome_16 : decode cX6_goesHome 16 = .ok (.invokestatic 60, 3) := by decide +kernel
theorem dX6_goesHome_19 : decode cX6_goesHome 19 = .ok (.iconst 0, 1) := by decide +kernel
theorem dX6_goesHome_20 : decode cX6_goesHome 20 = .ok (.invokevirtual 80, 3) := by decide +kernel
theorem dX6_goesHome_23 : decode cX6_goesHome 23 = .ok (.invokevirtual 148, 3) := by decide +kernel
theorem dX6_goesHome_26 : decode cX6_goesHome 26 = .ok (.iinc 3 1, 3) := by decide +kernel
theorem dX6_goesHome_29 : decode cX6_goesHome 29 = .ok (.goto (-27), 3) := by decide +kernel
theorem dX6_goesHome_32 : decode cX6_goesHome 32 = .ok (.return_, 1) := by decide +kernel
set_option maxRecDepth 20000 in
theorem ggX6_trusts_X6_at : GoodIn wsX6_trusts wsX6_at := goodIn_r _ [9] (by decide +kernel) (by decide +kernel)
set_option maxRecDepth 20000 in
theorem gX6_trusts_X6_at : GoodIn wsX6_trusts (va_wsS RX6 60 yX6_at wsX6_at) := goodIn_app (goodIn_of _ (by decide +kernel)) ggX6_trusts_X6_at
set_option maxRecDepth 20000 in
theorem ggX6_trusts_X6_sideIs : GoodIn wsX6_trusts wsX6_sideIs := goodIn_r _ [13, 1, 6, 7, 8, 9, 14, 15, 16, 17, 18, 19, 20, 21, 22, 23, 24, 25, 26, 27, 28, 29, 30, 31, 32, 33, 34, 35] (by decide +kernel) (by decide +kernel)
set_option maxRecDepth 20000 in
theorem gX6_trusts_X6_sideIs : GoodIn wsX6_trusts (wsV RX6 93 RX6 yX6_sideIs wsX6_sideIs) := goodIn_app (goodIn_of _ (by decide +kernel)) ggX6_trusts_X6_sideIs
theorem dX6_trusts_0 : decode cX6_trusts 0 = .ok (.aload_n 0, 1) := by decide +kernel
theorem dX6_trusts_1 : decode cX6_trusts 1 = .ok (.getfield 9, 3) := by decide +kernel
theorem dX6_trusts_4 : decode cX6_trusts 4 = .ok (.iload_n 1, 1) := by decide +kernel
theorem dX6_trusts_5 : decode cX6_trusts 5 = .ok (.iconst 1, 1) := by decide +kernel
theorem dX6_trusts_6 : decode cX6_trusts 6 = .ok (.invokestatic 60, 3) := by decide +kernel
theorem dX6_trusts_9 : decode cX6_trusts 9 = .ok (.bipush 9, 2) := by decide +kernel
theorem dX6_trusts_11 : decode cX6_trusts 11 = .ok (.aload_n 0, 1) := by decide +kernel
theorem dX6_trusts_12 : decode cX6_trusts 12 = .ok (.iload_n 1, 1) := by decide +kernel
theorem dX6_trusts_13 : decode cX6_trusts 13 = .ok (.iconst 1, 1) := by decide +kernel
theorem dX6_trusts_14 : decode cX6_trusts 14 = .ok (.invokevirtual 93, 3) := by decide +kernel
theorem dX6_trusts_17 : decode cX6_trusts 17 = .ok (.iconst 1, 1) := by decide +kernel
theorem dX6_trusts_18 : decode cX6_trusts 18 = .ok (.iadd, 1) := by decide +kernel
theorem dX6_trusts_19 : decode cX6_trusts 19 = .ok (.invokestatic 111, 3) := by decide +kernel
theorem dX6_trusts_22 : decode cX6_trusts 22 = .ok (.iastore, 1) := by decide +kernel
theorem dX6_trusts_23 : decode cX6_trusts 23 = .ok (.return_, 1) := by decide +kernel
set_option maxRecDepth 20000 in
theorem ggX6_stolen_X6_valueFor : GoodIn wsX6_stolen wsX6_valueFor := goodIn_r _ [6, 7, 8, 9, 5, 10, 1, 11, 12, 13, 14, 15, 16, 17, 18, 19, 20, 21, 22, 23, 24, 25, 26, 27, 44, 45, 46, 47, 48, 49, 50, 51, 52, 53, 54, 55, 56, 57, 58, 59, 60, 61, 62, 63, 64, 65] (by decide +kernel) (by decide +kernel)
set_option maxRecDepth 20000 in
theorem gX6_stolen_X6_valueFor : GoodIn wsX6_stolen (wsV RX6 116 RX6 yX6_valueFor wsX6_valueFor) := goodIn_app (goodIn_of _ (by decide +kernel)) ggX6_stolen_X6_valueFor
set_option maxRecDepth 20000 in
theorem ggX6_stolen_X6_goesHome : GoodIn wsX6_stolen wsX6_goesHome := goodIn_r _ [31, 11, 12, 5, 13, 32, 33, 34, 35, 1, 36, 37, 38, 39, 40, 41, 42, 43, 7, 8, 9, 10, 44, 45, 46, 47, 48, 49, 50, 51, 52, 53, 54, 55, 56, 57, 58, 59, 60, 61, 62, 63, 64, 65] (by decide +kernel) (by decide +kernel)
set_option maxRecDepth 20000 in
theorem gX6_stolen_X6_goesHome : GoodIn wsX6_stolen (wsV RX6 152 RX6 yX6_goesHome wsX6_goesHome) := goodIn_app (goodIn_of _ (by decide +kernel)) ggX6_stolen_X6_goesHome
set_option maxRecDepth 20000 in
theorem ggX6_stolen_X6_at : GoodIn wsX6_stolen wsX6_at := goodIn_r _ [13] (by decide +kernel) (by decide +kernel)
set_option maxRecDepth 20000 in
theorem gX6_stolen_X6_at : GoodIn wsX6_stolen (va_wsS RX6 60 yX6_at wsX6_at) := goodIn_app (goodIn_of _ (by decide +kernel)) ggX6_stolen_X6_at
theorem dX6_stolen_0 : decode cX6_stolen 0 = .ok (.aload_n 0, 1) := by decide +kernel
theorem dX6_stolen_1 : decode cX6_stolen 1 = .ok (.iload_n 1, 1) := by decide +kernel
theorem dX6_stolen_2 : decode cX6_stolen 2 = .ok (.iconst 1, 1) := by decide +kernel
theorem dX6_stolen_3 : decode cX6_stolen 3 = .ok (.iload_n 1, 1) := by decide +kernel
theorem dX6_stolen_4 : decode cX6_stolen 4 = .ok (.isub, 1) := by decide +kernel
theorem dX6_stolen_5 : decode cX6_stolen 5 = .ok (.invokevirtual 116, 3) := by decide +kernel
theorem dX6_stolen_8 : decode cX6_stolen 8 = .ok (.istore_n 2, 1) := by decide +kernel
theorem dX6_stolen_9 : decode cX6_stolen 9 = .ok (.aload_n 0, 1) := by decide +kernel
theorem dX6_stolen_10 : decode cX6_stolen 10 = .ok (.iconst 1, 1) := by decide +kernel
theorem dX6_stolen_11 : decode cX6_stolen 11 = .ok (.iload_n 1, 1) := by decide +kernel
theorem dX6_stolen_12 : decode cX6_stolen 12 = .ok (.isub, 1) := by decide +kernel
theorem dX6_stolen_13 : decode cX6_stolen 13 = .ok (.iload_n 1, 1) := by decide +kernel
theorem dX6_stolen_14 : decode cX6_stolen 14 = .ok (.invokevirtual 152, 3) := by decide +kernel
theorem dX6_stolen_17 : decode cX6_stolen 17 = .ok (.aload_n 0, 1) := by decide +kernel
theorem dX6_stolen_18 : decode cX6_stolen 18 = .ok (.getfield 9, 3) := by decide +kernel
theorem dX6_stolen_21 : decode cX6_stolen 21 = .ok (.iconst 1, 1) := by decide +kernel
theorem dX6_stolen_22 : decode cX6_stolen 22 = .ok (.iload_n 1, 1) := by decide +kernel
theorem dX6_stolen_23 : decode cX6_stolen 23 = .ok (.isub, 1) := by decide +kernel
theorem dX6_stolen_24 : decode cX6_stolen 24 = .ok (.iconst 1, 1) := by decide +kernel
theorem dX6_stolen_25 : decode cX6_stolen 25 = .ok (.invokestatic 60, 3) := by decide +kernel
theorem dX6_stolen_28 : decode cX6_stolen 28 = .ok (.iconst 0, 1) := by decide +kernel
theorem dX6_stolen_29 : decode cX6_stolen 29 = .ok (.iastore, 1) := by decide +kernel
theorem dX6_stolen_30 : decode cX6_stolen 30 = .ok (.iload_n 2, 1) := by decide +kernel
theorem dX6_stolen_31 : decode cX6_stolen 31 = .ok (.ireturn, 1) := by decide +kernel
set_option maxRecDepth 20000 in
theorem ggX6_steal_X6_isSide : GoodIn wsX6_steal wsX6_isSide := goodIn_r _ [6, 7, 8, 5, 9] (by decide +kernel) (by decide +kernel)
set_option maxRecDepth 20000 in
theorem gX6_steal_X6_isSide : GoodIn wsX6_steal (va_wsS RX6 87 yX6_isSide wsX6_isSide) := goodIn_app (goodIn_of _ (by decide +kernel)) ggX6_steal_X6_isSide
set_option maxRecDepth 20000 in
theorem ggX6_steal_X6_finding : GoodIn wsX6_steal wsX6_finding := goodIn_r _ [13, 14, 1, 69, 70, 71, 72, 73, 74, 75, 76, 77, 78, 79, 80, 81, 82, 83, 84, 85, 86, 87, 88, 89, 90] (by decide +kernel) (by decide +kernel)
set_option maxRecDepth 20000 in
theorem gX6_steal_X6_finding : GoodIn wsX6_steal (wsV RX6 83 RX6 yX6_finding wsX6_finding) := goodIn_app (goodIn_of _ (by decide +kernel)) ggX6_steal_X6_finding
set_option maxRecDepth 20000 in
theorem ggX6_steal_X6_isEmpty : GoodIn wsX6_steal wsX6_isEmpty := goodIn_r _ [18, 19, 20, 21, 5, 22, 23, 24, 25, 26, 27, 28, 29, 30, 69, 70, 71, 72, 73, 74, 75, 76, 77, 78, 79, 80, 81, 82, 83, 84, 85, 86, 87, 88, 89, 90] (by decide +kernel) (by decide +kernel)
set_option maxRecDepth 20000 in
theorem gX6_steal_X6_isEmpty : GoodIn wsX6_steal (wsV RX6 135 RX6 yX6_isEmpty wsX6_isEmpty) := goodIn_app (goodIn_of _ (by decide +kernel)) ggX6_steal_X6_isEmpty
set_option maxRecDepth 20000 in
theorem ggX6_steal_X6_stolen : GoodIn wsX6_steal wsX6_stolen := goodIn_r _ [34, 27, 35, 36, 37, 5, 38, 23, 24, 25, 26, 28, 29, 30, 39, 40, 41, 42, 43, 44, 45, 46, 47, 48, 49, 50, 51, 52, 53, 54, 55, 56, 57, 58, 59, 60, 61, 62, 63, 64, 65, 66, 67, 68, 69, 70, 71, 72, 73, 74, 75, 76, 77, 78, 79, 80, 81, 82, 83, 84, 85, 86, 87, 88, 89, 90] (by decide +kernel) (by decide +kernel)
set_option maxRecDepth 20000 in
theorem gX6_steal_X6_stolen : GoodIn wsX6_steal (wsV RX6 156 RX6 yX6_stolen wsX6_stolen) := goodIn_app (goodIn_of _ (by decide +kernel)) ggX6_steal_X6_stolen
theorem dX6_steal_0 : decode cX6_steal 0 = .ok (.iload_n 1, 1) := by decide +kernel
theorem dX6_steal_1 : decode cX6_steal 1 = .ok (.invokestatic 87, 3) := by decide +kernel
theorem dX6_steal_4 : decode cX6_steal 4 = .ok (.ifCond .ne 10, 3) := by decide +kernel
theorem dX6_steal_7 : decode cX6_steal 7 = .ok (.aload_n 0, 1) := by decide +kernel
theorem dX6_steal_8 : decode cX6_steal 8 = .ok (.ldc 64, 2) := by decide +kernel
theorem dX6_steal_10 : decode cX6_steal 10 = .ok (.invokevirtual 83, 3) := by decide +kernel
theorem dX6_steal_13 : decode cX6_steal 13 = .ok (.ireturn, 1) := by decide +kernel
theorem dX6_steal_14 : decode cX6_steal 14 = .ok (.aload_n 0, 1) := by decide +kernel
theorem dX6_steal_15 : decode cX6_steal 15 = .ok (.iconst 1, 1) := by decide +kernel
theorem dX6_steal_16 : decode cX6_steal 16 = .ok (.iload_n 1, 1) := by decide +kernel
theorem dX6_steal_17 : decode cX6_steal 17 = .ok (.isub, 1) := by decide +kernel
theorem dX6_steal_18 : decode cX6_steal 18 = .ok (.invokevirtual 135, 3) := by decide +kernel
theorem dX6_steal_21 : decode cX6_steal 21 = .ok (.ifCond .eq 12, 3) := by decide +kernel
theorem dX6_steal_24 : decode cX6_steal 24 = .ok (.aload_n 0, 1) := by decide +kernel
theorem dX6_steal_25 : decode cX6_steal 25 = .ok (.ldc 134, 2) := by decide +kernel
theorem dX6_steal_27 : decode cX6_steal 27 = .ok (.invokevirtual 83, 3) := by decide +kernel
theorem dX6_steal_30 : decode cX6_steal 30 = .ok (.goto 8, 3) := by decide +kernel
theorem dX6_steal_33 : decode cX6_steal 33 = .ok (.aload_n 0, 1) := by decide +kernel
theorem dX6_steal_34 : decode cX6_steal 34 = .ok (.iload_n 1, 1) := by decide +kernel
theorem dX6_steal_35 : decode cX6_steal 35 = .ok (.invokevirtual 156, 3) := by decide +kernel
theorem dX6_steal_38 : decode cX6_steal 38 = .ok (.ireturn, 1) := by decide +kernel
set_option maxRecDepth 20000 in
theorem ggX6_gift_X6_areGood : GoodIn wsX6_gift wsX6_areGood := goodIn_r _ [7, 8, 9, 6, 10, 11, 12, 13, 14, 15, 16] (by decide +kernel) (by decide +kernel)
set_option maxRecDepth 20000 in
theorem gX6_gift_X6_areGood : GoodIn wsX6_gift (va_wsS RX6 125 yX6_areGood wsX6_areGood) := goodIn_app (goodIn_of _ (by decide +kernel)) ggX6_gift_X6_areGood
set_option maxRecDepth 20000 in
theorem ggX6_gift_X6_finding : GoodIn wsX6_gift wsX6_finding := goodIn_r _ [20, 21, 1, 41, 42, 43, 44, 45, 46, 47, 48, 49, 50, 51, 52, 53, 54, 55, 56, 57, 58, 59, 60, 61, 62] (by decide +kernel) (by decide +kernel)
set_option maxRecDepth 20000 in
theorem gX6_gift_X6_finding : GoodIn wsX6_gift (wsV RX6 83 RX6 yX6_finding wsX6_finding) := goodIn_app (goodIn_of _ (by decide +kernel)) ggX6_gift_X6_finding
set_option maxRecDepth 20000 in
theorem ggX6_gift_X6_sideIs : GoodIn wsX6_gift wsX6_sideIs := goodIn_r _ [25, 3, 26, 27, 6, 28, 41, 42, 43, 44, 45, 46, 47, 48, 49, 50, 51, 52, 53, 54, 55, 56, 57, 58, 59, 60, 61, 62] (by decide +kernel) (by decide +kernel)
set_option maxRecDepth 20000 in
theorem gX6_gift_X6_sideIs : GoodIn wsX6_gift (wsV RX6 93 RX6 yX6_sideIs wsX6_sideIs) := goodIn_app (goodIn_of _ (by decide +kernel)) ggX6_gift_X6_sideIs
set_option maxRecDepth 20000 in
theorem ggX6_gift_X6_at : GoodIn wsX6_gift wsX6_at := goodIn_r _ [28] (by decide +kernel) (by decide +kernel)
set_option maxRecDepth 20000 in
theorem gX6_gift_X6_at : GoodIn wsX6_gift (va_wsS RX6 60 yX6_at wsX6_at) := goodIn_app (goodIn_of _ (by decide +kernel)) ggX6_gift_X6_at
set_option maxRecDepth 20000 in
theorem ggX6_gift_X6_comesHome : GoodIn wsX6_gift wsX6_comesHome := goodIn_r _ [32, 3, 33, 34, 35, 36, 26, 27, 6, 28, 22, 23, 24, 25, 41, 42, 43, 44, 45, 46, 47, 48, 49, 50, 51, 52, 53, 54, 55, 56, 57, 58, 59, 60, 61, 62] (by decide +kernel) (by decide +kernel)
set_option maxRecDepth 20000 in
theorem gX6_gift_X6_comesHome : GoodIn wsX6_gift (wsV RX6 148 RX6 yX6_comesHome wsX6_comesHome) := goodIn_app (goodIn_of _ (by decide +kernel)) ggX6_gift_X6_comesHome
set_option maxRecDepth 20000 in
theorem ggX6_gift_X6_trusts : GoodIn wsX6_gift wsX6_trusts := goodIn_r _ [40, 3, 33, 34, 35, 36, 26, 27, 6, 28, 22, 23, 24, 25, 41, 42, 43, 44, 45, 46, 47, 48, 49, 50, 51, 52, 53, 54, 55, 56, 57, 58, 59, 60, 61, 62] (by decide +kernel) (by decide +kernel)
set_option maxRecDepth 20000 in
theorem gX6_gift_X6_trusts : GoodIn wsX6_gift (wsV RX6 159 RX6 yX6_trusts wsX6_trusts) := goodIn_app (goodIn_of _ (by decide +kernel)) ggX6_gift_X6_trusts
theorem dX6_gift_0 : decode cX6_gift 0 = .ok (.iload_n 1, 1) := by decide +kernel
theorem dX6_gift_1 : decode cX6_gift 1 = .ok (.iload_n 2, 1) := by decide +kernel
theorem dX6_gift_2 : decode cX6_gift 2 = .ok (.iload_n 3, 1) := by decide +kernel
theorem dX6_gift_3 : decode cX6_gift 3 = .ok (.invokestatic 125, 3) := by decide +kernel
theorem dX6_gift_6 : decode cX6_gift 6 = .ok (.ifCond .ne 10, 3) := by decide +kernel
theorem dX6_gift_9 : decode cX6_gift 9 = .ok (.aload_n 0, 1) := by decide +kernel
theorem dX6_gift_10 : decode cX6_gift 10 = .ok (.ldc 64, 2) := by decide +kernel
theorem dX6_gift_12 : decode cX6_gift 12 = .ok (.invokevirtual 83, 3) := by decide +kernel
theorem dX6_gift_15 : decode cX6_gift 15 = .ok (.ireturn, 1) := by decide +kernel
theorem dX6_gift_16 : decode cX6_gift 16 = .ok (.aload_n 0, 1) := by decide +kernel
theorem dX6_gift_17 : decode cX6_gift 17 = .ok (.iload_n 1, 1) := by decide +kernel
theorem dX6_gift_18 : decode cX6_gift 18 = .ok (.iconst 2, 1) := by decide +kernel
theorem dX6_gift_19 : decode cX6_gift 19 = .ok (.iload_n 2, 1) := by decide +kernel
theorem dX6_gift_20 : decode cX6_gift 20 = .ok (.iadd, 1) := by decide +kernel
theorem dX6_gift_21 : decode cX6_gift 21 = .ok (.invokevirtual 93, 3) := by decide +kernel
theorem dX6_gift_24 : decode cX6_gift 24 = .ok (.iload_n 3, 1) := by decide +kernel
theorem dX6_gift_25 : decode cX6_gift 25 = .ok (.if_icmp .ge 10, 3) := by decide +kernel
theorem dX6_gift_28 : decode cX6_gift 28 = .ok (.aload_n 0, 1) := by decide +kernel
theorem dX6_gift_29 : decode cX6_gift 29 = .ok (.ldc 134, 2) := by decide +kernel
theorem dX6_gift_31 : decode cX6_gift 31 = .ok (.invokevirtual 83, 3) := by decide +kernel
theorem dX6_gift_34 : decode cX6_gift 34 = .ok (.ireturn, 1) := by decide +kernel
theorem dX6_gift_35 : decode cX6_gift 35 = .ok (.aload_n 0, 1) := by decide +kernel
theorem dX6_gift_36 : decode cX6_gift 36 = .ok (.getfield 9, 3) := by decide +kernel
theorem dX6_gift_39 : decode cX6_gift 39 = .ok (.iload_n 1, 1) := by decide +kernel
theorem dX6_gift_40 : decode cX6_gift 40 = .ok (.iconst 2, 1) := by decide +kernel
theorem dX6_gift_41 : decode cX6_gift 41 = .ok (.iload_n 2, 1) := by decide +kernel
theorem dX6_gift_42 : decode cX6_gift 42 = .ok (.iadd, 1) := by decide +kernel
theorem dX6_gift_43 : decode cX6_gift 43 = .ok (.invokestatic 60, 3) := by decide +kernel
theorem dX6_gift_46 : decode cX6_gift 46 = .ok (.dup2, 1) := by decide +kernel
theorem dX6_gift_47 : decode cX6_gift 47 = .ok (.iaload, 1) := by decide +kernel
theorem dX6_gift_48 : decode cX6_gift 48 = .ok (.iload_n 3, 1) := by decide +kernel
theorem dX6_gift_49 : decode cX6_gift 49 = .ok (.isub, 1) := by decide +kernel
theorem dX6_gift_50 : decode cX6_gift 50 = .ok (.iastore, 1) := by decide +kernel
theorem dX6_gift_51 : decode cX6_gift 51 = .ok (.aload_n 0, 1) := by decide +kernel
theorem dX6_gift_52 : decode cX6_gift 52 = .ok (.iconst 1, 1) := by decide +kernel
theorem dX6_gift_53 : decode cX6_gift 53 = .ok (.iload_n 1, 1) := by decide +kernel
theorem dX6_gift_54 : decode cX6_gift 54 = .ok (.isub, 1) := by decide +kernel
theorem dX6_gift_55 : decode cX6_gift 55 = .ok (.iload_n 2, 1) := by decide +kernel
theorem dX6_gift_56 : decode cX6_gift 56 = .ok (.iload_n 3, 1) := by decide +kernel
theorem dX6_gift_57 : decode cX6_gift 57 = .ok (.invokevirtual 148, 3) := by decide +kernel
theorem dX6_gift_60 : decode cX6_gift 60 = .ok (.aload_n 0, 1) := by decide +kernel
theorem dX6_gift_61 : decode cX6_gift 61 = .ok (.iconst 1, 1) := by decide +kernel
theorem dX6_gift_62 : decode cX6_gift 62 = .ok (.iload_n 1, 1) := by decide +kernel
theorem dX6_gift_63 : decode cX6_gift 63 = .ok (.isub, 1) := by decide +kernel
theorem dX6_gift_64 : decode cX6_gift 64 = .ok (.invokevirtual 159, 3) := by decide +kernel
theorem dX6_gift_67 : decode cX6_gift 67 = .ok (.aload_n 0, 1) := by decide +kernel
theorem dX6_gift_68 : decode cX6_gift 68 = .ok (.iconst 1, 1) := by decide +kernel
theorem dX6_gift_69 : decode cX6_gift 69 = .ok (.iload_n 1, 1) := by decide +kernel
theorem dX6_gift_70 : decode cX6_gift 70 = .ok (.isub, 1) := by decide +kernel
theorem dX6_gift_71 : decode cX6_gift 71 = .ok (.iconst 1, 1) := by decide +kernel
theorem dX6_gift_72 : decode cX6_gift 72 = .ok (.invokevirtual 93, 3) := by decide +kernel
theorem dX6_gift_75 : decode cX6_gift 75 = .ok (.ireturn, 1) := by decide +kernel
theorem dX6_bookAt_0 : decode cX6_bookAt 0 = .ok (.bipush 54, 2) := by decide +kernel
theorem dX6_bookAt_2 : decode cX6_bookAt 2 = .ok (.bipush 13, 2) := by decide +kernel
theorem dX6_bookAt_4 : decode cX6_bookAt 4 = .ok (.iload_n 0, 1) := by decide +kernel
theorem dX6_bookAt_5 : decode cX6_bookAt 5 = .ok (.bipush 12, 2) := by decide +kernel
theorem dX6_bookAt_7 : decode cX6_bookAt 7 = .ok (.irem, 1) := by decide +kernel
theorem dX6_bookAt_8 : decode cX6_bookAt 8 = .ok (.imul, 1) := by decide +kernel
theorem dX6_bookAt_9 : decode cX6_bookAt 9 = .ok (.iadd, 1) := by decide +kernel
theorem dX6_bookAt_10 : decode cX6_bookAt 10 = .ok (.iload_n 1, 1) := by decide +kernel
theorem dX6_bookAt_11 : decode cX6_bookAt 11 = .ok (.iadd, 1) := by decide +kernel
theorem dX6_bookAt_12 : decode cX6_bookAt 12 = .ok (.ireturn, 1) := by decide +kernel
set_option maxRecDepth 20000 in
theorem ggX6_writeBook_X6_bookAt : GoodIn wsX6_writeBook wsX6_bookAt := goodIn_r _ [5] (by decide +kernel) (by decide +kernel)
set_option maxRecDepth 20000 in
theorem gX6_writeBook_X6_bookAt : GoodIn wsX6_writeBook (va_wsS RX6 163 yX6_bookAt wsX6_bookAt) := goodIn_app (goodIn_of _ (by decide +kernel)) ggX6_writeBook_X6_bookAt
set_option maxRecDepth 20000 in
theorem ggX6_writeBook_X6_sideIs : GoodIn wsX6_writeBook wsX6_sideIs := goodIn_r _ [9, 1, 10, 11, 4, 12, 13, 14, 15, 16, 17, 18, 19, 20, 21, 22, 23, 24, 25, 26, 27, 28, 29, 30, 31, 32, 33, 34] (by decide +kernel) (by decide +kernel)
set_option maxRecDepth 20000 in
theorem gX6_writeBook_X6_sideIs : GoodIn wsX6_writeBook (wsV RX6 93 RX6 yX6_sideIs wsX6_sideIs) := goodIn_app (goodIn_of _ (by decide +kernel)) ggX6_writeBook_X6_sideIs
theorem dX6_writeBook_0 : decode cX6_writeBook 0 = .ok (.aload_n 0, 1) := by decide +kernel
theorem dX6_writeBook_1 : decode cX6_writeBook 1 = .ok (.getfield 9, 3) := by decide +kernel
theorem dX6_writeBook_4 : decode cX6_writeBook 4 = .ok (.iconst 0, 1) := by decide +kernel
theorem dX6_writeBook_5 : decode cX6_writeBook 5 = .ok (.iaload, 1) := by decide +kernel
theorem dX6_writeBook_6 : decode cX6_writeBook 6 = .ok (.istore_n 3, 1) := by decide +kernel
theorem dX6_writeBook_7 : decode cX6_writeBook 7 = .ok (.aload_n 0, 1) := by decide +kernel
theorem dX6_writeBook_8 : decode cX6_writeBook 8 = .ok (.getfield 9, 3) := by decide +kernel
theorem dX6_writeBook_11 : decode cX6_writeBook 11 = .ok (.iload_n 3, 1) := by decide +kernel
theorem dX6_writeBook_12 : decode cX6_writeBook 12 = .ok (.iconst 0, 1) := by decide +kernel
theorem dX6_writeBook_13 : decode cX6_writeBook 13 = .ok (.invokestatic 163, 3) := by decide +kernel
theorem dX6_writeBook_16 : decode cX6_writeBook 16 = .ok (.iload_n 2, 1) := by decide +kernel
theorem dX6_writeBook_17 : decode cX6_writeBook 17 = .ok (.iastore, 1) := by decide +kernel
theorem dX6_writeBook_18 : decode cX6_writeBook 18 = .ok (.aload_n 0, 1) := by decide +kernel
theorem dX6_writeBook_19 : decode cX6_writeBook 19 = .ok (.getfield 9, 3) := by decide +kernel
theorem dX6_writeBook_22 : decode cX6_writeBook 22 = .ok (.iload_n 3, 1) := by decide +kernel
theorem dX6_writeBook_23 : decode cX6_writeBook 23 = .ok (.iconst 1, 1) := by decide +kernel
theorem dX6_writeBook_24 : decode cX6_writeBook 24 = .ok (.invokestatic 163, 3) := by decide +kernel
theorem dX6_writeBook_27 : decode cX6_writeBook 27 = .ok (.aload_n 0, 1) := by decide +kernel
theorem dX6_writeBook_28 : decode cX6_writeBook 28 = .ok (.getfield 9, 3) := by decide +kernel
theorem dX6_writeBook_31 : decode cX6_writeBook 31 = .ok (.iconst 1, 1) := by decide +kernel
theorem dX6_writeBook_32 : decode cX6_writeBook 32 = .ok (.iaload, 1) := by decide +kernel
theorem dX6_writeBook_33 : decode cX6_writeBook 33 = .ok (.iastore, 1) := by decide +kernel
theorem dX6_writeBook_34 : decode cX6_writeBook 34 = .ok (.aload_n 0, 1) := by decide +kernel
theorem dX6_writeBook_35 : decode cX6_writeBook 35 = .ok (.getfield 9, 3) := by decide +kernel
theorem dX6_writeBook_38 : decode cX6_writeBook 38 = .ok (.iload_n 3, 1) := by decide +kernel
theorem dX6_writeBook_39 : decode cX6_writeBook 39 = .ok (.iconst 2, 1) := by decide +kernel
theorem dX6_writeBook_40 : decode cX6_writeBook 40 = .ok (.invokestatic 163, 3) := by decide +kernel
theorem dX6_writeBook_43 : decode cX6_writeBook 43 = .ok (.aload_n 0, 1) := by decide +kernel
theorem dX6_writeBook_44 : decode cX6_writeBook 44 = .ok (.iload_n 1, 1) := by decide +kernel
theorem dX6_writeBook_45 : decode cX6_writeBook 45 = .ok (.iconst 1, 1) := by decide +kernel
theorem dX6_writeBook_46 : decode cX6_writeBook 46 = .ok (.invokevirtual 93, 3) := by decide +kernel
theorem dX6_writeBook_49 : decode cX6_writeBook 49 = .ok (.iastore, 1) := by decide +kernel
theorem dX6_writeBook_50 : decode cX6_writeBook 50 = .ok (.iconst 0, 1) := by decide +kernel
theorem dX6_writeBook_51 : decode cX6_writeBook 51 = .ok (.istore 4, 2) := by decide +kernel
theorem dX6_writeBook_53 : decode cX6_writeBook 53 = .ok (.iload 4, 2) := by decide +kernel
theorem dX6_writeBook_55 : decode cX6_writeBook 55 = .ok (.iconst 5, 1) := by decide +kernel
theorem dX6_writeBook_56 : decode cX6_writeBook 56 = .ok (.if_icmp .ge 56, 3) := by decide +kernel
theorem dX6_writeBook_59 : decode cX6_writeBook 59 = .ok (.aload_n 0, 1) := by decide +kernel
theorem dX6_writeBook_60 : decode cX6_writeBook 60 = .ok (.getfield 9, 3) := by decide +kernel
theorem dX6_writeBook_63 : decode cX6_writeBook 63 = .ok (.iload_n 3, 1) := by decide +kernel
theorem dX6_writeBook_64 : decode cX6_writeBook 64 = .ok (.iconst 3, 1) := by decide +kernel
theorem dX6_writeBook_65 : decode cX6_writeBook 65 = .ok (.iload 4, 2) := by decide +kernel
theorem dX6_writeBook_67 : decode cX6_writeBook 67 = .ok (.iadd, 1) := by decide +kernel
theorem dX6_writeBook_68 : decode cX6_writeBook 68 = .ok (.invokestatic 163, 3) := by decide +kernel
theorem dX6_writeBook_71 : decode cX6_writeBook 71 = .ok (.aload_n 0, 1) := by decide +kernel
theorem dX6_writeBook_72 : decode cX6_writeBook 72 = .ok (.iconst 0, 1) := by decide +kernel
theorem dX6_writeBook_73 : decode cX6_writeBook 73 = .ok (.bipush 7, 2) := by decide +kernel
theorem dX6_writeBook_75 : decode cX6_writeBook 75 = .ok (.iload 4, 2) := by decide +kernel
theorem dX6_writeBook_77 : decode cX6_writeBook 77 = .ok (.iadd, 1) := by decide +kernel
theorem dX6_writeBook_78 : decode cX6_writeBook 78 = .ok (.invokevirtual 93, 3) := by decide +kernel
theorem dX6_writeBook_81 : decode cX6_writeBook 81 = .ok (.iastore, 1) := by decide +kernel
theorem dX6_writeBook_82 : decode cX6_writeBook 82 = .ok (.aload_n 0, 1) := by decide +kernel
theorem dX6_writeBook_83 : decode cX6_writeBook 83 = .ok (.getfield 9, 3) := by decide +kernel
theorem dX6_writeBook_86 : decode cX6_writeBook 86 = .ok (.iload_n 3, 1) := by decide +kernel
theorem dX6_writeBook_87 : decode cX6_writeBook 87 = .ok (.bipush 8, 2) := by decide +kernel
theorem dX6_writeBook_89 : decode cX6_writeBook 89 = .ok (.iload 4, 2) := by decide +kernel
theorem dX6_writeBook_91 : decode cX6_writeBook 91 = .ok (.iadd, 1) := by decide +kernel
theorem dX6_writeBook_92 : decode cX6_writeBook 92 = .ok (.invokestatic 163, 3) := by decide +kernel
theorem dX6_writeBook_95 : decode cX6_writeBook 95 = .ok (.aload_n 0, 1) := by decide +kernel
theorem dX6_writeBook_96 : decode cX6_writeBook 96 = .ok (.iconst 1, 1) := by decide +kernel
theorem dX6_writeBook_97 : decode cX6_writeBook 97 = .ok (.bipush 7, 2) := by decide +kernel
theorem dX6_writeBook_99 : decode cX6_writeBook 99 = .ok (.iload 4, 2) := by decide +kernel
theorem dX6_writeBook_101 : decode cX6_writeBook 101 = .ok (.iadd, 1) := by decide +kernel
theorem dX6_writeBook_102 : decode cX6_writeBook 102 = .ok (.invokevirtual 93, 3) := by decide +kernel
theorem dX6_writeBook_105 : decode cX6_writeBook 105 = .ok (.iastore, 1) := by decide +kernel
theorem dX6_writeBook_106 : decode cX6_writeBook 106 = .ok (.iinc 4 1, 3) := by decide +kernel
theorem dX6_writeBook_109 : decode cX6_writeBook 109 = .ok (.goto (-56), 3) := by decide +kernel
theorem dX6_writeBook_112 : decode cX6_writeBook 112 = .ok (.return_, 1) := by decide +kernel
set_option maxRecDepth 20000 in
theorem ggX6_birds_X6_sideIs : GoodIn wsX6_birds wsX6_sideIs := goodIn_r _ [6, 1, 7, 8, 5, 9, 18, 19, 20, 21, 22, 23, 24, 25, 26, 27, 28, 29, 30, 31, 32, 33, 34, 35, 36, 37, 38, 39] (by decide +kernel) (by decide +kernel)
set_option maxRecDepth 20000 in
theorem gX6_birds_X6_sideIs : GoodIn wsX6_birds (wsV RX6 93 RX6 yX6_sideIs wsX6_sideIs) := goodIn_app (goodIn_of _ (by decide +kernel)) ggX6_birds_X6_sideIs
set_option maxRecDepth 20000 in
theorem ggX6_birds_X6_eatenOf : GoodIn wsX6_birds wsX6_eatenOf := goodIn_r _ [13, 1, 14, 15, 16, 17, 18, 19, 20, 21, 22, 23, 24, 25, 26, 27, 28, 29, 30, 31, 32, 33, 34, 35, 36, 37, 38, 39] (by decide +kernel) (by decide +kernel)
set_option maxRecDepth 20000 in
theorem gX6_birds_X6_eatenOf : GoodIn wsX6_birds (wsV RX6 119 RX6 yX6_eatenOf wsX6_eatenOf) := goodIn_app (goodIn_of _ (by decide +kernel)) ggX6_birds_X6_eatenOf
set_option maxRecDepth 20000 in
theorem ggX6_birds_X6_at : GoodIn wsX6_birds wsX6_at := goodIn_r _ [9] (by decide +kernel) (by decide +kernel)
set_option maxRecDepth 20000 in
theorem gX6_birds_X6_at : GoodIn wsX6_birds (va_wsS RX6 60 yX6_at wsX6_at) := goodIn_app (goodIn_of _ (by decide +kernel)) ggX6_birds_X6_at
theorem dX6_birds_0 : decode cX6_birds 0 = .ok (.iconst 0, 1) := by decide +kernel
theorem dX6_birds_1 : decode cX6_birds 1 = .ok (.istore_n 2, 1) := by decide +kernel
theorem dX6_birds_2 : decode cX6_birds 2 = .ok (.iload_n 2, 1) := by decide +kernel
theorem dX6_birds_3 : decode cX6_birds 3 = .ok (.iconst 5, 1) := by decide +kernel
theorem dX6_birds_4 : decode cX6_birds 4 = .ok (.if_icmp .ge 51, 3) := by decide +kernel
theorem dX6_birds_7 : decode cX6_birds 7 = .ok (.aload_n 0, 1) := by decide +kernel
theorem dX6_birds_8 : decode cX6_birds 8 = .ok (.iload_n 2, 1) := by decide +kernel
theorem dX6_birds_9 : decode cX6_birds 9 = .ok (.aload_n 0, 1) := by decide +kernel
theorem dX6_birds_10 : decode cX6_birds 10 = .ok (.iload_n 1, 1) := by decide +kernel
theorem dX6_birds_11 : decode cX6_birds 11 = .ok (.bipush 7, 2) := by decide +kernel
theorem dX6_birds_13 : decode cX6_birds 13 = .ok (.iload_n 2, 1) := by decide +kernel
theorem dX6_birds_14 : decode cX6_birds 14 = .ok (.iadd, 1) := by decide +kernel
theorem dX6_birds_15 : decode cX6_birds 15 = .ok (.invokevirtual 93, 3) := by decide +kernel
theorem dX6_birds_18 : decode cX6_birds 18 = .ok (.invokevirtual 119, 3) := by decide +kernel
theorem dX6_birds_21 : decode cX6_birds 21 = .ok (.istore_n 3, 1) := by decide +kernel
theorem dX6_birds_22 : decode cX6_birds 22 = .ok (.aload_n 0, 1) := by decide +kernel
theorem dX6_birds_23 : decode cX6_birds 23 = .ok (.getfield 9, 3) := by decide +kernel
theorem dX6_birds_26 : decode cX6_birds 26 = .ok (.iload_n 1, 1) := by decide +kernel
theorem dX6_birds_27 : decode cX6_birds 27 = .ok (.bipush 7, 2) := by decide +kernel
theorem dX6_birds_29 : decode cX6_birds 29 = .ok (.iload_n 2, 1) := by decide +kernel
theorem dX6_birds_30 : decode cX6_birds 30 = .ok (.iadd, 1) := by decide +kernel
theorem dX6_birds_31 : decode cX6_birds 31 = .ok (.invokestatic 60, 3) := by decide +kernel
theorem dX6_birds_34 : decode cX6_birds 34 = .ok (.dup2, 1) := by decide +kernel
theorem dX6_birds_35 : decode cX6_birds 35 = .ok (.iaload, 1) := by decide +kernel
theorem dX6_birds_36 : decode cX6_birds 36 = .ok (.iload_n 3, 1) := by decide +kernel
theorem dX6_birds_37 : decode cX6_birds 37 = .ok (.isub, 1) := by decide +kernel
theorem dX6_birds_38 : decode cX6_birds 38 = .ok (.iastore, 1) := by decide +kernel
theorem dX6_birds_39 : decode cX6_birds 39 = .ok (.aload_n 0, 1) := by decide +kernel
theorem dX6_birds_40 : decode cX6_birds 40 = .ok (.getfield 9, 3) := by decide +kernel
theorem dX6_birds_43 : decode cX6_birds 43 = .ok (.iconst 3, 1) := by decide +kernel
theorem dX6_birds_44 : decode cX6_birds 44 = .ok (.dup2, 1) := by decide +kernel
theorem dX6_birds_45 : decode cX6_birds 45 = .ok (.iaload, 1) := by decide +kernel
theorem dX6_birds_46 : decode cX6_birds 46 = .ok (.iload_n 3, 1) := by decide +kernel
theorem dX6_birds_47 : decode cX6_birds 47 = .ok (.iadd, 1) := by decide +kernel
theorem dX6_birds_48 : decode cX6_birds 48 = .ok (.iastore, 1) := by decide +kernel
theorem dX6_birds_49 : decode cX6_birds 49 = .ok (.iinc 2 1, 3) := by decide +kernel
theorem dX6_birds_52 : decode cX6_birds 52 = .ok (.goto (-50), 3) := by decide +kernel
theorem dX6_birds_55 : decode cX6_birds 55 = .ok (.return_, 1) := by decide +kernel
set_option maxRecDepth 20000 in
theorem ggX6_night_X6_wouldDo : GoodIn wsX6_night wsX6_wouldDo := goodIn_r _ [6, 7, 8, 9, 5, 10, 1, 11, 12, 13, 14, 15, 16, 17, 18, 19, 20, 21, 22, 23, 24, 25, 26, 27, 28, 29, 30, 31, 32, 33, 34, 35, 36, 37, 38, 39, 40, 41, 42, 43, 83, 84, 85, 86, 87, 88, 89, 90, 91, 92, 93, 94, 95, 96, 97, 98, 99, 100, 101, 102, 103, 104] (by decide +kernel) (by decide +kernel)
set_option maxRecDepth 20000 in
theorem gX6_night_X6_wouldDo : GoodIn wsX6_night (wsV RX6 141 RX6 yX6_wouldDo wsX6_wouldDo) := goodIn_app (goodIn_of _ (by decide +kernel)) ggX6_night_X6_wouldDo
set_option maxRecDepth 20000 in
theorem ggX6_night_X6_writeBook : GoodIn wsX6_night wsX6_writeBook := goodIn_r _ [47, 1, 48, 49, 5, 50, 7, 8, 9, 10, 11, 12, 13, 83, 84, 85, 86, 87, 88, 89, 90, 91, 92, 93, 94, 95, 96, 97, 98, 99, 100, 101, 102, 103, 104] (by decide +kernel) (by decide +kernel)
set_option maxRecDepth 20000 in
theorem gX6_night_X6_writeBook : GoodIn wsX6_night (wsV RX6 166 RX6 yX6_writeBook wsX6_writeBook) := goodIn_app (goodIn_of _ (by decide +kernel)) ggX6_night_X6_writeBook
set_option maxRecDepth 20000 in
theorem ggX6_night_X6_goesHome : GoodIn wsX6_night wsX6_goesHome := goodIn_r _ [54, 11, 12, 5, 13, 55, 56, 57, 58, 1, 59, 60, 61, 62, 63, 64, 65, 66, 7, 8, 9, 10, 83, 84, 85, 86, 87, 88, 89, 90, 91, 92, 93, 94, 95, 96, 97, 98, 99, 100, 101, 102, 103, 104] (by decide +kernel) (by decide +kernel)
set_option maxRecDepth 20000 in
theorem gX6_night_X6_goesHome : GoodIn wsX6_night (wsV RX6 152 RX6 yX6_goesHome wsX6_goesHome) := goodIn_app (goodIn_of _ (by decide +kernel)) ggX6_night_X6_goesHome
set_option maxRecDepth 20000 in
theorem ggX6_night_X6_trusts : GoodIn wsX6_night wsX6_trusts := goodIn_r _ [70, 1, 63, 64, 65, 66, 11, 12, 5, 13, 7, 8, 9, 10, 83, 84, 85, 86, 87, 88, 89, 90, 91, 92, 93, 94, 95, 96, 97, 98, 99, 100, 101, 102, 103, 104] (by decide +kernel) (by decide +kernel)
set_option maxRecDepth 20000 in
theorem gX6_night_X6_trusts : GoodIn wsX6_night (wsV RX6 159 RX6 yX6_trusts wsX6_trusts) := goodIn_app (goodIn_of _ (by decide +kernel)) ggX6_night_X6_trusts
set_option maxRecDepth 20000 in
theorem ggX6_night_X6_dearest : GoodIn wsX6_night wsX6_dearest := goodIn_r _ [74, 7, 8, 9, 5, 10, 1, 11, 12, 13, 30, 31, 32, 33, 34, 35, 36, 37, 38, 39, 40, 41, 42, 43, 83, 84, 85, 86, 87, 88, 89, 90, 91, 92, 93, 94, 95, 96, 97, 98, 99, 100, 101, 102, 103, 104] (by decide +kernel) (by decide +kernel)
set_option maxRecDepth 20000 in
theorem gX6_night_X6_dearest : GoodIn wsX6_night (wsV RX6 144 RX6 yX6_dearest wsX6_dearest) := goodIn_app (goodIn_of _ (by decide +kernel)) ggX6_night_X6_dearest
set_option maxRecDepth 20000 in
theorem ggX6_night_X6_at : GoodIn wsX6_night wsX6_at := goodIn_r _ [13] (by decide +kernel) (by decide +kernel)
set_option maxRecDepth 20000 in
theorem gX6_night_X6_at : GoodIn wsX6_night (va_wsS RX6 60 yX6_at wsX6_at) := goodIn_app (goodIn_of _ (by decide +kernel)) ggX6_night_X6_at
set_option maxRecDepth 20000 in
theorem ggX6_night_X6_comesHome : GoodIn wsX6_night wsX6_comesHome := goodIn_r _ [62, 1, 63, 64, 65, 66, 11, 12, 5, 13, 7, 8, 9, 10, 83, 84, 85, 86, 87, 88, 89, 90, 91, 92, 93, 94, 95, 96, 97, 98, 99, 100, 101, 102, 103, 104] (by decide +kernel) (by decide +kernel)
set_option maxRecDepth 20000 in
theorem gX6_night_X6_comesHome : GoodIn wsX6_night (wsV RX6 148 RX6 yX6_comesHome wsX6_comesHome) := goodIn_app (goodIn_of _ (by decide +kernel)) ggX6_night_X6_comesHome
set_option maxRecDepth 20000 in
theorem ggX6_night_X6_birds : GoodIn wsX6_night wsX6_birds := goodIn_r _ [78, 1, 7, 8, 9, 5, 10, 11, 12, 13, 79, 80, 81, 82, 63, 64, 65, 66, 83, 84, 85, 86, 87, 88, 89, 90, 91, 92, 93, 94, 95, 96, 97, 98, 99, 100, 101, 102, 103, 104] (by decide +kernel) (by decide +kernel)
set_option maxRecDepth 20000 in
theorem gX6_night_X6_birds : GoodIn wsX6_night (wsV RX6 169 RX6 yX6_birds wsX6_birds) := goodIn_app (goodIn_of _ (by decide +kernel)) ggX6_night_X6_birds
theorem dX6_night_0 : decode cX6_night 0 = .ok (.aload_n 0, 1) := by decide +kernel
theorem dX6_night_1 : decode cX6_night 1 = .ok (.getfield 9, 3) := by decide +kernel
theorem dX6_night_4 : decode cX6_night 4 = .ok (.iconst 0, 1) := by decide +kernel
theorem dX6_night_5 : decode cX6_night 5 = .ok (.iaload, 1) := by decide +kernel
theorem dX6_night_6 : decode cX6_night 6 = .ok (.iconst 2, 1) := by decide +kernel
theorem dX6_night_7 : decode cX6_night 7 = .ok (.irem, 1) := by decide +kernel
theorem dX6_night_8 : decode cX6_night 8 = .ok (.istore_n 1, 1) := by decide +kernel
theorem dX6_night_9 : decode cX6_night 9 = .ok (.aload_n 0, 1) := by decide +kernel
theorem dX6_night_10 : decode cX6_night 10 = .ok (.iload_n 1, 1) := by decide +kernel
theorem dX6_night_11 : decode cX6_night 11 = .ok (.invokevirtual 141, 3) := by decide +kernel
theorem dX6_night_14 : decode cX6_night 14 = .ok (.istore_n 2, 1) := by decide +kernel
theorem dX6_night_15 : decode cX6_night 15 = .ok (.aload_n 0, 1) := by decide +kernel
theorem dX6_night_16 : decode cX6_night 16 = .ok (.iload_n 1, 1) := by decide +kernel
theorem dX6_night_17 : decode cX6_night 17 = .ok (.iload_n 2, 1) := by decide +kernel
theorem dX6_night_18 : decode cX6_night 18 = .ok (.invokevirtual 166, 3) := by decide +kernel
theorem dX6_night_21 : decode cX6_night 21 = .ok (.iload_n 2, 1) := by decide +kernel
theorem dX6_night_22 : decode cX6_night 22 = .ok (.iconst 1, 1) := by decide +kernel
theorem dX6_night_23 : decode cX6_night 23 = .ok (.if_icmp .ne 44, 3) := by decide +kernel
theorem dX6_night_26 : decode cX6_night 26 = .ok (.aload_n 0, 1) := by decide +kernel
theorem dX6_night_27 : decode cX6_night 27 = .ok (.iload_n 1, 1) := by decide +kernel
theorem dX6_night_28 : decode cX6_night 28 = .ok (.iconst 1, 1) := by decide +kernel
theorem dX6_night_29 : decode cX6_night 29 = .ok (.iload_n 1, 1) := by decide +kernel
theorem dX6_night_30 : decode cX6_night 30 = .ok (.isub, 1) := by decide +kernel
theorem dX6_night_31 : decode cX6_night 31 = .ok (.invokevirtual 152, 3) := by decide +kernel
theorem dX6_night_34 : decode cX6_night 34 = .ok (.aload_n 0, 1) := by decide +kernel
theorem dX6_night_35 : decode cX6_night 35 = .ok (.iconst 1, 1) := by decide +kernel
theorem dX6_night_36 : decode cX6_night 36 = .ok (.iload_n 1, 1) := by decide +kernel
theorem dX6_night_37 : decode cX6_night 37 = .ok (.isub, 1) := by decide +kernel
theorem dX6_night_38 : decode cX6_night 38 = .ok (.iload_n 1, 1) := by decide +kernel
theorem dX6_night_39 : decode cX6_night 39 = .ok (.invokevirtual 152, 3) := by decide +kernel
theorem dX6_night_42 : decode cX6_night 42 = .ok (.aload_n 0, 1) := by decide +kernel
theorem dX6_night_43 : decode cX6_night 43 = .ok (.iload_n 1, 1) := by decide +kernel
theorem dX6_night_44 : decode cX6_night 44 = .ok (.invokevirtual 159, 3) := by decide +kernel
theorem dX6_night_47 : decode cX6_night 47 = .ok (.aload_n 0, 1) := by decide +kernel
theorem dX6_night_48 : decode cX6_night 48 = .ok (.iconst 1, 1) := by decide +kernel
theorem dX6_night_49 : decode cX6_night 49 = .ok (.iload_n 1, 1) := by decide +kernel
theorem dX6_night_50 : decode cX6_night 50 = .ok (.isub, 1) := by decide +kernel
theorem dX6_night_51 : decode cX6_night 51 = .ok (.invokevirtual 159, 3) := by decide +kernel
theorem dX6_night_54 : decode cX6_night 54 = .ok (.aload_n 0, 1) := by decide +kernel
theorem dX6_night_55 : decode cX6_night 55 = .ok (.getfield 9, 3) := by decide +kernel
theorem dX6_night_58 : decode cX6_night 58 = .ok (.iconst 2, 1) := by decide +kernel
theorem dX6_night_59 : decode cX6_night 59 = .ok (.dup2, 1) := by decide +kernel
theorem dX6_night_60 : decode cX6_night 60 = .ok (.iaload, 1) := by decide +kernel
theorem dX6_night_61 : decode cX6_night 61 = .ok (.iconst 1, 1) := by decide +kernel
theorem dX6_night_62 : decode cX6_night 62 = .ok (.iadd, 1) := by decide +kernel
theorem dX6_night_63 : decode cX6_night 63 = .ok (.iastore, 1) := by decide +kernel
theorem dX6_night_64 : decode cX6_night 64 = .ok (.goto 52, 3) := by decide +kernel
theorem dX6_night_67 : decode cX6_night 67 = .ok (.iload_n 2, 1) := by decide +kernel
theorem dX6_night_68 : decode cX6_night 68 = .ok (.iconst 2, 1) := by decide +kernel
theorem dX6_night_69 : decode cX6_night 69 = .ok (.if_icmp .ne 36, 3) := by decide +kernel
theorem dX6_night_72 : decode cX6_night 72 = .ok (.aload_n 0, 1) := by decide +kernel
theorem dX6_night_73 : decode cX6_night 73 = .ok (.iload_n 1, 1) := by decide +kernel
theorem dX6_night_74 : decode cX6_night 74 = .ok (.invokevirtual 144, 3) := by decide +kernel
theorem dX6_night_77 : decode cX6_night 77 = .ok (.istore_n 3, 1) := by decide +kernel
theorem dX6_night_78 : decode cX6_night 78 = .ok (.aload_n 0, 1) := by decide +kernel
theorem dX6_night_79 : decode cX6_night 79 = .ok (.getfield 9, 3) := by decide +kernel
theorem dX6_night_82 : decode cX6_night 82 = .ok (.iload_n 1, 1) := by decide +kernel
theorem dX6_night_83 : decode cX6_night 83 = .ok (.bipush 7, 2) := by decide +kernel
theorem dX6_night_85 : decode cX6_night 85 = .ok (.iload_n 3, 1) := by decide +kernel
theorem dX6_night_86 : decode cX6_night 86 = .ok (.iadd, 1) := by decide +kernel
theorem dX6_night_87 : decode cX6_night 87 = .ok (.invokestatic 60, 3) := by decide +kernel
theorem dX6_night_90 : decode cX6_night 90 = .ok (.dup2, 1) := by decide +kernel
theorem dX6_night_91 : decode cX6_night 91 = .ok (.iaload, 1) := by decide +kernel
theorem dX6_night_92 : decode cX6_night 92 = .ok (.iconst 1, 1) := by decide +kernel
theorem dX6_night_93 : decode cX6_night 93 = .ok (.isub, 1) := by decide +kernel
theorem dX6_night_94 : decode cX6_night 94 = .ok (.iastore, 1) := by decide +kernel
theorem dX6_night_95 : decode cX6_night 95 = .ok (.aload_n 0, 1) := by decide +kernel
theorem dX6_night_96 : decode cX6_night 96 = .ok (.iload_n 1, 1) := by decide +kernel
theorem dX6_night_97 : decode cX6_night 97 = .ok (.iload_n 3, 1) := by decide +kernel
theorem dX6_night_98 : decode cX6_night 98 = .ok (.iconst 1, 1) := by decide +kernel
theorem dX6_night_99 : decode cX6_night 99 = .ok (.invokevirtual 148, 3) := by decide +kernel
theorem dX6_night_102 : decode cX6_night 102 = .ok (.goto 14, 3) := by decide +kernel
theorem dX6_night_105 : decode cX6_night 105 = .ok (.iload_n 2, 1) := by decide +kernel
theorem dX6_night_106 : decode cX6_night 106 = .ok (.iconst 3, 1) := by decide +kernel
theorem dX6_night_107 : decode cX6_night 107 = .ok (.if_icmp .ne 9, 3) := by decide +kernel
theorem dX6_night_110 : decode cX6_night 110 = .ok (.aload_n 0, 1) := by decide +kernel
theorem dX6_night_111 : decode cX6_night 111 = .ok (.iload_n 1, 1) := by decide +kernel
theorem dX6_night_112 : decode cX6_night 112 = .ok (.iload_n 1, 1) := by decide +kernel
theorem dX6_night_113 : decode cX6_night 113 = .ok (.invokevirtual 152, 3) := by decide +kernel
theorem dX6_night_116 : decode cX6_night 116 = .ok (.aload_n 0, 1) := by decide +kernel
theorem dX6_night_117 : decode cX6_night 117 = .ok (.iconst 0, 1) := by decide +kernel
theorem dX6_night_118 : decode cX6_night 118 = .ok (.invokevirtual 169, 3) := by decide +kernel
theorem dX6_night_121 : decode cX6_night 121 = .ok (.aload_n 0, 1) := by decide +kernel
theorem dX6_night_122 : decode cX6_night 122 = .ok (.iconst 1, 1) := by decide +kernel
theorem dX6_night_123 : decode cX6_night 123 = .ok (.invokevirtual 169, 3) := by decide +kernel
theorem dX6_night_126 : decode cX6_night 126 = .ok (.aload_n 0, 1) := by decide +kernel
theorem dX6_night_127 : decode cX6_night 127 = .ok (.getfield 9, 3) := by decide +kernel
theorem dX6_night_130 : decode cX6_night 130 = .ok (.iconst 0, 1) := by decide +kernel
theorem dX6_night_131 : decode cX6_night 131 = .ok (.dup2, 1) := by decide +kernel
theorem dX6_night_132 : decode cX6_night 132 = .ok (.iaload, 1) := by decide +kernel
theorem dX6_night_133 : decode cX6_night 133 = .ok (.iconst 1, 1) := by decide +kernel
theorem dX6_night_134 : decode cX6_night 134 = .ok (.iadd, 1) := by decide +kernel
theorem dX6_night_135 : decode cX6_night 135 = .ok (.iastore, 1) := by decide +kernel
theorem dX6_night_136 : decode cX6_night 136 = .ok (.iload_n 2, 1) := by decide +kernel
theorem dX6_night_137 : decode cX6_night 137 = .ok (.ireturn, 1) := by decide +kernel
set_option maxRecDepth 20000 in
theorem ggX6_nightsGo_X6_night : GoodIn wsX6_nightsGo wsX6_night := goodIn_r _ [5, 6, 7, 8, 9, 4, 10, 11, 12, 13, 14, 15, 16, 17, 18, 19, 20, 21, 22, 23, 24, 25, 26, 27, 28, 29, 30, 31, 32, 33, 34, 35, 36, 37, 38, 39, 40, 41, 42, 43, 44, 45, 46, 47, 48, 49, 50, 51, 52, 53, 54, 55, 56, 57, 58, 59, 60, 61, 62, 63, 64, 65, 66, 67, 68, 69, 70, 71, 72, 73, 74, 75, 76, 77, 78, 79, 80, 81, 82, 83, 84, 85, 86, 87, 88, 89, 90, 91, 92, 93, 94, 95, 96, 97, 98, 99, 100, 101, 102, 103, 104, 105, 106, 107, 108] (by decide +kernel) (by decide +kernel)
set_option maxRecDepth 20000 in
theorem gX6_nightsGo_X6_night : GoodIn wsX6_nightsGo (wsV RX6 172 RX6 yX6_night wsX6_night) := goodIn_app (goodIn_of _ (by decide +kernel)) ggX6_nightsGo_X6_night
theorem dX6_nightsGo_0 : decode cX6_nightsGo 0 = .ok (.iconst 0, 1) := by decide +kernel
theorem dX6_nightsGo_1 : decode cX6_nightsGo 1 = .ok (.istore_n 2, 1) := by decide +kernel
theorem dX6_nightsGo_2 : decode cX6_nightsGo 2 = .ok (.iconst 0, 1) := by decide +kernel
theorem dX6_nightsGo_3 : decode cX6_nightsGo 3 = .ok (.istore_n 3, 1) := by decide +kernel
theorem dX6_nightsGo_4 : decode cX6_nightsGo 4 = .ok (.iload_n 3, 1) := by decide +kernel
theorem dX6_nightsGo_5 : decode cX6_nightsGo 5 = .ok (.iload_n 1, 1) := by decide +kernel
theorem dX6_nightsGo_6 : decode cX6_nightsGo 6 = .ok (.if_icmp .ge 25, 3) := by decide +kernel
theorem dX6_nightsGo_9 : decode cX6_nightsGo 9 = .ok (.iload_n 2, 1) := by decide +kernel
theorem dX6_nightsGo_10 : decode cX6_nightsGo 10 = .ok (.aload_n 0, 1) := by decide +kernel
theorem dX6_nightsGo_11 : decode cX6_nightsGo 11 = .ok (.invokevirtual 172, 3) := by decide +kernel
theorem dX6_nightsGo_14 : decode cX6_nightsGo 14 = .ok (.iconst 1, 1) := by decide +kernel
theorem dX6_nightsGo_15 : decode cX6_nightsGo 15 = .ok (.if_icmp .ne 7, 3) := by decide +kernel
theorem dX6_nightsGo_18 : decode cX6_nightsGo 18 = .ok (.iconst 1, 1) := by decide +kernel
theorem dX6_nightsGo_19 : decode cX6_nightsGo 19 = .ok (.goto 4, 3) := by decide +kernel
theorem dX6_nightsGo_22 : decode cX6_nightsGo 22 = .ok (.iconst 0, 1) := by decide +kernel
theorem dX6_nightsGo_23 : decode cX6_nightsGo 23 = .ok (.iadd, 1) := by decide +kernel
theorem dX6_nightsGo_24 : decode cX6_nightsGo 24 = .ok (.istore_n 2, 1) := by decide +kernel
theorem dX6_nightsGo_25 : decode cX6_nightsGo 25 = .ok (.iinc 3 1, 3) := by decide +kernel
theorem dX6_nightsGo_28 : decode cX6_nightsGo 28 = .ok (.goto (-24), 3) := by decide +kernel
theorem dX6_nightsGo_31 : decode cX6_nightsGo 31 = .ok (.iload_n 2, 1) := by decide +kernel
theorem dX6_nightsGo_32 : decode cX6_nightsGo 32 = .ok (.ireturn, 1) := by decide +kernel
theorem dX6_isTooLate_0 : decode cX6_isTooLate 0 = .ok (.aload_n 0, 1) := by decide +kernel
theorem dX6_isTooLate_1 : decode cX6_isTooLate 1 = .ok (.getfield 9, 3) := by decide +kernel
theorem dX6_isTooLate_4 : decode cX6_isTooLate 4 = .ok (.iconst 0, 1) := by decide +kernel
theorem dX6_isTooLate_5 : decode cX6_isTooLate 5 = .ok (.iaload, 1) := by decide +kernel
theorem dX6_isTooLate_6 : decode cX6_isTooLate 6 = .ok (.iload_n 1, 1) := by decide +kernel
theorem dX6_isTooLate_7 : decode cX6_isTooLate 7 = .ok (.iadd, 1) := by decide +kernel
theorem dX6_isTooLate_8 : decode cX6_isTooLate 8 = .ok (.sipush 9999, 3) := by decide +kernel
theorem dX6_isTooLate_11 : decode cX6_isTooLate 11 = .ok (.if_icmp .le 7, 3) := by decide +kernel
theorem dX6_isTooLate_14 : decode cX6_isTooLate 14 = .ok (.iconst 1, 1) := by decide +kernel
theorem dX6_isTooLate_15 : decode cX6_isTooLate 15 = .ok (.goto 4, 3) := by decide +kernel
theorem dX6_isTooLate_18 : decode cX6_isTooLate 18 = .ok (.iconst 0, 1) := by decide +kernel
theorem dX6_isTooLate_19 : decode cX6_isTooLate 19 = .ok (.ireturn, 1) := by decide +kernel
set_option maxRecDepth 20000 in
theorem ggX6_nights_X6_within : GoodIn wsX6_nights wsX6_within := goodIn_r _ [6] (by decide +kernel) (by decide +kernel)
set_option maxRecDepth 20000 in
theorem gX6_nights_X6_within : GoodIn wsX6_nights (va_wsS RX6 69 yX6_within wsX6_within) := goodIn_app (goodIn_of _ (by decide +kernel)) ggX6_nights_X6_within
set_option maxRecDepth 20000 in
theorem ggX6_nights_X6_finding : GoodIn wsX6_nights wsX6_finding := goodIn_r _ [10, 11, 1, 105, 106, 107, 108, 109, 110, 111, 112, 113, 114, 115, 116, 117, 118, 119, 120, 121, 122, 123, 124, 125, 126] (by decide +kernel) (by decide +kernel)
set_option maxRecDepth 20000 in
theorem gX6_nights_X6_finding : GoodIn wsX6_nights (wsV RX6 83 RX6 yX6_finding wsX6_finding) := goodIn_app (goodIn_of _ (by decide +kernel)) ggX6_nights_X6_finding
set_option maxRecDepth 20000 in
theorem ggX6_nights_X6_isTooLate : GoodIn wsX6_nights wsX6_isTooLate := goodIn_r _ [15, 16, 105, 106, 107, 108, 109, 110, 111, 112, 113, 114, 115, 116, 117, 118, 119, 120, 121, 122, 123, 124, 125, 126] (by decide +kernel) (by decide +kernel)
set_option maxRecDepth 20000 in
theorem gX6_nights_X6_isTooLate : GoodIn wsX6_nights (wsV RX6 176 RX6 yX6_isTooLate wsX6_isTooLate) := goodIn_app (goodIn_of _ (by decide +kernel)) ggX6_nights_X6_isTooLate
set_option maxRecDepth 20000 in
theorem ggX6_nights_X6_nightsGo : GoodIn wsX6_nights wsX6_nightsGo := goodIn_r _ [20, 21, 22, 23, 5, 24, 16, 25, 26, 27, 28, 29, 30, 31, 32, 33, 34, 35, 36, 37, 38, 39, 40, 41, 42, 43, 44, 45, 46, 47, 48, 49, 50, 51, 52, 53, 54, 55, 56, 57, 58, 59, 60, 61, 62, 63, 64, 65, 66, 67, 68, 69, 70, 71, 72, 73, 74, 75, 76, 77, 78, 79, 80, 81, 82, 83, 84, 85, 86, 87, 88, 89, 90, 91, 92, 93, 94, 95, 96, 97, 98, 99, 100, 101, 102, 103, 104, 105, 106, 107, 108, 109, 110, 111, 112, 113, 114, 115, 116, 117, 118, 119, 120, 121, 122, 123, 124, 125, 126] (by decide +kernel) (by decide +kernel)
set_option maxRecDepth 20000 in
theorem gX6_nights_X6_nightsGo : GoodIn wsX6_nights (wsV RX6 179 RX6 yX6_nightsGo wsX6_nightsGo) := goodIn_app (goodIn_of _ (by decide +kernel)) ggX6_nights_X6_nightsGo
theorem dX6_nights_0 : decode cX6_nights 0 = .ok (.iload_n 1, 1) := by decide +kernel
theorem dX6_nights_1 : decode cX6_nights 1 = .ok (.iconst 1, 1) := by decide +kernel
theorem dX6_nights_2 : decode cX6_nights 2 = .ok (.bipush 60, 2) := by decide +kernel
theorem dX6_nights_4 : decode cX6_nights 4 = .ok (.invokestatic 69, 3) := by decide +kernel
theorem dX6_nights_7 : decode cX6_nights 7 = .ok (.ifCond .ne 10, 3) := by decide +kernel
theorem dX6_nights_10 : decode cX6_nights 10 = .ok (.aload_n 0, 1) := by decide +kernel
theorem dX6_nights_11 : decode cX6_nights 11 = .ok (.ldc 64, 2) := by decide +kernel
theorem dX6_nights_13 : decode cX6_nights 13 = .ok (.invokevirtual 83, 3) := by decide +kernel
theorem dX6_nights_16 : decode cX6_nights 16 = .ok (.ireturn, 1) := by decide +kernel
theorem dX6_nights_17 : decode cX6_nights 17 = .ok (.aload_n 0, 1) := by decide +kernel
theorem dX6_nights_18 : decode cX6_nights 18 = .ok (.iload_n 1, 1) := by decide +kernel
theorem dX6_nights_19 : decode cX6_nights 19 = .ok (.invokevirtual 176, 3) := by decide +kernel
theorem dX6_nights_22 : decode cX6_nights 22 = .ok (.ifCond .eq 12, 3) := by decide +kernel
theorem dX6_nights_25 : decode cX6_nights 25 = .ok (.aload_n 0, 1) := by decide +kernel
theorem dX6_nights_26 : decode cX6_nights 26 = .ok (.ldc 134, 2) := by decide +kernel
theorem dX6_nights_28 : decode cX6_nights 28 = .ok (.invokevirtual 83, 3) := by decide +kernel
theorem dX6_nights_31 : decode cX6_nights 31 = .ok (.goto 8, 3) := by decide +kernel
theorem dX6_nights_34 : decode cX6_nights 34 = .ok (.aload_n 0, 1) := by decide +kernel
theorem dX6_nights_35 : decode cX6_nights 35 = .ok (.iload_n 1, 1) := by decide +kernel
theorem dX6_nights_36 : decode cX6_nights 36 = .ok (.invokevirtual 179, 3) := by decide +kernel
theorem dX6_nights_39 : decode cX6_nights 39 = .ok (.ireturn, 1) := by decide +kernel
set_option maxRecDepth 20000 in
theorem ggX6_inHeaps_X6_sum : GoodIn wsX6_inHeaps wsX6_sum := goodIn_r _ [5, 6, 7, 8, 4, 9, 10, 11, 12, 13, 14, 15, 16, 17, 18, 19, 20, 21, 22, 23, 24, 25, 26, 27, 28, 29, 30, 31, 32, 33, 34, 35] (by decide +kernel) (by decide +kernel)
set_option maxRecDepth 20000 in
theorem gX6_inHeaps_X6_sum : GoodIn wsX6_inHeaps (wsV RX6 122 RX6 yX6_sum wsX6_sum) := goodIn_app (goodIn_of _ (by decide +kernel)) ggX6_inHeaps_X6_sum
theorem dX6_inHeaps_0 : decode cX6_inHeaps 0 = .ok (.aload_n 0, 1) := by decide +kernel
theorem dX6_inHeaps_1 : decode cX6_inHeaps 1 = .ok (.iconst 0, 1) := by decide +kernel
theorem dX6_inHeaps_2 : decode cX6_inHeaps 2 = .ok (.bipush 7, 2) := by decide +kernel
theorem dX6_inHeaps_4 : decode cX6_inHeaps 4 = .ok (.invokevirtual 122, 3) := by decide +kernel
theorem dX6_inHeaps_7 : decode cX6_inHeaps 7 = .ok (.aload_n 0, 1) := by decide +kernel
theorem dX6_inHeaps_8 : decode cX6_inHeaps 8 = .ok (.iconst 1, 1) := by decide +kernel
theorem dX6_inHeaps_9 : decode cX6_inHeaps 9 = .ok (.bipush 7, 2) := by decide +kernel
theorem dX6_inHeaps_11 : decode cX6_inHeaps 11 = .ok (.invokevirtual 122, 3) := by decide +kernel
theorem dX6_inHeaps_14 : decode cX6_inHeaps 14 = .ok (.iadd, 1) := by decide +kernel
theorem dX6_inHeaps_15 : decode cX6_inHeaps 15 = .ok (.ireturn, 1) := by decide +kernel
set_option maxRecDepth 20000 in
theorem ggX6_now_X6_sum : GoodIn wsX6_now wsX6_sum := goodIn_r _ [11, 12, 13, 14, 10, 15, 1, 16, 17, 18, 24, 25, 26, 27, 28, 29, 30, 31, 32, 33, 34, 35, 36, 37, 38, 39, 40, 41, 42, 43, 44, 45] (by decide +kernel) (by decide +kernel)
set_option maxRecDepth 20000 in
theorem gX6_now_X6_sum : GoodIn wsX6_now (wsV RX6 122 RX6 yX6_sum wsX6_sum) := goodIn_app (goodIn_of _ (by decide +kernel)) ggX6_now_X6_sum
set_option maxRecDepth 20000 in
theorem ggX6_now_X6_finding : GoodIn wsX6_now wsX6_finding := goodIn_r _ [22, 23, 6, 24, 25, 26, 27, 28, 29, 30, 31, 32, 33, 34, 35, 36, 37, 38, 39, 40, 41, 42, 43, 44, 45] (by decide +kernel) (by decide +kernel)
set_option maxRecDepth 20000 in
theorem gX6_now_X6_finding : GoodIn wsX6_now (wsV RX6 83 RX6 yX6_finding wsX6_finding) := goodIn_app (goodIn_of _ (by decide +kernel)) ggX6_now_X6_finding
theorem dX6_now_0 : decode cX6_now 0 = .ok (.iload_n 1, 1) := by decide +kernel
theorem dX6_now_1 : decode cX6_now 1 = .ok (.tableswitch 106 0 6 #[43, 50, 58, 66, 80, 92, 99], 43) := by decide +kernel
theorem dX6_now_44 : decode cX6_now 44 = .ok (.aload_n 0, 1) := by decide +kernel
theorem dX6_now_45 : decode cX6_now 45 = .ok (.getfield 9, 3) := by decide +kernel
theorem dX6_now_48 : decode cX6_now 48 = .ok (.iconst 0, 1) := by decide +kernel
theorem dX6_now_49 : decode cX6_now 49 = .ok (.iaload, 1) := by decide +kernel
theorem dX6_now_50 : decode cX6_now 50 = .ok (.ireturn, 1) := by decide +kernel
theorem dX6_now_51 : decode cX6_now 51 = .ok (.aload_n 0, 1) := by decide +kernel
theorem dX6_now_52 : decode cX6_now 52 = .ok (.iconst 0, 1) := by decide +kernel
theorem dX6_now_53 : decode cX6_now 53 = .ok (.bipush 7, 2) := by decide +kernel
theorem dX6_now_55 : decode cX6_now 55 = .ok (.invokevirtual 122, 3) := by decide +kernel
theorem dX6_now_58 : decode cX6_now 58 = .ok (.ireturn, 1) := by decide +kernel
theorem dX6_now_59 : decode cX6_now 59 = .ok (.aload_n 0, 1) := by decide +kernel
theorem dX6_now_60 : decode cX6_now 60 = .ok (.iconst 1, 1) := by decide +kernel
theorem dX6_now_61 : decode cX6_now 61 = .ok (.bipush 7, 2) := by decide +kernel
theorem dX6_now_63 : decode cX6_now 63 = .ok (.invokevirtual 122, 3) := by decide +kernel
theorem dX6_now_66 : decode cX6_now 66 = .ok (.ireturn, 1) := by decide +kernel
theorem dX6_now_67 : decode cX6_now 67 = .ok (.aload_n 0, 1) := by decide +kernel
theorem dX6_now_68 : decode cX6_now 68 = .ok (.iconst 0, 1) := by decide +kernel
theorem dX6_now_69 : decode cX6_now 69 = .ok (.iconst 2, 1) := by decide +kernel
theorem dX6_now_70 : decode cX6_now 70 = .ok (.invokevirtual 122, 3) := by decide +kernel
theorem dX6_now_73 : decode cX6_now 73 = .ok (.aload_n 0, 1) := by decide +kernel
theorem dX6_now_74 : decode cX6_now 74 = .ok (.iconst 1, 1) := by decide +kernel
theorem dX6_now_75 : decode cX6_now 75 = .ok (.iconst 2, 1) := by decide +kernel
theorem dX6_now_76 : decode cX6_now 76 = .ok (.invokevirtual 122, 3) := by decide +kernel
theorem dX6_now_79 : decode cX6_now 79 = .ok (.iadd, 1) := by decide +kernel
theorem dX6_now_80 : decode cX6_now 80 = .ok (.ireturn, 1) := by decide +kernel
theorem dX6_now_81 : decode cX6_now 81 = .ok (.bipush 12, 2) := by decide +kernel
theorem dX6_now_83 : decode cX6_now 83 = .ok (.aload_n 0, 1) := by decide +kernel
theorem dX6_now_84 : decode cX6_now 84 = .ok (.getfield 9, 3) := by decide +kernel
theorem dX6_now_87 : decode cX6_now 87 = .ok (.iconst 0, 1) := by decide +kernel
theorem dX6_now_88 : decode cX6_now 88 = .ok (.iaload, 1) := by decide +kernel
theorem dX6_now_89 : decode cX6_now 89 = .ok (.invokestatic 111, 3) := by decide +kernel
theorem dX6_now_92 : decode cX6_now 92 = .ok (.ireturn, 1) := by decide +kernel
theorem dX6_now_93 : decode cX6_now 93 = .ok (.aload_n 0, 1) := by decide +kernel
theorem dX6_now_94 : decode cX6_now 94 = .ok (.getfield 9, 3) := by decide +kernel
theorem dX6_now_97 : decode cX6_now 97 = .ok (.iconst 1, 1) := by decide +kernel
theorem dX6_now_98 : decode cX6_now 98 = .ok (.iaload, 1) := by decide +kernel
theorem dX6_now_99 : decode cX6_now 99 = .ok (.ireturn, 1) := by decide +kernel
theorem dX6_now_100 : decode cX6_now 100 = .ok (.aload_n 0, 1) := by decide +kernel
theorem dX6_now_101 : decode cX6_now 101 = .ok (.getfield 9, 3) := by decide +kernel
theorem dX6_now_104 : decode cX6_now 104 = .ok (.iconst 2, 1) := by decide +kernel
theorem dX6_now_105 : decode cX6_now 105 = .ok (.iaload, 1) := by decide +kernel
theorem dX6_now_106 : decode cX6_now 106 = .ok (.ireturn, 1) := by decide +kernel
theorem dX6_now_107 : decode cX6_now 107 = .ok (.aload_n 0, 1) := by decide +kernel
theorem dX6_now_108 : decode cX6_now 108 = .ok (.ldc 64, 2) := by decide +kernel
theorem dX6_now_110 : decode cX6_now 110 = .ok (.invokevirtual 83, 3) := by decide +kernel
theorem dX6_now_113 : decode cX6_now 113 = .ok (.ireturn, 1) := by decide +kernel
set_option maxRecDepth 20000 in
theorem ggX6_ahead_X6_within : GoodIn wsX6_ahead wsX6_within := goodIn_r _ [8] (by decide +kernel) (by decide +kernel)
set_option maxRecDepth 20000 in
theorem gX6_ahead_X6_within : GoodIn wsX6_ahead (va_wsS RX6 69 yX6_within wsX6_within) := goodIn_app (goodIn_of _ (by decide +kernel)) ggX6_ahead_X6_within
set_option maxRecDepth 20000 in
theorem ggX6_ahead_X6_finding : GoodIn wsX6_ahead wsX6_finding := goodIn_r _ [12, 13, 1, 121, 122, 123, 124, 125, 126, 127, 128, 129, 130, 131, 132, 133, 134, 135, 136, 137, 138, 139, 140, 141, 142] (by decide +kernel) (by decide +kernel)
set_option maxRecDepth 20000 in
theorem gX6_ahead_X6_finding : GoodIn wsX6_ahead (wsV RX6 83 RX6 yX6_finding wsX6_finding) := goodIn_app (goodIn_of _ (by decide +kernel)) ggX6_ahead_X6_finding
set_option maxRecDepth 20000 in
theorem ggX6_ahead_X6_isTooLate : GoodIn wsX6_ahead wsX6_isTooLate := goodIn_r _ [17, 3, 121, 122, 123, 124, 125, 126, 127, 128, 129, 130, 131, 132, 133, 134, 135, 136, 137, 138, 139, 140, 141, 142] (by decide +kernel) (by decide +kernel)
set_option maxRecDepth 20000 in
theorem gX6_ahead_X6_isTooLate : GoodIn wsX6_ahead (wsV RX6 176 RX6 yX6_isTooLate wsX6_isTooLate) := goodIn_app (goodIn_of _ (by decide +kernel)) ggX6_ahead_X6_isTooLate
set_option maxRecDepth 20000 in
theorem ggX6_ahead_X6_copyRow : GoodIn wsX6_ahead wsX6_copyRow := goodIn_r _ [20] (by decide +kernel) (by decide +kernel)
set_option maxRecDepth 20000 in
theorem gX6_ahead_X6_copyRow : GoodIn wsX6_ahead (va_wsS RX6 65 yX6_copyRow wsX6_copyRow) := goodIn_app (goodIn_of _ (by decide +kernel)) ggX6_ahead_X6_copyRow
set_option maxRecDepth 20000 in
theorem ggX6_ahead_X6_allOf : GoodIn wsX6_ahead wsX6_allOf := goodIn_r _ [24, 25, 26, 27, 7, 28, 3, 29, 30, 31, 32, 33, 34, 35, 36, 37, 38, 39, 40, 41, 42, 43, 44, 45, 121, 122, 123, 124, 125, 126, 127, 128, 129, 130, 131, 132, 133, 134, 135, 136, 137, 138, 139, 140, 141, 142] (by decide +kernel) (by decide +kernel)
set_option maxRecDepth 20000 in
theorem gX6_ahead_X6_allOf : GoodIn wsX6_ahead (wsV RX6 182 RX6 yX6_allOf wsX6_allOf) := goodIn_app (goodIn_of _ (by decide +kernel)) ggX6_ahead_X6_allOf
set_option maxRecDepth 20000 in
theorem ggX6_ahead_X6_nightsGo : GoodIn wsX6_ahead wsX6_nightsGo := goodIn_r _ [49, 50, 51, 52, 7, 53, 3, 54, 55, 56, 57, 25, 26, 27, 28, 29, 30, 31, 58, 59, 60, 61, 62, 63, 64, 65, 66, 67, 68, 69, 70, 71, 72, 73, 32, 33, 34, 35, 36, 37, 38, 39, 40, 41, 42, 43, 44, 45, 74, 75, 76, 77, 78, 79, 80, 81, 82, 83, 84, 85, 86, 87, 88, 89, 90, 91, 92, 93, 94, 95, 96, 97, 98, 99, 100, 101, 102, 103, 104, 105, 106, 107, 108, 109, 110, 111, 112, 121, 122, 123, 124, 125, 126, 127, 128, 129, 130, 131, 132, 133, 134, 135, 136, 137, 138, 139, 140, 141, 142] (by decide +kernel) (by decide +kernel)
set_option maxRecDepth 20000 in
theorem gX6_ahead_X6_nightsGo : GoodIn wsX6_ahead (wsV RX6 179 RX6 yX6_nightsGo wsX6_nightsGo) := goodIn_app (goodIn_of _ (by decide +kernel)) ggX6_ahead_X6_nightsGo
set_option maxRecDepth 20000 in
theorem ggX6_ahead_X6_inHeaps : GoodIn wsX6_ahead wsX6_inHeaps := goodIn_r _ [116, 62, 63, 64, 7, 65, 25, 26, 27, 28, 3, 29, 30, 31, 121, 122, 123, 124, 125, 126, 127, 128, 129, 130, 131, 132, 133, 134, 135, 136, 137, 138, 139, 140, 141, 142] (by decide +kernel) (by decide +kernel)
set_option maxRecDepth 20000 in
theorem gX6_ahead_X6_inHeaps : GoodIn wsX6_ahead (wsV RX6 185 RX6 yX6_inHeaps wsX6_inHeaps) := goodIn_app (goodIn_of _ (by decide +kernel)) ggX6_ahead_X6_inHeaps
set_option maxRecDepth 20000 in
theorem ggX6_ahead_X6_putBack : GoodIn wsX6_ahead wsX6_putBack := goodIn_r _ [120, 4, 3, 18, 19, 7, 20, 121, 122, 123, 124, 125, 126, 127, 128, 129, 130, 131, 132, 133, 134, 135, 136, 137, 138, 139, 140, 141, 142] (by decide +kernel) (by decide +kernel)
set_option maxRecDepth 20000 in
theorem gX6_ahead_X6_putBack : GoodIn wsX6_ahead (wsV RX6 188 RX6 yX6_putBack wsX6_putBack) := goodIn_app (goodIn_of _ (by decide +kernel)) ggX6_ahead_X6_putBack
theorem dX6_ahead_0 : decode cX6_ahead 0 = .ok (.iload_n 1, 1) := by decide +kernel
theorem dX6_ahead_1 : decode cX6_ahead 1 = .ok (.iconst 0, 1) := by decide +kernel
theorem dX6_ahead_2 : decode cX6_ahead 2 = .ok (.bipush 60, 2) := by decide +kernel
theorem dX6_ahead_4 : decode cX6_ahead 4 = .ok (.invokestatic 69, 3) := by decide +kernel
theorem dX6_ahead_7 : decode cX6_ahead 7 = .ok (.ifCond .eq 12, 3) := by decide +kernel
theorem dX6_ahead_10 : decode cX6_ahead 10 = .ok (.iload_n 2, 1) := by decide +kernel
theorem dX6_ahead_11 : decode cX6_ahead 11 = .ok (.iconst 0, 1) := by decide +kernel
theorem dX6_ahead_12 : decode cX6_ahead 12 = .ok (.iconst 4, 1) := by decide +kernel
theorem dX6_ahead_13 : decode cX6_ahead 13 = .ok (.invokestatic 69, 3) := by decide +kernel
theorem dX6_ahead_16 : decode cX6_ahead 16 = .ok (.ifCond .ne 10, 3) := by decide +kernel
theorem dX6_ahead_19 : decode cX6_ahead 19 = .ok (.aload_n 0, 1) := by decide +kernel
theorem dX6_ahead_20 : decode cX6_ahead 20 = .ok (.ldc 64, 2) := by decide +kernel
theorem dX6_ahead_22 : decode cX6_ahead 22 = .ok (.invokevirtual 83, 3) := by decide +kernel
theorem dX6_ahead_25 : decode cX6_ahead 25 = .ok (.ireturn, 1) := by decide +kernel
theorem dX6_ahead_26 : decode cX6_ahead 26 = .ok (.aload_n 0, 1) := by decide +kernel
theorem dX6_ahead_27 : decode cX6_ahead 27 = .ok (.iload_n 1, 1) := by decide +kernel
theorem dX6_ahead_28 : decode cX6_ahead 28 = .ok (.invokevirtual 176, 3) := by decide +kernel
theorem dX6_ahead_31 : decode cX6_ahead 31 = .ok (.ifCond .eq 10, 3) := by decide +kernel
theorem dX6_ahead_34 : decode cX6_ahead 34 = .ok (.aload_n 0, 1) := by decide +kernel
theorem dX6_ahead_35 : decode cX6_ahead 35 = .ok (.ldc 134, 2) := by decide +kernel
theorem dX6_ahead_37 : decode cX6_ahead 37 = .ok (.invokevirtual 83, 3) := by decide +kernel
theorem dX6_ahead_40 : decode cX6_ahead 40 = .ok (.ireturn, 1) := by decide +kernel
theorem dX6_ahead_41 : decode cX6_ahead 41 = .ok (.aload_n 0, 1) := by decide +kernel
theorem dX6_ahead_42 : decode cX6_ahead 42 = .ok (.getfield 9, 3) := by decide +kernel
theorem dX6_ahead_45 : decode cX6_ahead 45 = .ok (.aload_n 0, 1) := by decide +kernel
theorem dX6_ahead_46 : decode cX6_ahead 46 = .ok (.getfield 16, 3) := by decide +kernel
theorem dX6_ahead_49 : decode cX6_ahead 49 = .ok (.invokestatic 65, 3) := by decide +kernel
theorem dX6_ahead_52 : decode cX6_ahead 52 = .ok (.iload_n 2, 1) := by decide +kernel
theorem dX6_ahead_53 : decode cX6_ahead 53 = .ok (.iconst 2, 1) := by decide +kernel
theorem dX6_ahead_54 : decode cX6_ahead 54 = .ok (.if_icmp .le 13, 3) := by decide +kernel
theorem dX6_ahead_57 : decode cX6_ahead 57 = .ok (.aload_n 0, 1) := by decide +kernel
theorem dX6_ahead_58 : decode cX6_ahead 58 = .ok (.iload_n 2, 1) := by decide +kernel
theorem dX6_ahead_59 : decode cX6_ahead 59 = .ok (.iconst 3, 1) := by decide +kernel
theorem dX6_ahead_60 : decode cX6_ahead 60 = .ok (.isub, 1) := by decide +kernel
theorem dX6_ahead_61 : decode cX6_ahead 61 = .ok (.invokevirtual 182, 3) := by decide +kernel
theorem dX6_ahead_64 : decode cX6_ahead 64 = .ok (.goto 4, 3) := by decide +kernel
theorem dX6_ahead_67 : decode cX6_ahead 67 = .ok (.iconst 0, 1) := by decide +kernel
theorem dX6_ahead_68 : decode cX6_ahead 68 = .ok (.istore_n 3, 1) := by decide +kernel
theorem dX6_ahead_69 : decode cX6_ahead 69 = .ok (.aload_n 0, 1) := by decide +kernel
theorem dX6_ahead_70 : decode cX6_ahead 70 = .ok (.getfield 9, 3) := by decide +kernel
theorem dX6_ahead_73 : decode cX6_ahead 73 = .ok (.iconst 3, 1) := by decide +kernel
theorem dX6_ahead_74 : decode cX6_ahead 74 = .ok (.iaload, 1) := by decide +kernel
theorem dX6_ahead_75 : decode cX6_ahead 75 = .ok (.istore 4, 2) := by decide +kernel
theorem dX6_ahead_77 : decode cX6_ahead 77 = .ok (.aload_n 0, 1) := by decide +kernel
theorem dX6_ahead_78 : decode cX6_ahead 78 = .ok (.iload_n 1, 1) := by decide +kernel
theorem dX6_ahead_79 : decode cX6_ahead 79 = .ok (.invokevirtual 179, 3) := by decide +kernel
theorem dX6_ahead_82 : decode cX6_ahead 82 = .ok (.istore 5, 2) := by decide +kernel
theorem dX6_ahead_84 : decode cX6_ahead 84 = .ok (.aload_n 0, 1) := by decide +kernel
theorem dX6_ahead_85 : decode cX6_ahead 85 = .ok (.iload_n 2, 1) := by decide +kernel
theorem dX6_ahead_86 : decode cX6_ahead 86 = .ok (.ifCond .ne 8, 3) := by decide +kernel
theorem dX6_ahead_89 : decode cX6_ahead 89 = .ok (.iload 5, 2) := by decide +kernel
theorem dX6_ahead_91 : decode cX6_ahead 91 = .ok (.goto 41, 3) := by decide +kernel
theorem dX6_ahead_94 : decode cX6_ahead 94 = .ok (.iload_n 2, 1) := by decide +kernel
theorem dX6_ahead_95 : decode cX6_ahead 95 = .ok (.iconst 1, 1) := by decide +kernel
theorem dX6_ahead_96 : decode cX6_ahead 96 = .ok (.if_icmp .ne 10, 3) := by decide +kernel
theorem dX6_ahead_99 : decode cX6_ahead 99 = .ok (.aload_n 0, 1) := by decide +kernel
theorem dX6_ahead_100 : decode cX6_ahead 100 = .ok (.invokevirtual 185, 3) := by decide +kernel
theorem dX6_ahead_103 : decode cX6_ahead 103 = .ok (.goto 29, 3) := by decide +kernel
theorem dX6_ahead_106 : decode cX6_ahead 106 = .ok (.iload_n 2, 1) := by decide +kernel
theorem dX6_ahead_107 : decode cX6_ahead 107 = .ok (.iconst 2, 1) := by decide +kernel
theorem dX6_ahead_108 : decode cX6_ahead 108 = .ok (.if_icmp .ne 15, 3) := by decide +kernel
theorem dX6_ahead_111 : decode cX6_ahead 111 = .ok (.aload_n 0, 1) := by decide +kernel
theorem dX6_ahead_112 : decode cX6_ahead 112 = .ok (.getfield 9, 3) := by decide +kernel
theorem dX6_ahead_115 : decode cX6_ahead 115 = .ok (.iconst 3, 1) := by decide +kernel
theorem dX6_ahead_116 : decode cX6_ahead 116 = .ok (.iaload, 1) := by decide +kernel
theorem dX6_ahead_117 : decode cX6_ahead 117 = .ok (.iload 4, 2) := by decide +kernel
theorem dX6_ahead_119 : decode cX6_ahead 119 = .ok (.isub, 1) := by decide +kernel
theorem dX6_ahead_120 : decode cX6_ahead 120 = .ok (.goto 12, 3) := by decide +kernel
theorem dX6_ahead_123 : decode cX6_ahead 123 = .ok (.aload_n 0, 1) := by decide +kernel
theorem dX6_ahead_124 : decode cX6_ahead 124 = .ok (.iload_n 2, 1) := by decide +kernel
theorem dX6_ahead_125 : decode cX6_ahead 125 = .ok (.iconst 3, 1) := by decide +kernel
theorem dX6_ahead_126 : decode cX6_ahead 126 = .ok (.isub, 1) := by decide +kernel
theorem dX6_ahead_127 : decode cX6_ahead 127 = .ok (.invokevirtual 182, 3) := by decide +kernel
theorem dX6_ahead_130 : decode cX6_ahead 130 = .ok (.iload_n 3, 1) := by decide +kernel
theorem dX6_ahead_131 : decode cX6_ahead 131 = .ok (.isub, 1) := by decide +kernel
theorem dX6_ahead_132 : decode cX6_ahead 132 = .ok (.invokevirtual 188, 3) := by decide +kernel
theorem dX6_ahead_135 : decode cX6_ahead 135 = .ok (.ireturn, 1) := by decide +kernel
set_option maxRecDepth 20000 in
theorem ggX6_isLate_X6_isTooLate : GoodIn wsX6_isLate wsX6_isTooLate := goodIn_r _ [5, 6, 7, 8, 9, 10, 11, 12, 13, 14, 15, 16, 17, 18, 19, 20, 21, 22, 23, 24, 25, 26, 27, 28] (by decide +kernel) (by decide +kernel)
set_option maxRecDepth 20000 in
theorem gX6_isLate_X6_isTooLate : GoodIn wsX6_isLate (wsV RX6 176 RX6 yX6_isTooLate wsX6_isTooLate) := goodIn_app (goodIn_of _ (by decide +kernel)) ggX6_isLate_X6_isTooLate
theorem dX6_isLate_0 : decode cX6_isLate 0 = .ok (.aload_n 0, 1) := by decide +kernel
theorem dX6_isLate_1 : decode cX6_isLate 1 = .ok (.bipush 60, 2) := by decide +kernel
theorem dX6_isLate_3 : decode cX6_isLate 3 = .ok (.invokevirtual 176, 3) := by decide +kernel
theorem dX6_isLate_6 : decode cX6_isLate 6 = .ok (.ireturn, 1) := by decide +kernel
set_option maxRecDepth 20000 in
theorem ggX6_struck_X6_isLate : GoodIn wsX6_struck wsX6_isLate := goodIn_r _ [9, 10, 11, 12, 8, 13, 2, 111, 112, 113, 114, 115, 116, 117, 118, 119, 120, 121, 122, 123, 124, 125, 126, 127, 128, 129, 130, 131, 132] (by decide +kernel) (by decide +kernel)
set_option maxRecDepth 20000 in
theorem gX6_struck_X6_isLate : GoodIn wsX6_struck (wsV RX6 191 RX6 yX6_isLate wsX6_isLate) := goodIn_app (goodIn_of _ (by decide +kernel)) ggX6_struck_X6_isLate
set_option maxRecDepth 20000 in
theorem ggX6_struck_X6_finding : GoodIn wsX6_struck wsX6_finding := goodIn_r _ [17, 18, 19, 111, 112, 113, 114, 115, 116, 117, 118, 119, 120, 121, 122, 123, 124, 125, 126, 127, 128, 129, 130, 131, 132] (by decide +kernel) (by decide +kernel)
set_option maxRecDepth 20000 in
theorem gX6_struck_X6_finding : GoodIn wsX6_struck (wsV RX6 83 RX6 yX6_finding wsX6_finding) := goodIn_app (goodIn_of _ (by decide +kernel)) ggX6_struck_X6_finding
set_option maxRecDepth 20000 in
theorem ggX6_struck_X6_copyRow : GoodIn wsX6_struck wsX6_copyRow := goodIn_r _ [22] (by decide +kernel) (by decide +kernel)
set_option maxRecDepth 20000 in
theorem gX6_struck_X6_copyRow : GoodIn wsX6_struck (va_wsS RX6 65 yX6_copyRow wsX6_copyRow) := goodIn_app (goodIn_of _ (by decide +kernel)) ggX6_struck_X6_copyRow
set_option maxRecDepth 20000 in
theorem ggX6_struck_X6_night : GoodIn wsX6_struck wsX6_night := goodIn_r _ [26, 2, 27, 28, 29, 8, 30, 31, 32, 33, 34, 35, 36, 37, 38, 39, 40, 41, 42, 43, 44, 45, 46, 47, 48, 49, 50, 51, 52, 53, 54, 55, 56, 57, 58, 59, 60, 61, 62, 63, 64, 65, 66, 67, 68, 69, 70, 71, 72, 73, 74, 75, 76, 77, 78, 79, 80, 81, 82, 83, 84, 85, 86, 87, 88, 89, 90, 91, 92, 93, 94, 95, 96, 97, 98, 99, 100, 101, 102, 103, 104, 105, 106, 111, 112, 113, 114, 115, 116, 117, 118, 119, 120, 121, 122, 123, 124, 125, 126, 127, 128, 129, 130, 131, 132] (by decide +kernel) (by decide +kernel)
set_option maxRecDepth 20000 in
theorem gX6_struck_X6_night : GoodIn wsX6_struck (wsV RX6 172 RX6 yX6_night wsX6_night) := goodIn_app (goodIn_of _ (by decide +kernel)) ggX6_struck_X6_night
set_option maxRecDepth 20000 in
theorem ggX6_struck_X6_putBack : GoodIn wsX6_struck wsX6_putBack := goodIn_r _ [110, 3, 2, 20, 21, 8, 22, 111, 112, 113, 114, 115, 116, 117, 118, 119, 120, 121, 122, 123, 124, 125, 126, 127, 128, 129, 130, 131, 132] (by decide +kernel) (by decide +kernel)
set_option maxRecDepth 20000 in
theorem gX6_struck_X6_putBack : GoodIn wsX6_struck (wsV RX6 188 RX6 yX6_putBack wsX6_putBack) := goodIn_app (goodIn_of _ (by decide +kernel)) ggX6_struck_X6_putBack
theorem dX6_struck_0 : decode cX6_struck 0 = .ok (.aload_n 0, 1) := by decide +kernel
theorem dX6_struck_1 : decode cX6_struck 1 = .ok (.invokevirtual 191, 3) := by decide +kernel
theorem dX6_struck_4 : decode cX6_struck 4 = .ok (.ifCond .eq 10, 3) := by decide +kernel
theorem dX6_struck_7 : decode cX6_struck 7 = .ok (.aload_n 0, 1) := by decide +kernel
theorem dX6_struck_8 : decode cX6_struck 8 = .ok (.ldc 134, 2) := by decide +kernel
theorem dX6_struck_10 : decode cX6_struck 10 = .ok (.invokevirtual 83, 3) := by decide +kernel
theorem dX6_struck_13 : decode cX6_struck 13 = .ok (.ireturn, 1) := by decide +kernel
theorem dX6_struck_14 : decode cX6_struck 14 = .ok (.aload_n 0, 1) := by decide +kernel
theorem dX6_struck_15 : decode cX6_struck 15 = .ok (.getfield 9, 3) := by decide +kernel
theorem dX6_struck_18 : decode cX6_struck 18 = .ok (.aload_n 0, 1) := by decide +kernel
theorem dX6_struck_19 : decode cX6_struck 19 = .ok (.getfield 16, 3) := by decide +kernel
theorem dX6_struck_22 : decode cX6_struck 22 = .ok (.invokestatic 65, 3) := by decide +kernel
theorem dX6_struck_25 : decode cX6_struck 25 = .ok (.iconst 0, 1) := by decide +kernel
theorem dX6_struck_26 : decode cX6_struck 26 = .ok (.istore_n 1, 1) := by decide +kernel
theorem dX6_struck_27 : decode cX6_struck 27 = .ok (.iconst 0, 1) := by decide +kernel
theorem dX6_struck_28 : decode cX6_struck 28 = .ok (.istore_n 2, 1) := by decide +kernel
theorem dX6_struck_29 : decode cX6_struck 29 = .ok (.iload_n 1, 1) := by decide +kernel
theorem dX6_struck_30 : decode cX6_struck 30 = .ok (.bipush 60, 2) := by decide +kernel
theorem dX6_struck_32 : decode cX6_struck 32 = .ok (.if_icmp .ge 27, 3) := by decide +kernel
theorem dX6_struck_35 : decode cX6_struck 35 = .ok (.iload_n 2, 1) := by decide +kernel
theorem dX6_struck_36 : decode cX6_struck 36 = .ok (.ifCond .ne 23, 3) := by decide +kernel
theorem dX6_struck_39 : decode cX6_struck 39 = .ok (.aload_n 0, 1) := by decide +kernel
theorem dX6_struck_40 : decode cX6_struck 40 = .ok (.invokevirtual 172, 3) := by decide +kernel
theorem dX6_struck_43 : decode cX6_struck 43 = .ok (.iconst 1, 1) := by decide +kernel
theorem dX6_struck_44 : decode cX6_struck 44 = .ok (.if_icmp .ne 7, 3) := by decide +kernel
theorem dX6_struck_47 : decode cX6_struck 47 = .ok (.iconst 1, 1) := by decide +kernel
theorem dX6_struck_48 : decode cX6_struck 48 = .ok (.goto 4, 3) := by decide +kernel
theorem dX6_struck_51 : decode cX6_struck 51 = .ok (.iconst 0, 1) := by decide +kernel
theorem dX6_struck_52 : decode cX6_struck 52 = .ok (.istore_n 2, 1) := by decide +kernel
theorem dX6_struck_53 : decode cX6_struck 53 = .ok (.iinc 1 1, 3) := by decide +kernel
theorem dX6_struck_56 : decode cX6_struck 56 = .ok (.goto (-27), 3) := by decide +kernel
theorem dX6_struck_59 : decode cX6_struck 59 = .ok (.aload_n 0, 1) := by decide +kernel
theorem dX6_struck_60 : decode cX6_struck 60 = .ok (.iload_n 2, 1) := by decide +kernel
theorem dX6_struck_61 : decode cX6_struck 61 = .ok (.ifCond .eq 7, 3) := by decide +kernel
theorem dX6_struck_64 : decode cX6_struck 64 = .ok (.iconst 1, 1) := by decide +kernel
theorem dX6_struck_65 : decode cX6_struck 65 = .ok (.goto 4, 3) := by decide +kernel
theorem dX6_struck_68 : decode cX6_struck 68 = .ok (.iconst 0, 1) := by decide +kernel
theorem dX6_struck_69 : decode cX6_struck 69 = .ok (.invokevirtual 188, 3) := by decide +kernel
theorem dX6_struck_72 : decode cX6_struck 72 = .ok (.ifCond .ne 12, 3) := by decide +kernel
theorem dX6_struck_75 : decode cX6_struck 75 = .ok (.aload_n 0, 1) := by decide +kernel
theorem dX6_struck_76 : decode cX6_struck 76 = .ok (.ldc 147, 2) := by decide +kernel
theorem dX6_struck_78 : decode cX6_struck 78 = .ok (.invokevirtual 83, 3) := by decide +kernel
theorem dX6_struck_81 : decode cX6_struck 81 = .ok (.goto 4, 3) := by decide +kernel
theorem dX6_struck_84 : decode cX6_struck 84 = .ok (.iload_n 1, 1) := by decide +kernel
theorem dX6_struck_85 : decode cX6_struck 85 = .ok (.ireturn, 1) := by decide +kernel
set_option maxRecDepth 20000 in
theorem ggX6_empty_X6_isLate : GoodIn wsX6_empty wsX6_isLate := goodIn_r _ [9, 10, 11, 12, 8, 13, 2, 115, 116, 117, 118, 119, 120, 121, 122, 123, 124, 125, 126, 127, 128, 129, 130, 131, 132, 133, 134, 135, 136] (by decide +kernel) (by decide +kernel)
set_option maxRecDepth 20000 in
theorem gX6_empty_X6_isLate : GoodIn wsX6_empty (wsV RX6 191 RX6 yX6_isLate wsX6_isLate) := goodIn_app (goodIn_of _ (by decide +kernel)) ggX6_empty_X6_isLate
set_option maxRecDepth 20000 in
theorem ggX6_empty_X6_finding : GoodIn wsX6_empty wsX6_finding := goodIn_r _ [17, 18, 19, 115, 116, 117, 118, 119, 120, 121, 122, 123, 124, 125, 126, 127, 128, 129, 130, 131, 132, 133, 134, 135, 136] (by decide +kernel) (by decide +kernel)
set_option maxRecDepth 20000 in
theorem gX6_empty_X6_finding : GoodIn wsX6_empty (wsV RX6 83 RX6 yX6_finding wsX6_finding) := goodIn_app (goodIn_of _ (by decide +kernel)) ggX6_empty_X6_finding
set_option maxRecDepth 20000 in
theorem ggX6_empty_X6_copyRow : GoodIn wsX6_empty wsX6_copyRow := goodIn_r _ [22] (by decide +kernel) (by decide +kernel)
set_option maxRecDepth 20000 in
theorem gX6_empty_X6_copyRow : GoodIn wsX6_empty (va_wsS RX6 65 yX6_copyRow wsX6_copyRow) := goodIn_app (goodIn_of _ (by decide +kernel)) ggX6_empty_X6_copyRow
set_option maxRecDepth 20000 in
theorem ggX6_empty_X6_inHeaps : GoodIn wsX6_empty wsX6_inHeaps := goodIn_r _ [26, 27, 28, 29, 8, 30, 31, 32, 33, 34, 2, 35, 36, 37, 115, 116, 117, 118, 119, 120, 121, 122, 123, 124, 125, 126, 127, 128, 129, 130, 131, 132, 133, 134, 135, 136] (by decide +kernel) (by decide +kernel)
set_option maxRecDepth 20000 in
theorem gX6_empty_X6_inHeaps : GoodIn wsX6_empty (wsV RX6 185 RX6 yX6_inHeaps wsX6_inHeaps) := goodIn_app (goodIn_of _ (by decide +kernel)) ggX6_empty_X6_inHeaps
set_option maxRecDepth 20000 in
theorem ggX6_empty_X6_night : GoodIn wsX6_empty wsX6_night := goodIn_r _ [41, 2, 42, 43, 44, 8, 45, 31, 32, 33, 34, 35, 36, 37, 46, 47, 48, 49, 27, 28, 29, 30, 50, 51, 52, 53, 54, 55, 56, 57, 58, 59, 60, 61, 62, 63, 64, 65, 66, 67, 68, 69, 70, 71, 72, 73, 74, 75, 76, 77, 78, 79, 80, 81, 82, 83, 84, 85, 86, 87, 88, 89, 90, 91, 92, 93, 94, 95, 96, 97, 98, 99, 100, 101, 102, 103, 104, 105, 106, 107, 108, 109, 110, 115, 116, 117, 118, 119, 120, 121, 122, 123, 124, 125, 126, 127, 128, 129, 130, 131, 132, 133, 134, 135, 136] (by decide +kernel) (by decide +kernel)
set_option maxRecDepth 20000 in
theorem gX6_empty_X6_night : GoodIn wsX6_empty (wsV RX6 172 RX6 yX6_night wsX6_night) := goodIn_app (goodIn_of _ (by decide +kernel)) ggX6_empty_X6_night
set_option maxRecDepth 20000 in
theorem ggX6_empty_X6_putBack : GoodIn wsX6_empty wsX6_putBack := goodIn_r _ [114, 3, 2, 20, 21, 8, 22, 115, 116, 117, 118, 119, 120, 121, 122, 123, 124, 125, 126, 127, 128, 129, 130, 131, 132, 133, 134, 135, 136] (by decide +kernel) (by decide +kernel)
set_option maxRecDepth 20000 in
theorem gX6_empty_X6_putBack : GoodIn wsX6_empty (wsV RX6 188 RX6 yX6_putBack wsX6_putBack) := goodIn_app (goodIn_of _ (by decide +kernel)) ggX6_empty_X6_putBack
theorem dX6_empty_0 : decode cX6_empty 0 = .ok (.aload_n 0, 1) := by decide +kernel
theorem dX6_empty_1 : decode cX6_empty 1 = .ok (.invokevirtual 191, 3) := by decide +kernel
theorem dX6_empty_4 : decode cX6_empty 4 = .ok (.ifCond .eq 10, 3) := by decide +kernel
theorem dX6_empty_7 : decode cX6_empty 7 = .ok (.aload_n 0, 1) := by decide +kernel
theorem dX6_empty_8 : decode cX6_empty 8 = .ok (.ldc 134, 2) := by decide +kernel
theorem dX6_empty_10 : decode cX6_empty 10 = .ok (.invokevirtual 83, 3) := by decide +kernel
theorem dX6_empty_13 : decode cX6_empty 13 = .ok (.ireturn, 1) := by decide +kernel
theorem dX6_empty_14 : decode cX6_empty 14 = .ok (.aload_n 0, 1) := by decide +kernel
theorem dX6_empty_15 : decode cX6_empty 15 = .ok (.getfield 9, 3) := by decide +kernel
theorem dX6_empty_18 : decode cX6_empty 18 = .ok (.aload_n 0, 1) := by decide +kernel
theorem dX6_empty_19 : decode cX6_empty 19 = .ok (.getfield 16, 3) := by decide +kernel
theorem dX6_empty_22 : decode cX6_empty 22 = .ok (.invokestatic 65, 3) := by decide +kernel
theorem dX6_empty_25 : decode cX6_empty 25 = .ok (.iconst 0, 1) := by decide +kernel
theorem dX6_empty_26 : decode cX6_empty 26 = .ok (.istore_n 1, 1) := by decide +kernel
theorem dX6_empty_27 : decode cX6_empty 27 = .ok (.iload_n 1, 1) := by decide +kernel
theorem dX6_empty_28 : decode cX6_empty 28 = .ok (.bipush 60, 2) := by decide +kernel
theorem dX6_empty_30 : decode cX6_empty 30 = .ok (.if_icmp .gt 28, 3) := by decide +kernel
theorem dX6_empty_33 : decode cX6_empty 33 = .ok (.aload_n 0, 1) := by decide +kernel
theorem dX6_empty_34 : decode cX6_empty 34 = .ok (.invokevirtual 185, 3) := by decide +kernel
theorem dX6_empty_37 : decode cX6_empty 37 = .ok (.ifCond .le 21, 3) := by decide +kernel
theorem dX6_empty_40 : decode cX6_empty 40 = .ok (.iload_n 1, 1) := by decide +kernel
theorem dX6_empty_41 : decode cX6_empty 41 = .ok (.aload_n 0, 1) := by decide +kernel
theorem dX6_empty_42 : decode cX6_empty 42 = .ok (.invokevirtual 172, 3) := by decide +kernel
theorem dX6_empty_45 : decode cX6_empty 45 = .ok (.ifCond .ge 7, 3) := by decide +kernel
theorem dX6_empty_48 : decode cX6_empty 48 = .ok (.iconst 0, 1) := by decide +kernel
theorem dX6_empty_49 : decode cX6_empty 49 = .ok (.goto 4, 3) := by decide +kernel
theorem dX6_empty_52 : decode cX6_empty 52 = .ok (.iconst 1, 1) := by decide +kernel
theorem dX6_empty_53 : decode cX6_empty 53 = .ok (.iadd, 1) := by decide +kernel
theorem dX6_empty_54 : decode cX6_empty 54 = .ok (.istore_n 1, 1) := by decide +kernel
theorem dX6_empty_55 : decode cX6_empty 55 = .ok (.goto (-28), 3) := by decide +kernel
theorem dX6_empty_58 : decode cX6_empty 58 = .ok (.aload_n 0, 1) := by decide +kernel
theorem dX6_empty_59 : decode cX6_empty 59 = .ok (.iload_n 1, 1) := by decide +kernel
theorem dX6_empty_60 : decode cX6_empty 60 = .ok (.invokevirtual 188, 3) := by decide +kernel
theorem dX6_empty_63 : decode cX6_empty 63 = .ok (.bipush 60, 2) := by decide +kernel
theorem dX6_empty_65 : decode cX6_empty 65 = .ok (.if_icmp .le 12, 3) := by decide +kernel
theorem dX6_empty_68 : decode cX6_empty 68 = .ok (.aload_n 0, 1) := by decide +kernel
theorem dX6_empty_69 : decode cX6_empty 69 = .ok (.ldc 147, 2) := by decide +kernel
theorem dX6_empty_71 : decode cX6_empty 71 = .ok (.invokevirtual 83, 3) := by decide +kernel
theorem dX6_empty_74 : decode cX6_empty 74 = .ok (.goto 4, 3) := by decide +kernel
theorem dX6_empty_77 : decode cX6_empty 77 = .ok (.iload_n 1, 1) := by decide +kernel
theorem dX6_empty_78 : decode cX6_empty 78 = .ok (.ireturn, 1) := by decide +kernel
set_option maxRecDepth 20000 in
theorem ggX6_refuses_X6_within : GoodIn wsX6_refuses wsX6_within := goodIn_r _ [6] (by decide +kernel) (by decide +kernel)
set_option maxRecDepth 20000 in
theorem gX6_refuses_X6_within : GoodIn wsX6_refuses (va_wsS RX6 69 yX6_within wsX6_within) := goodIn_app (goodIn_of _ (by decide +kernel)) ggX6_refuses_X6_within
set_option maxRecDepth 20000 in
theorem ggX6_refuses_X6_isTooLate : GoodIn wsX6_refuses wsX6_isTooLate := goodIn_r _ [10, 11, 12, 13, 14, 15, 16, 17, 18, 19, 20, 21, 22, 23, 24, 25, 26, 27, 28, 29, 30, 31, 32, 33] (by decide +kernel) (by decide +kernel)
set_option maxRecDepth 20000 in
theorem gX6_refuses_X6_isTooLate : GoodIn wsX6_refuses (wsV RX6 176 RX6 yX6_isTooLate wsX6_isTooLate) := goodIn_app (goodIn_of _ (by decide +kernel)) ggX6_refuses_X6_isTooLate
theorem dX6_refuses_0 : decode cX6_refuses 0 = .ok (.iload_n 1, 1) := by decide +kernel
theorem dX6_refuses_1 : decode cX6_refuses 1 = .ok (.ifCond .eq 12, 3) := by decide +kernel
theorem dX6_refuses_4 : decode cX6_refuses 4 = .ok (.iload_n 2, 1) := by decide +kernel
theorem dX6_refuses_5 : decode cX6_refuses 5 = .ok (.iconst 1, 1) := by decide +kernel
theorem dX6_refuses_6 : decode cX6_refuses 6 = .ok (.iload_n 3, 1) := by decide +kernel
theorem dX6_refuses_7 : decode cX6_refuses 7 = .ok (.invokestatic 69, 3) := by decide +kernel
theorem dX6_refuses_10 : decode cX6_refuses 10 = .ok (.ifCond .ne 8, 3) := by decide +kernel
theorem dX6_refuses_13 : decode cX6_refuses 13 = .ok (.ldc 64, 2) := by decide +kernel
theorem dX6_refuses_15 : decode cX6_refuses 15 = .ok (.goto 17, 3) := by decide +kernel
theorem dX6_refuses_18 : decode cX6_refuses 18 = .ok (.aload_n 0, 1) := by decide +kernel
theorem dX6_refuses_19 : decode cX6_refuses 19 = .ok (.iload_n 2, 1) := by decide +kernel
theorem dX6_refuses_20 : decode cX6_refuses 20 = .ok (.invokevirtual 176, 3) := by decide +kernel
theorem dX6_refuses_23 : decode cX6_refuses 23 = .ok (.ifCond .eq 8, 3) := by decide +kernel
theorem dX6_refuses_26 : decode cX6_refuses 26 = .ok (.ldc 134, 2) := by decide +kernel
theorem dX6_refuses_28 : decode cX6_refuses 28 = .ok (.goto 4, 3) := by decide +kernel
theorem dX6_refuses_31 : decode cX6_refuses 31 = .ok (.iconst 0, 1) := by decide +kernel
theorem dX6_refuses_32 : decode cX6_refuses 32 = .ok (.ireturn, 1) := by decide +kernel
set_option maxRecDepth 20000 in
theorem ggX6_then_X6_nightsGo : GoodIn wsX6_then wsX6_nightsGo := goodIn_r _ [7, 8, 9, 10, 6, 11, 2, 12, 13, 14, 15, 16, 17, 18, 19, 20, 21, 22, 23, 24, 25, 26, 27, 28, 29, 30, 31, 32, 33, 34, 35, 36, 37, 38, 39, 40, 41, 42, 43, 44, 45, 46, 47, 48, 49, 50, 51, 52, 53, 54, 55, 56, 57, 58, 59, 60, 61, 62, 63, 64, 65, 66, 67, 68, 69, 70, 71, 72, 73, 74, 75, 76, 77, 78, 79, 80, 81, 82, 83, 84, 85, 86, 87, 88, 89, 90, 91, 99, 100, 101, 102, 103, 104, 105, 106, 107, 108, 109, 110, 111, 112, 113, 114, 115, 116, 117, 118, 119, 120] (by decide +kernel) (by decide +kernel)
set_option maxRecDepth 20000 in
theorem gX6_then_X6_nightsGo : GoodIn wsX6_then (wsV RX6 179 RX6 yX6_nightsGo wsX6_nightsGo) := goodIn_app (goodIn_of _ (by decide +kernel)) ggX6_then_X6_nightsGo
set_option maxRecDepth 20000 in
theorem ggX6_then_X6_allOf : GoodIn wsX6_then wsX6_allOf := goodIn_r _ [95, 16, 17, 18, 6, 19, 2, 20, 21, 22, 39, 40, 41, 42, 43, 44, 45, 46, 47, 48, 49, 50, 51, 52, 99, 100, 101, 102, 103, 104, 105, 106, 107, 108, 109, 110, 111, 112, 113, 114, 115, 116, 117, 118, 119, 120] (by decide +kernel) (by decide +kernel)
set_option maxRecDepth 20000 in
theorem gX6_then_X6_allOf : GoodIn wsX6_then (wsV RX6 182 RX6 yX6_allOf wsX6_allOf) := goodIn_app (goodIn_of _ (by decide +kernel)) ggX6_then_X6_allOf
set_option maxRecDepth 20000 in
theorem ggX6_then_X6_copyRow : GoodIn wsX6_then wsX6_copyRow := goodIn_r _ [98] (by decide +kernel) (by decide +kernel)
set_option maxRecDepth 20000 in
theorem gX6_then_X6_copyRow : GoodIn wsX6_then (va_wsS RX6 65 yX6_copyRow wsX6_copyRow) := goodIn_app (goodIn_of _ (by decide +kernel)) ggX6_then_X6_copyRow
theorem dX6_then_0 : decode cX6_then 0 = .ok (.aload_n 0, 1) := by decide +kernel
theorem dX6_then_1 : decode cX6_then 1 = .ok (.iload_n 2, 1) := by decide +kernel
theorem dX6_then_2 : decode cX6_then 2 = .ok (.invokevirtual 179, 3) := by decide +kernel
theorem dX6_then_5 : decode cX6_then 5 = .ok (.istore_n 3, 1) := by decide +kernel
theorem dX6_then_6 : decode cX6_then 6 = .ok (.iload_n 3, 1) := by decide +kernel
theorem dX6_then_7 : decode cX6_then 7 = .ok (.ifCond .ge 7, 3) := by decide +kernel
theorem dX6_then_10 : decode cX6_then 10 = .ok (.iconst 0, 1) := by decide +kernel
theorem dX6_then_11 : decode cX6_then 11 = .ok (.goto 8, 3) := by decide +kernel
theorem dX6_then_14 : decode cX6_then 14 = .ok (.aload_n 0, 1) := by decide +kernel
theorem dX6_then_15 : decode cX6_then 15 = .ok (.iload_n 1, 1) := by decide +kernel
theorem dX6_then_16 : decode cX6_then 16 = .ok (.invokevirtual 182, 3) := by decide +kernel
theorem dX6_then_19 : decode cX6_then 19 = .ok (.istore 4, 2) := by decide +kernel
theorem dX6_then_21 : decode cX6_then 21 = .ok (.aload_n 0, 1) := by decide +kernel
theorem dX6_then_22 : decode cX6_then 22 = .ok (.getfield 16, 3) := by decide +kernel
theorem dX6_then_25 : decode cX6_then 25 = .ok (.aload_n 0, 1) := by decide +kernel
theorem dX6_then_26 : decode cX6_then 26 = .ok (.getfield 9, 3) := by decide +kernel
theorem dX6_then_29 : decode cX6_then 29 = .ok (.invokestatic 65, 3) := by decide +kernel
theorem dX6_then_32 : decode cX6_then 32 = .ok (.iload 4, 2) := by decide +kernel
theorem dX6_then_34 : decode cX6_then 34 = .ok (.ireturn, 1) := by decide +kernel
set_option maxRecDepth 20000 in
theorem ggX6_mayHave_X6_sideIs : GoodIn wsX6_mayHave wsX6_sideIs := goodIn_r _ [5, 6, 7, 8, 4, 9, 10, 11, 12, 13, 14, 15, 16, 17, 18, 19, 20, 21, 22, 23, 24, 25, 26, 27, 28, 29, 30, 31] (by decide +kernel) (by decide +kernel)
set_option maxRecDepth 20000 in
theorem gX6_mayHave_X6_sideIs : GoodIn wsX6_mayHave (wsV RX6 93 RX6 yX6_sideIs wsX6_sideIs) := goodIn_app (goodIn_of _ (by decide +kernel)) ggX6_mayHave_X6_sideIs
theorem dX6_mayHave_0 : decode cX6_mayHave 0 = .ok (.aload_n 0, 1) := by decide +kernel
theorem dX6_mayHave_1 : decode cX6_mayHave 1 = .ok (.iload_n 1, 1) := by decide +kernel
theorem dX6_mayHave_2 : decode cX6_mayHave 2 = .ok (.iconst 2, 1) := by decide +kernel
theorem dX6_mayHave_3 : decode cX6_mayHave 3 = .ok (.invokevirtual 93, 3) := by decide +kernel
theorem dX6_mayHave_6 : decode cX6_mayHave 6 = .ok (.iload_n 2, 1) := by decide +kernel
theorem dX6_mayHave_7 : decode cX6_mayHave 7 = .ok (.iconst 4, 1) := by decide +kernel
theorem dX6_mayHave_8 : decode cX6_mayHave 8 = .ok (.irem, 1) := by decide +kernel
theorem dX6_mayHave_9 : decode cX6_mayHave 9 = .ok (.if_icmp .lt 34, 3) := by decide +kernel
theorem dX6_mayHave_12 : decode cX6_mayHave 12 = .ok (.aload_n 0, 1) := by decide +kernel
theorem dX6_mayHave_13 : decode cX6_mayHave 13 = .ok (.iload_n 1, 1) := by decide +kernel
theorem dX6_mayHave_14 : decode cX6_mayHave 14 = .ok (.iconst 3, 1) := by decide +kernel
theorem dX6_mayHave_15 : decode cX6_mayHave 15 = .ok (.invokevirtual 93, 3) := by decide +kernel
theorem dX6_mayHave_18 : decode cX6_mayHave 18 = .ok (.iload_n 2, 1) := by decide +kernel
theorem dX6_mayHave_19 : decode cX6_mayHave 19 = .ok (.iconst 4, 1) := by decide +kernel
theorem dX6_mayHave_20 : decode cX6_mayHave 20 = .ok (.idiv, 1) := by decide +kernel
theorem dX6_mayHave_21 : decode cX6_mayHave 21 = .ok (.iconst 4, 1) := by decide +kernel
theorem dX6_mayHave_22 : decode cX6_mayHave 22 = .ok (.irem, 1) := by decide +kernel
theorem dX6_mayHave_23 : decode cX6_mayHave 23 = .ok (.if_icmp .lt 20, 3) := by decide +kernel
theorem dX6_mayHave_26 : decode cX6_mayHave 26 = .ok (.aload_n 0, 1) := by decide +kernel
theorem dX6_mayHave_27 : decode cX6_mayHave 27 = .ok (.iload_n 1, 1) := by decide +kernel
theorem dX6_mayHave_28 : decode cX6_mayHave 28 = .ok (.iconst 4, 1) := by decide +kernel
theorem dX6_mayHave_29 : decode cX6_mayHave 29 = .ok (.invokevirtual 93, 3) := by decide +kernel
theorem dX6_mayHave_32 : decode cX6_mayHave 32 = .ok (.iload_n 2, 1) := by decide +kernel
theorem dX6_mayHave_33 : decode cX6_mayHave 33 = .ok (.bipush 16, 2) := by decide +kernel
theorem dX6_mayHave_35 : decode cX6_mayHave 35 = .ok (.idiv, 1) := by decide +kernel
theorem dX6_mayHave_36 : decode cX6_mayHave 36 = .ok (.if_icmp .lt 7, 3) := by decide +kernel
theorem dX6_mayHave_39 : decode cX6_mayHave 39 = .ok (.iconst 1, 1) := by decide +kernel
theorem dX6_mayHave_40 : decode cX6_mayHave 40 = .ok (.goto 4, 3) := by decide +kernel
theorem dX6_mayHave_43 : decode cX6_mayHave 43 = .ok (.iconst 0, 1) := by decide +kernel
theorem dX6_mayHave_44 : decode cX6_mayHave 44 = .ok (.ireturn, 1) := by decide +kernel
set_option maxRecDepth 20000 in
theorem ggX6_findBest_X6_copyRow : GoodIn wsX6_findBest wsX6_copyRow := goodIn_r _ [8] (by decide +kernel) (by decide +kernel)
set_option maxRecDepth 20000 in
theorem gX6_findBest_X6_copyRow : GoodIn wsX6_findBest (va_wsS RX6 65 yX6_copyRow wsX6_copyRow) := goodIn_app (goodIn_of _ (by decide +kernel)) ggX6_findBest_X6_copyRow
set_option maxRecDepth 20000 in
theorem ggX6_findBest_X6_goesHome : GoodIn wsX6_findBest wsX6_goesHome := goodIn_r _ [12, 13, 14, 7, 15, 16, 17, 18, 19, 1, 20, 21, 22, 23, 24, 25, 26, 27, 28, 29, 30, 31, 113, 114, 115, 116, 117, 118, 119, 120, 121, 122, 123, 124, 125, 126, 127, 128, 129, 130, 131, 132, 133, 134] (by decide +kernel) (by decide +kernel)
set_option maxRecDepth 20000 in
theorem gX6_findBest_X6_goesHome : GoodIn wsX6_findBest (wsV RX6 152 RX6 yX6_goesHome wsX6_goesHome) := goodIn_app (goodIn_of _ (by decide +kernel)) ggX6_findBest_X6_goesHome
set_option maxRecDepth 20000 in
theorem ggX6_findBest_X6_mayHave : GoodIn wsX6_findBest wsX6_mayHave := goodIn_r _ [35, 28, 29, 30, 7, 31, 1, 13, 14, 15, 113, 114, 115, 116, 117, 118, 119, 120, 121, 122, 123, 124, 125, 126, 127, 128, 129, 130, 131, 132, 133, 134] (by decide +kernel) (by decide +kernel)
set_option maxRecDepth 20000 in
theorem gX6_findBest_X6_mayHave : GoodIn wsX6_findBest (wsV RX6 199 RX6 yX6_mayHave wsX6_mayHave) := goodIn_app (goodIn_of _ (by decide +kernel)) ggX6_findBest_X6_mayHave
set_option maxRecDepth 20000 in
theorem ggX6_findBest_X6_laid : GoodIn wsX6_findBest wsX6_laid := goodIn_r _ [39, 1, 13, 14, 7, 15, 28, 29, 30, 31, 113, 114, 115, 116, 117, 118, 119, 120, 121, 122, 123, 124, 125, 126, 127, 128, 129, 130, 131, 132, 133, 134] (by decide +kernel) (by decide +kernel)
set_option maxRecDepth 20000 in
theorem gX6_findBest_X6_laid : GoodIn wsX6_findBest (wsV RX6 131 RX6 yX6_laid wsX6_laid) := goodIn_app (goodIn_of _ (by decide +kernel)) ggX6_findBest_X6_laid
set_option maxRecDepth 20000 in
theorem ggX6_findBest_X6_then : GoodIn wsX6_findBest wsX6_then := goodIn_r _ [43, 2, 1, 44, 45, 46, 7, 47, 48, 49, 50, 51, 52, 53, 54, 55, 28, 29, 30, 31, 13, 14, 15, 56, 57, 58, 59, 60, 61, 62, 63, 64, 65, 66, 67, 68, 69, 70, 71, 72, 73, 74, 75, 76, 77, 78, 79, 80, 81, 82, 83, 84, 85, 86, 87, 88, 89, 90, 91, 92, 9, 10, 11, 12, 16, 17, 18, 19, 20, 21, 22, 23, 24, 25, 26, 27, 93, 94, 95, 96, 97, 98, 99, 100, 101, 102, 103, 104, 105, 106, 107, 108, 109, 110, 111, 112, 5, 6, 8, 113, 114, 115, 116, 117, 118, 119, 120, 121, 122, 123, 124, 125, 126, 127, 128, 129, 130, 131, 132, 133, 134] (by decide +kernel) (by decide +kernel)
set_option maxRecDepth 20000 in
theorem gX6_findBest_X6_then : GoodIn wsX6_findBest (wsV RX6 202 RX6 yX6_then wsX6_then) := goodIn_app (goodIn_of _ (by decide +kernel)) ggX6_findBest_X6_then
theorem dX6_findBest_0 : decode cX6_findBest 0 = .ok (.aload_n 0, 1) := by decide +kernel
theorem dX6_findBest_1 : decode cX6_findBest 1 = .ok (.getfield 9, 3) := by decide +kernel
theorem dX6_findBest_4 : decode cX6_findBest 4 = .ok (.aload_n 0, 1) := by decide +kernel
theorem dX6_findBest_5 : decode cX6_findBest 5 = .ok (.getfield 16, 3) := by decide +kernel
theorem dX6_findBest_8 : decode cX6_findBest 8 = .ok (.invokestatic 65, 3) := by decide +kernel
theorem dX6_findBest_11 : decode cX6_findBest 11 = .ok (.aload_n 0, 1) := by decide +kernel
theorem dX6_findBest_12 : decode cX6_findBest 12 = .ok (.iconst (-1), 1) := by decide +kernel
theorem dX6_findBest_13 : decode cX6_findBest 13 = .ok (.putfield 195, 3) := by decide +kernel
theorem dX6_findBest_16 : decode cX6_findBest 16 = .ok (.iconst 0, 1) := by decide +kernel
theorem dX6_findBest_17 : decode cX6_findBest 17 = .ok (.istore_n 3, 1) := by decide +kernel
theorem dX6_findBest_18 : decode cX6_findBest 18 = .ok (.iload_n 3, 1) := by decide +kernel
theorem dX6_findBest_19 : decode cX6_findBest 19 = .ok (.bipush 64, 2) := by decide +kernel
theorem dX6_findBest_21 : decode cX6_findBest 21 = .ok (.if_icmp .ge 104, 3) := by decide +kernel
theorem dX6_findBest_24 : decode cX6_findBest 24 = .ok (.aload_n 0, 1) := by decide +kernel
theorem dX6_findBest_25 : decode cX6_findBest 25 = .ok (.iload_n 1, 1) := by decide +kernel
theorem dX6_findBest_26 : decode cX6_findBest 26 = .ok (.iload_n 1, 1) := by decide +kernel
theorem dX6_findBest_27 : decode cX6_findBest 27 = .ok (.invokevirtual 152, 3) := by decide +kernel
theorem dX6_findBest_30 : decode cX6_findBest 30 = .ok (.aload_n 0, 1) := by decide +kernel
theorem dX6_findBest_31 : decode cX6_findBest 31 = .ok (.iload_n 1, 1) := by decide +kernel
theorem dX6_findBest_32 : decode cX6_findBest 32 = .ok (.iload_n 3, 1) := by decide +kernel
theorem dX6_findBest_33 : decode cX6_findBest 33 = .ok (.invokevirtual 199, 3) := by decide +kernel
theorem dX6_findBest_36 : decode cX6_findBest 36 = .ok (.istore 4, 2) := by decide +kernel
theorem dX6_findBest_38 : decode cX6_findBest 38 = .ok (.iload_n 3, 1) := by decide +kernel
theorem dX6_findBest_39 : decode cX6_findBest 39 = .ok (.istore 5, 2) := by decide +kernel
theorem dX6_findBest_41 : decode cX6_findBest 41 = .ok (.iconst 0, 1) := by decide +kernel
theorem dX6_findBest_42 : decode cX6_findBest 42 = .ok (.istore 6, 2) := by decide +kernel
theorem dX6_findBest_44 : decode cX6_findBest 44 = .ok (.iload 6, 2) := by decide +kernel
theorem dX6_findBest_46 : decode cX6_findBest 46 = .ok (.iconst 3, 1) := by decide +kernel
theorem dX6_findBest_47 : decode cX6_findBest 47 = .ok (.if_icmp .ge 32, 3) := by decide +kernel
theorem dX6_findBest_50 : decode cX6_findBest 50 = .ok (.iload 4, 2) := by decide +kernel
theorem dX6_findBest_52 : decode cX6_findBest 52 = .ok (.ifCond .eq 27, 3) := by decide +kernel
theorem dX6_findBest_55 : decode cX6_findBest 55 = .ok (.aload_n 0, 1) := by decide +kernel
theorem dX6_findBest_56 : decode cX6_findBest 56 = .ok (.iload_n 1, 1) := by decide +kernel
theorem dX6_findBest_57 : decode cX6_findBest 57 = .ok (.iload 6, 2) := by decide +kernel
theorem dX6_findBest_59 : decode cX6_findBest 59 = .ok (.iload 5, 2) := by decide +kernel
theorem dX6_findBest_61 : decode cX6_findBest 61 = .ok (.iconst 4, 1) := by decide +kernel
theorem dX6_findBest_62 : decode cX6_findBest 62 = .ok (.irem, 1) := by decide +kernel
theorem dX6_findBest_63 : decode cX6_findBest 63 = .ok (.invokevirtual 131, 3) := by decide +kernel
theorem dX6_findBest_66 : decode cX6_findBest 66 = .ok (.pop, 1) := by decide +kernel
theorem dX6_findBest_67 : decode cX6_findBest 67 = .ok (.iload 5, 2) := by decide +kernel
theorem dX6_findBest_69 : decode cX6_findBest 69 = .ok (.iconst 4, 1) := by decide +kernel
theorem dX6_findBest_70 : decode cX6_findBest 70 = .ok (.idiv, 1) := by decide +kernel
theorem dX6_findBest_71 : decode cX6_findBest 71 = .ok (.istore 5, 2) := by decide +kernel
theorem dX6_findBest_73 : decode cX6_findBest 73 = .ok (.iinc 6 1, 3) := by decide +kernel
theorem dX6_findBest_76 : decode cX6_findBest 76 = .ok (.goto (-32), 3) := by decide +kernel
theorem dX6_findBest_79 : decode cX6_findBest 79 = .ok (.aload_n 0, 1) := by decide +kernel
theorem dX6_findBest_80 : decode cX6_findBest 80 = .ok (.iload_n 1, 1) := by decide +kernel
theorem dX6_findBest_81 : decode cX6_findBest 81 = .ok (.iload_n 2, 1) := by decide +kernel
theorem dX6_findBest_82 : decode cX6_findBest 82 = .ok (.invokevirtual 202, 3) := by decide +kernel
theorem dX6_findBest_85 : decode cX6_findBest 85 = .ok (.istore 6, 2) := by decide +kernel
theorem dX6_findBest_87 : decode cX6_findBest 87 = .ok (.iload 4, 2) := by decide +kernel
theorem dX6_findBest_89 : decode cX6_findBest 89 = .ok (.ifCond .eq 30, 3) := by decide +kernel
theorem dX6_findBest_92 : decode cX6_findBest 92 = .ok (.aload_n 0, 1) := by decide +kernel
theorem dX6_findBest_93 : decode cX6_findBest 93 = .ok (.getfield 195, 3) := by decide +kernel
theorem dX6_findBest_96 : decode cX6_findBest 96 = .ok (.ifCond .lt 12, 3) := by decide +kernel
theorem dX6_findBest_99 : decode cX6_findBest 99 = .ok (.iload 6, 2) := by decide +kernel
theorem dX6_findBest_101 : decode cX6_findBest 101 = .ok (.aload_n 0, 1) := by decide +kernel
theorem dX6_findBest_102 : decode cX6_findBest 102 = .ok (.getfield 205, 3) := by decide +kernel
theorem dX6_findBest_105 : decode cX6_findBest 105 = .ok (.if_icmp .le 14, 3) := by decide +kernel
theorem dX6_findBest_108 : decode cX6_findBest 108 = .ok (.aload_n 0, 1) := by decide +kernel
theorem dX6_findBest_109 : decode cX6_findBest 109 = .ok (.iload_n 3, 1) := by decide +kernel
theorem dX6_findBest_110 : decode cX6_findBest 110 = .ok (.putfield 195, 3) := by decide +kernel
theorem dX6_findBest_113 : decode cX6_findBest 113 = .ok (.aload_n 0, 1) := by decide +kernel
theorem dX6_findBest_114 : decode cX6_findBest 114 = .ok (.iload 6, 2) := by decide +kernel
theorem dX6_findBest_116 : decode cX6_findBest 116 = .ok (.putfield 205, 3) := by decide +kernel
theorem dX6_findBest_119 : decode cX6_findBest 119 = .ok (.iinc 3 1, 3) := by decide +kernel
theorem dX6_findBest_122 : decode cX6_findBest 122 = .ok (.goto (-104), 3) := by decide +kernel
theorem dX6_findBest_125 : decode cX6_findBest 125 = .ok (.return_, 1) := by decide +kernel
set_option maxRecDepth 20000 in
theorem ggX6_refusesBest_X6_isSide : GoodIn wsX6_refusesBest wsX6_isSide := goodIn_r _ [5, 6, 7, 4, 8] (by decide +kernel) (by decide +kernel)
set_option maxRecDepth 20000 in
theorem gX6_refusesBest_X6_isSide : GoodIn wsX6_refusesBest (va_wsS RX6 87 yX6_isSide wsX6_isSide) := goodIn_app (goodIn_of _ (by decide +kernel)) ggX6_refusesBest_X6_isSide
set_option maxRecDepth 20000 in
theorem ggX6_refusesBest_X6_refuses : GoodIn wsX6_refusesBest wsX6_refuses := goodIn_r _ [12, 13, 1, 6, 7, 4, 8, 14, 15, 16, 17, 18, 26, 27, 28, 29, 30, 31, 32, 33, 34, 35, 36, 37, 38, 39, 40, 41, 42, 43, 44, 45, 46, 47] (by decide +kernel) (by decide +kernel)
set_option maxRecDepth 20000 in
theorem gX6_refusesBest_X6_refuses : GoodIn wsX6_refusesBest (wsV RX6 208 RX6 yX6_refuses wsX6_refuses) := goodIn_app (goodIn_of _ (by decide +kernel)) ggX6_refusesBest_X6_refuses
set_option maxRecDepth 20000 in
theorem ggX6_refusesBest_X6_sideIs : GoodIn wsX6_refusesBest wsX6_sideIs := goodIn_r _ [22, 18, 23, 24, 4, 25, 26, 27, 28, 29, 30, 31, 32, 33, 34, 35, 36, 37, 38, 39, 40, 41, 42, 43, 44, 45, 46, 47] (by decide +kernel) (by decide +kernel)
set_option maxRecDepth 20000 in
theorem gX6_refusesBest_X6_sideIs : GoodIn wsX6_refusesBest (wsV RX6 93 RX6 yX6_sideIs wsX6_sideIs) := goodIn_app (goodIn_of _ (by decide +kernel)) ggX6_refusesBest_X6_sideIs
theorem dX6_refusesBest_0 : decode cX6_refusesBest 0 = .ok (.aload_n 0, 1) := by decide +kernel
theorem dX6_refusesBest_1 : decode cX6_refusesBest 1 = .ok (.iload_n 1, 1) := by decide +kernel
theorem dX6_refusesBest_2 : decode cX6_refusesBest 2 = .ok (.invokestatic 87, 3) := by decide +kernel
theorem dX6_refusesBest_5 : decode cX6_refusesBest 5 = .ok (.iload_n 2, 1) := by decide +kernel
theorem dX6_refusesBest_6 : decode cX6_refusesBest 6 = .ok (.bipush 30, 2) := by decide +kernel
theorem dX6_refusesBest_8 : decode cX6_refusesBest 8 = .ok (.invokevirtual 208, 3) := by decide +kernel
theorem dX6_refusesBest_11 : decode cX6_refusesBest 11 = .ok (.istore_n 3, 1) := by decide +kernel
theorem dX6_refusesBest_12 : decode cX6_refusesBest 12 = .ok (.iload_n 3, 1) := by decide +kernel
theorem dX6_refusesBest_13 : decode cX6_refusesBest 13 = .ok (.ifCond .ne 17, 3) := by decide +kernel
theorem dX6_refusesBest_16 : decode cX6_refusesBest 16 = .ok (.aload_n 0, 1) := by decide +kernel
theorem dX6_refusesBest_17 : decode cX6_refusesBest 17 = .ok (.iload_n 1, 1) := by decide +kernel
theorem dX6_refusesBest_18 : decode cX6_refusesBest 18 = .ok (.iconst 1, 1) := by decide +kernel
theorem dX6_refusesBest_19 : decode cX6_refusesBest 19 = .ok (.invokevirtual 93, 3) := by decide +kernel
theorem dX6_refusesBest_22 : decode cX6_refusesBest 22 = .ok (.ifCond .ne 8, 3) := by decide +kernel
theorem dX6_refusesBest_25 : decode cX6_refusesBest 25 = .ok (.ldc 134, 2) := by decide +kernel
theorem dX6_refusesBest_27 : decode cX6_refusesBest 27 = .ok (.goto 4, 3) := by decide +kernel
theorem dX6_refusesBest_30 : decode cX6_refusesBest 30 = .ok (.iload_n 3, 1) := by decide +kernel
theorem dX6_refusesBest_31 : decode cX6_refusesBest 31 = .ok (.ireturn, 1) := by decide +kernel
set_option maxRecDepth 20000 in
theorem ggX6_best_X6_refusesBest : GoodIn wsX6_best wsX6_refusesBest := goodIn_r _ [6, 7, 8, 9, 5, 10, 11, 12, 13, 14, 15, 16, 17, 18, 19, 20, 21, 22, 23, 24, 25, 26, 27, 28, 29, 30, 142, 143, 144, 145, 146, 147, 148, 149, 150, 151, 152, 153, 154, 155, 156, 157, 158, 159, 160, 161, 162, 163] (by decide +kernel) (by decide +kernel)
set_option maxRecDepth 20000 in
theorem gX6_best_X6_refusesBest : GoodIn wsX6_best (wsV RX6 212 RX6 yX6_refusesBest wsX6_refusesBest) := goodIn_app (goodIn_of _ (by decide +kernel)) ggX6_best_X6_refusesBest
set_option maxRecDepth 20000 in
theorem ggX6_best_X6_finding : GoodIn wsX6_best wsX6_finding := goodIn_r _ [34, 35, 18, 142, 143, 144, 145, 146, 147, 148, 149, 150, 151, 152, 153, 154, 155, 156, 157, 158, 159, 160, 161, 162, 163] (by decide +kernel) (by decide +kernel)
set_option maxRecDepth 20000 in
theorem gX6_best_X6_finding : GoodIn wsX6_best (wsV RX6 83 RX6 yX6_finding wsX6_finding) := goodIn_app (goodIn_of _ (by decide +kernel)) ggX6_best_X6_finding
set_option maxRecDepth 20000 in
theorem ggX6_best_X6_findBest : GoodIn wsX6_best wsX6_findBest := goodIn_r _ [39, 23, 40, 1, 41, 42, 43, 5, 44, 45, 46, 47, 48, 28, 29, 30, 49, 50, 51, 52, 53, 54, 55, 56, 57, 58, 59, 60, 24, 25, 26, 27, 61, 62, 63, 64, 65, 66, 67, 68, 69, 70, 71, 72, 73, 74, 75, 76, 77, 78, 79, 80, 81, 82, 83, 84, 85, 86, 87, 88, 89, 90, 91, 92, 93, 94, 95, 96, 97, 98, 99, 100, 101, 102, 103, 104, 105, 106, 107, 108, 109, 110, 111, 112, 113, 114, 115, 116, 117, 118, 119, 120, 121, 122, 123, 124, 125, 126, 127, 128, 129, 130, 131, 132, 133, 134, 135, 136, 137, 138, 139, 140, 141, 142, 143, 144, 145, 146, 147, 148, 149, 150, 151, 152, 153, 154, 155, 156, 157, 158, 159, 160, 161, 162, 163] (by decide +kernel) (by decide +kernel)
set_option maxRecDepth 20000 in
theorem gX6_best_X6_findBest : GoodIn wsX6_best (wsV RX6 215 RX6 yX6_findBest wsX6_findBest) := goodIn_app (goodIn_of _ (by decide +kernel)) ggX6_best_X6_findBest
theorem dX6_best_0 : decode cX6_best 0 = .ok (.aload_n 0, 1) := by decide +kernel
theorem dX6_best_1 : decode cX6_best 1 = .ok (.iload_n 1, 1) := by decide +kernel
theorem dX6_best_2 : decode cX6_best 2 = .ok (.iload_n 2, 1) := by decide +kernel
theorem dX6_best_3 : decode cX6_best 3 = .ok (.invokevirtual 212, 3) := by decide +kernel
theorem dX6_best_6 : decode cX6_best 6 = .ok (.istore_n 3, 1) := by decide +kernel
theorem dX6_best_7 : decode cX6_best 7 = .ok (.iload_n 3, 1) := by decide +kernel
theorem dX6_best_8 : decode cX6_best 8 = .ok (.ifCond .eq 9, 3) := by decide +kernel
theorem dX6_best_11 : decode cX6_best 11 = .ok (.aload_n 0, 1) := by decide +kernel
theorem dX6_best_12 : decode cX6_best 12 = .ok (.iload_n 3, 1) := by decide +kernel
theorem dX6_best_13 : decode cX6_best 13 = .ok (.invokevirtual 83, 3) := by decide +kernel
theorem dX6_best_16 : decode cX6_best 16 = .ok (.ireturn, 1) := by decide +kernel
theorem dX6_best_17 : decode cX6_best 17 = .ok (.aload_n 0, 1) := by decide +kernel
theorem dX6_best_18 : decode cX6_best 18 = .ok (.iload_n 1, 1) := by decide +kernel
theorem dX6_best_19 : decode cX6_best 19 = .ok (.iload_n 2, 1) := by decide +kernel
theorem dX6_best_20 : decode cX6_best 20 = .ok (.invokevirtual 215, 3) := by decide +kernel
theorem dX6_best_23 : decode cX6_best 23 = .ok (.aload_n 0, 1) := by decide +kernel
theorem dX6_best_24 : decode cX6_best 24 = .ok (.getfield 195, 3) := by decide +kernel
theorem dX6_best_27 : decode cX6_best 27 = .ok (.ireturn, 1) := by decide +kernel
set_option maxRecDepth 20000 in
theorem ggX6_gain_X6_refusesBest : GoodIn wsX6_gain wsX6_refusesBest := goodIn_r _ [6, 7, 8, 9, 5, 10, 11, 12, 13, 14, 15, 16, 17, 18, 19, 20, 21, 22, 23, 24, 25, 26, 27, 28, 29, 30, 142, 143, 144, 145, 146, 147, 148, 149, 150, 151, 152, 153, 154, 155, 156, 157, 158, 159, 160, 161, 162, 163] (by decide +kernel) (by decide +kernel)
set_option maxRecDepth 20000 in
theorem gX6_gain_X6_refusesBest : GoodIn wsX6_gain (wsV RX6 212 RX6 yX6_refusesBest wsX6_refusesBest) := goodIn_app (goodIn_of _ (by decide +kernel)) ggX6_gain_X6_refusesBest
set_option maxRecDepth 20000 in
theorem ggX6_gain_X6_finding : GoodIn wsX6_gain wsX6_finding := goodIn_r _ [34, 35, 18, 142, 143, 144, 145, 146, 147, 148, 149, 150, 151, 152, 153, 154, 155, 156, 157, 158, 159, 160, 161, 162, 163] (by decide +kernel) (by decide +kernel)
set_option maxRecDepth 20000 in
theorem gX6_gain_X6_finding : GoodIn wsX6_gain (wsV RX6 83 RX6 yX6_finding wsX6_finding) := goodIn_app (goodIn_of _ (by decide +kernel)) ggX6_gain_X6_finding
set_option maxRecDepth 20000 in
theorem ggX6_gain_X6_findBest : GoodIn wsX6_gain wsX6_findBest := goodIn_r _ [39, 23, 40, 41, 1, 42, 43, 5, 44, 45, 46, 47, 48, 28, 29, 30, 49, 50, 51, 52, 53, 54, 55, 56, 57, 58, 59, 60, 24, 25, 26, 27, 61, 62, 63, 64, 65, 66, 67, 68, 69, 70, 71, 72, 73, 74, 75, 76, 77, 78, 79, 80, 81, 82, 83, 84, 85, 86, 87, 88, 89, 90, 91, 92, 93, 94, 95, 96, 97, 98, 99, 100, 101, 102, 103, 104, 105, 106, 107, 108, 109, 110, 111, 112, 113, 114, 115, 116, 117, 118, 119, 120, 121, 122, 123, 124, 125, 126, 127, 128, 129, 130, 131, 132, 133, 134, 135, 136, 137, 138, 139, 140, 141, 142, 143, 144, 145, 146, 147, 148, 149, 150, 151, 152, 153, 154, 155, 156, 157, 158, 159, 160, 161, 162, 163] (by decide +kernel) (by decide +kernel)
set_option maxRecDepth 20000 in
theorem gX6_gain_X6_findBest : GoodIn wsX6_gain (wsV RX6 215 RX6 yX6_findBest wsX6_findBest) := goodIn_app (goodIn_of _ (by decide +kernel)) ggX6_gain_X6_findBest
set_option maxRecDepth 20000 in
theorem ggX6_gain_X6_allOf : GoodIn wsX6_gain wsX6_allOf := goodIn_r _ [141, 24, 25, 26, 5, 27, 23, 28, 29, 30, 101, 102, 103, 104, 105, 106, 107, 108, 109, 110, 111, 112, 113, 114, 142, 143, 144, 145, 146, 147, 148, 149, 150, 151, 152, 153, 154, 155, 156, 157, 158, 159, 160, 161, 162, 163] (by decide +kernel) (by decide +kernel)
set_option maxRecDepth 20000 in
theorem gX6_gain_X6_allOf : GoodIn wsX6_gain (wsV RX6 182 RX6 yX6_allOf wsX6_allOf) := goodIn_app (goodIn_of _ (by decide +kernel)) ggX6_gain_X6_allOf
theorem dX6_gain_0 : decode cX6_gain 0 = .ok (.aload_n 0, 1) := by decide +kernel
theorem dX6_gain_1 : decode cX6_gain 1 = .ok (.iload_n 1, 1) := by decide +kernel
theorem dX6_gain_2 : decode cX6_gain 2 = .ok (.iload_n 2, 1) := by decide +kernel
theorem dX6_gain_3 : decode cX6_gain 3 = .ok (.invokevirtual 212, 3) := by decide +kernel
theorem dX6_gain_6 : decode cX6_gain 6 = .ok (.istore_n 3, 1) := by decide +kernel
theorem dX6_gain_7 : decode cX6_gain 7 = .ok (.iload_n 3, 1) := by decide +kernel
theorem dX6_gain_8 : decode cX6_gain 8 = .ok (.ifCond .eq 9, 3) := by decide +kernel
theorem dX6_gain_11 : decode cX6_gain 11 = .ok (.aload_n 0, 1) := by decide +kernel
theorem dX6_gain_12 : decode cX6_gain 12 = .ok (.iload_n 3, 1) := by decide +kernel
theorem dX6_gain_13 : decode cX6_gain 13 = .ok (.invokevirtual 83, 3) := by decide +kernel
theorem dX6_gain_16 : decode cX6_gain 16 = .ok (.ireturn, 1) := by decide +kernel
theorem dX6_gain_17 : decode cX6_gain 17 = .ok (.aload_n 0, 1) := by decide +kernel
theorem dX6_gain_18 : decode cX6_gain 18 = .ok (.iload_n 1, 1) := by decide +kernel
theorem dX6_gain_19 : decode cX6_gain 19 = .ok (.iload_n 2, 1) := by decide +kernel
theorem dX6_gain_20 : decode cX6_gain 20 = .ok (.invokevirtual 215, 3) := by decide +kernel
theorem dX6_gain_23 : decode cX6_gain 23 = .ok (.aload_n 0, 1) := by decide +kernel
theorem dX6_gain_24 : decode cX6_gain 24 = .ok (.getfield 205, 3) := by decide +kernel
theorem dX6_gain_27 : decode cX6_gain 27 = .ok (.aload_n 0, 1) := by decide +kernel
theorem dX6_gain_28 : decode cX6_gain 28 = .ok (.iload_n 1, 1) := by decide +kernel
theorem dX6_gain_29 : decode cX6_gain 29 = .ok (.invokevirtual 182, 3) := by decide +kernel
theorem dX6_gain_32 : decode cX6_gain 32 = .ok (.isub, 1) := by decide +kernel
theorem dX6_gain_33 : decode cX6_gain 33 = .ok (.ireturn, 1) := by decide +kernel
set_option maxRecDepth 20000 in
theorem ggX6_greed_X6_isSide : GoodIn wsX6_greed wsX6_isSide := goodIn_r _ [10, 11, 12, 9, 13] (by decide +kernel) (by decide +kernel)
set_option maxRecDepth 20000 in
theorem gX6_greed_X6_isSide : GoodIn wsX6_greed (va_wsS RX6 87 yX6_isSide wsX6_isSide) := goodIn_app (goodIn_of _ (by decide +kernel)) ggX6_greed_X6_isSide
set_option maxRecDepth 20000 in
theorem ggX6_greed_X6_refuses : GoodIn wsX6_greed wsX6_refuses := goodIn_r _ [17, 18, 19, 11, 12, 9, 13, 20, 21, 22, 23, 1, 127, 128, 129, 130, 131, 132, 133, 134, 135, 136, 137, 138, 139, 140, 141, 142, 143, 144, 145, 146, 147, 148] (by decide +kernel) (by decide +kernel)
set_option maxRecDepth 20000 in
theorem gX6_greed_X6_refuses : GoodIn wsX6_greed (wsV RX6 208 RX6 yX6_refuses wsX6_refuses) := goodIn_app (goodIn_of _ (by decide +kernel)) ggX6_greed_X6_refuses
set_option maxRecDepth 20000 in
theorem ggX6_greed_X6_finding : GoodIn wsX6_greed wsX6_finding := goodIn_r _ [27, 28, 18, 127, 128, 129, 130, 131, 132, 133, 134, 135, 136, 137, 138, 139, 140, 141, 142, 143, 144, 145, 146, 147, 148] (by decide +kernel) (by decide +kernel)
set_option maxRecDepth 20000 in
theorem gX6_greed_X6_finding : GoodIn wsX6_greed (wsV RX6 83 RX6 yX6_finding wsX6_finding) := goodIn_app (goodIn_of _ (by decide +kernel)) ggX6_greed_X6_finding
set_option maxRecDepth 20000 in
theorem ggX6_greed_X6_copyRow : GoodIn wsX6_greed wsX6_copyRow := goodIn_r _ [31] (by decide +kernel) (by decide +kernel)
set_option maxRecDepth 20000 in
theorem gX6_greed_X6_copyRow : GoodIn wsX6_greed (va_wsS RX6 65 yX6_copyRow wsX6_copyRow) := goodIn_app (goodIn_of _ (by decide +kernel)) ggX6_greed_X6_copyRow
set_option maxRecDepth 20000 in
theorem ggX6_greed_X6_at : GoodIn wsX6_greed wsX6_at := goodIn_r _ [34] (by decide +kernel) (by decide +kernel)
set_option maxRecDepth 20000 in
theorem gX6_greed_X6_at : GoodIn wsX6_greed (va_wsS RX6 60 yX6_at wsX6_at) := goodIn_app (goodIn_of _ (by decide +kernel)) ggX6_greed_X6_at
set_option maxRecDepth 20000 in
theorem ggX6_greed_X6_then : GoodIn wsX6_greed wsX6_then := goodIn_r _ [38, 2, 1, 39, 40, 41, 9, 42, 43, 44, 45, 46, 47, 48, 49, 50, 51, 52, 53, 54, 32, 33, 34, 55, 56, 57, 58, 59, 60, 61, 62, 63, 64, 65, 66, 67, 68, 69, 70, 71, 72, 73, 74, 75, 76, 77, 78, 79, 80, 81, 82, 83, 84, 85, 86, 87, 88, 89, 90, 91, 92, 93, 94, 95, 96, 97, 98, 99, 100, 101, 102, 103, 104, 105, 5, 106, 107, 108, 109, 110, 111, 112, 113, 114, 115, 116, 117, 118, 119, 120, 121, 122, 123, 124, 125, 126, 29, 30, 31, 127, 128, 129, 130, 131, 132, 133, 134, 135, 136, 137, 138, 139, 140, 141, 142, 143, 144, 145, 146, 147, 148] (by decide +kernel) (by decide +kernel)
set_option maxRecDepth 20000 in
theorem gX6_greed_X6_then : GoodIn wsX6_greed (wsV RX6 202 RX6 yX6_then wsX6_then) := goodIn_app (goodIn_of _ (by decide +kernel)) ggX6_greed_X6_then
theorem dX6_greed_0 : decode cX6_greed 0 = .ok (.aload_n 0, 1) := by decide +kernel
theorem dX6_greed_1 : decode cX6_greed 1 = .ok (.iload_n 1, 1) := by decide +kernel
theorem dX6_greed_2 : decode cX6_greed 2 = .ok (.invokestatic 87, 3) := by decide +kernel
theorem dX6_greed_5 : decode cX6_greed 5 = .ok (.iload_n 2, 1) := by decide +kernel
theorem dX6_greed_6 : decode cX6_greed 6 = .ok (.bipush 30, 2) := by decide +kernel
theorem dX6_greed_8 : decode cX6_greed 8 = .ok (.invokevirtual 208, 3) := by decide +kernel
theorem dX6_greed_11 : decode cX6_greed 11 = .ok (.istore_n 3, 1) := by decide +kernel
theorem dX6_greed_12 : decode cX6_greed 12 = .ok (.iload_n 3, 1) := by decide +kernel
theorem dX6_greed_13 : decode cX6_greed 13 = .ok (.ifCond .eq 9, 3) := by decide +kernel
theorem dX6_greed_16 : decode cX6_greed 16 = .ok (.aload_n 0, 1) := by decide +kernel
theorem dX6_greed_17 : decode cX6_greed 17 = .ok (.iload_n 3, 1) := by decide +kernel
theorem dX6_greed_18 : decode cX6_greed 18 = .ok (.invokevirtual 83, 3) := by decide +kernel
theorem dX6_greed_21 : decode cX6_greed 21 = .ok (.ireturn, 1) := by decide +kernel
theorem dX6_greed_22 : decode cX6_greed 22 = .ok (.aload_n 0, 1) := by decide +kernel
theorem dX6_greed_23 : decode cX6_greed 23 = .ok (.getfield 9, 3) := by decide +kernel
theorem dX6_greed_26 : decode cX6_greed 26 = .ok (.aload_n 0, 1) := by decide +kernel
theorem dX6_greed_27 : decode cX6_greed 27 = .ok (.getfield 16, 3) := by decide +kernel
theorem dX6_greed_30 : decode cX6_greed 30 = .ok (.invokestatic 65, 3) := by decide +kernel
theorem dX6_greed_33 : decode cX6_greed 33 = .ok (.iconst (-1), 1) := by decide +kernel
theorem dX6_greed_34 : decode cX6_greed 34 = .ok (.istore 4, 2) := by decide +kernel
theorem dX6_greed_36 : decode cX6_greed 36 = .ok (.iconst (-1), 1) := by decide +kernel
theorem dX6_greed_37 : decode cX6_greed 37 = .ok (.istore 5, 2) := by decide +kernel
theorem dX6_greed_39 : decode cX6_greed 39 = .ok (.iconst 0, 1) := by decide +kernel
theorem dX6_greed_40 : decode cX6_greed 40 = .ok (.istore 6, 2) := by decide +kernel
theorem dX6_greed_42 : decode cX6_greed 42 = .ok (.iload 6, 2) := by decide +kernel
theorem dX6_greed_44 : decode cX6_greed 44 = .ok (.bipush 50, 2) := by decide +kernel
theorem dX6_greed_46 : decode cX6_greed 46 = .ok (.if_icmp .gt 54, 3) := by decide +kernel
theorem dX6_greed_49 : decode cX6_greed 49 = .ok (.aload_n 0, 1) := by decide +kernel
theorem dX6_greed_50 : decode cX6_greed 50 = .ok (.getfield 9, 3) := by decide +kernel
theorem dX6_greed_53 : decode cX6_greed 53 = .ok (.iload_n 1, 1) := by decide +kernel
theorem dX6_greed_54 : decode cX6_greed 54 = .ok (.iconst 0, 1) := by decide +kernel
theorem dX6_greed_55 : decode cX6_greed 55 = .ok (.invokestatic 60, 3) := by decide +kernel
theorem dX6_greed_58 : decode cX6_greed 58 = .ok (.iload 6, 2) := by decide +kernel
theorem dX6_greed_60 : decode cX6_greed 60 = .ok (.iastore, 1) := by decide +kernel
theorem dX6_greed_61 : decode cX6_greed 61 = .ok (.aload_n 0, 1) := by decide +kernel
theorem dX6_greed_62 : decode cX6_greed 62 = .ok (.iload_n 1, 1) := by decide +kernel
theorem dX6_greed_63 : decode cX6_greed 63 = .ok (.iload_n 2, 1) := by decide +kernel
theorem dX6_greed_64 : decode cX6_greed 64 = .ok (.invokevirtual 202, 3) := by decide +kernel
theorem dX6_greed_67 : decode cX6_greed 67 = .ok (.istore 7, 2) := by decide +kernel
theorem dX6_greed_69 : decode cX6_greed 69 = .ok (.iload 7, 2) := by decide +kernel
theorem dX6_greed_71 : decode cX6_greed 71 = .ok (.iload 5, 2) := by decide +kernel
theorem dX6_greed_73 : decode cX6_greed 73 = .ok (.if_icmp .le 8, 3) := by decide +kernel
theorem dX6_greed_76 : decode cX6_greed 76 = .ok (.iload 6, 2) := by decide +kernel
theorem dX6_greed_78 : decode cX6_greed 78 = .ok (.goto 5, 3) := by decide +kernel
theorem dX6_greed_81 : decode cX6_greed 81 = .ok (.iload 4, 2) := by decide +kernel
theorem dX6_greed_83 : decode cX6_greed 83 = .ok (.istore 4, 2) := by decide +kernel
theorem dX6_greed_85 : decode cX6_greed 85 = .ok (.iload 5, 2) := by decide +kernel
theorem dX6_greed_87 : decode cX6_greed 87 = .ok (.iload 7, 2) := by decide +kernel
theorem dX6_greed_89 : decode cX6_greed 89 = .ok (.invokestatic 218, 3) := by decide +kernel
theorem dX6_greed_92 : decode cX6_greed 92 = .ok (.istore 5, 2) := by decide +kernel
theorem dX6_greed_94 : decode cX6_greed 94 = .ok (.iinc 6 1, 3) := by decide +kernel
theorem dX6_greed_97 : decode cX6_greed 97 = .ok (.goto (-55), 3) := by decide +kernel
theorem dX6_greed_100 : decode cX6_greed 100 = .ok (.iload 4, 2) := by decide +kernel
theorem dX6_greed_102 : decode cX6_greed 102 = .ok (.ireturn, 1) := by decide +kernel
set_option maxRecDepth 20000 in
theorem ggX6_kindFor_X6_isThing : GoodIn wsX6_kindFor wsX6_isThing := goodIn_r _ [6, 7, 8, 5, 9] (by decide +kernel) (by decide +kernel)
set_option maxRecDepth 20000 in
theorem gX6_kindFor_X6_isThing : GoodIn wsX6_kindFor (va_wsS RX6 73 yX6_isThing wsX6_isThing) := goodIn_app (goodIn_of _ (by decide +kernel)) ggX6_kindFor_X6_isThing
set_option maxRecDepth 20000 in
theorem ggX6_kindFor_X6_refuses : GoodIn wsX6_kindFor wsX6_refuses := goodIn_r _ [13, 14, 15, 7, 8, 5, 9, 16, 17, 18, 19, 1, 120, 121, 122, 123, 124, 125, 126, 127, 128, 129, 130, 131, 132, 133, 134, 135, 136, 137, 138, 139, 140, 141] (by decide +kernel) (by decide +kernel)
set_option maxRecDepth 20000 in
theorem gX6_kindFor_X6_refuses : GoodIn wsX6_kindFor (wsV RX6 208 RX6 yX6_refuses wsX6_refuses) := goodIn_app (goodIn_of _ (by decide +kernel)) ggX6_kindFor_X6_refuses
set_option maxRecDepth 20000 in
theorem ggX6_kindFor_X6_finding : GoodIn wsX6_kindFor wsX6_finding := goodIn_r _ [23, 24, 14, 120, 121, 122, 123, 124, 125, 126, 127, 128, 129, 130, 131, 132, 133, 134, 135, 136, 137, 138, 139, 140, 141] (by decide +kernel) (by decide +kernel)
set_option maxRecDepth 20000 in
theorem gX6_kindFor_X6_finding : GoodIn wsX6_kindFor (wsV RX6 83 RX6 yX6_finding wsX6_finding) := goodIn_app (goodIn_of _ (by decide +kernel)) ggX6_kindFor_X6_finding
set_option maxRecDepth 20000 in
theorem ggX6_kindFor_X6_copyRow : GoodIn wsX6_kindFor wsX6_copyRow := goodIn_r _ [27] (by decide +kernel) (by decide +kernel)
set_option maxRecDepth 20000 in
theorem gX6_kindFor_X6_copyRow : GoodIn wsX6_kindFor (va_wsS RX6 65 yX6_copyRow wsX6_copyRow) := goodIn_app (goodIn_of _ (by decide +kernel)) ggX6_kindFor_X6_copyRow
set_option maxRecDepth 20000 in
theorem ggX6_kindFor_X6_allOf : GoodIn wsX6_kindFor wsX6_allOf := goodIn_r _ [31, 32, 33, 34, 5, 35, 1, 36, 37, 38, 39, 40, 41, 42, 43, 44, 45, 46, 47, 48, 49, 50, 51, 52, 120, 121, 122, 123, 124, 125, 126, 127, 128, 129, 130, 131, 132, 133, 134, 135, 136, 137, 138, 139, 140, 141] (by decide +kernel) (by decide +kernel)
set_option maxRecDepth 20000 in
theorem gX6_kindFor_X6_allOf : GoodIn wsX6_kindFor (wsV RX6 182 RX6 yX6_allOf wsX6_allOf) := goodIn_app (goodIn_of _ (by decide +kernel)) ggX6_kindFor_X6_allOf
set_option maxRecDepth 20000 in
theorem ggX6_kindFor_X6_nightsGo : GoodIn wsX6_kindFor wsX6_nightsGo := goodIn_r _ [56, 57, 58, 59, 5, 60, 1, 61, 62, 63, 64, 32, 33, 34, 35, 36, 37, 38, 65, 66, 67, 68, 69, 70, 71, 72, 73, 74, 75, 76, 77, 78, 79, 80, 39, 40, 41, 42, 43, 44, 45, 46, 47, 48, 49, 50, 51, 52, 81, 82, 83, 84, 85, 86, 87, 88, 89, 90, 91, 92, 93, 94, 95, 96, 97, 98, 99, 100, 101, 102, 103, 104, 105, 106, 107, 108, 109, 110, 111, 112, 113, 114, 115, 116, 117, 118, 119, 120, 121, 122, 123, 124, 125, 126, 127, 128, 129, 130, 131, 132, 133, 134, 135, 136, 137, 138, 139, 140, 141] (by decide +kernel) (by decide +kernel)
set_option maxRecDepth 20000 in
theorem gX6_kindFor_X6_nightsGo : GoodIn wsX6_kindFor (wsV RX6 179 RX6 yX6_nightsGo wsX6_nightsGo) := goodIn_app (goodIn_of _ (by decide +kernel)) ggX6_kindFor_X6_nightsGo
theorem dX6_kindFor_0 : decode cX6_kindFor 0 = .ok (.aload_n 0, 1) := by decide +kernel
theorem dX6_kindFor_1 : decode cX6_kindFor 1 = .ok (.iload_n 1, 1) := by decide +kernel
theorem dX6_kindFor_2 : decode cX6_kindFor 2 = .ok (.invokestatic 73, 3) := by decide +kernel
theorem dX6_kindFor_5 : decode cX6_kindFor 5 = .ok (.iload_n 2, 1) := by decide +kernel
theorem dX6_kindFor_6 : decode cX6_kindFor 6 = .ok (.bipush 30, 2) := by decide +kernel
theorem dX6_kindFor_8 : decode cX6_kindFor 8 = .ok (.invokevirtual 208, 3) := by decide +kernel
theorem dX6_kindFor_11 : decode cX6_kindFor 11 = .ok (.istore_n 3, 1) := by decide +kernel
theorem dX6_kindFor_12 : decode cX6_kindFor 12 = .ok (.iload_n 3, 1) := by decide +kernel
theorem dX6_kindFor_13 : decode cX6_kindFor 13 = .ok (.ifCond .eq 9, 3) := by decide +kernel
theorem dX6_kindFor_16 : decode cX6_kindFor 16 = .ok (.aload_n 0, 1) := by decide +kernel
theorem dX6_kindFor_17 : decode cX6_kindFor 17 = .ok (.iload_n 3, 1) := by decide +kernel
theorem dX6_kindFor_18 : decode cX6_kindFor 18 = .ok (.invokevirtual 83, 3) := by decide +kernel
theorem dX6_kindFor_21 : decode cX6_kindFor 21 = .ok (.ireturn, 1) := by decide +kernel
theorem dX6_kindFor_22 : decode cX6_kindFor 22 = .ok (.aload_n 0, 1) := by decide +kernel
theorem dX6_kindFor_23 : decode cX6_kindFor 23 = .ok (.getfield 9, 3) := by decide +kernel
theorem dX6_kindFor_26 : decode cX6_kindFor 26 = .ok (.aload_n 0, 1) := by decide +kernel
theorem dX6_kindFor_27 : decode cX6_kindFor 27 = .ok (.getfield 16, 3) := by decide +kernel
theorem dX6_kindFor_30 : decode cX6_kindFor 30 = .ok (.invokestatic 65, 3) := by decide +kernel
theorem dX6_kindFor_33 : decode cX6_kindFor 33 = .ok (.iconst (-1), 1) := by decide +kernel
theorem dX6_kindFor_34 : decode cX6_kindFor 34 = .ok (.istore 4, 2) := by decide +kernel
theorem dX6_kindFor_36 : decode cX6_kindFor 36 = .ok (.iconst 0, 1) := by decide +kernel
theorem dX6_kindFor_37 : decode cX6_kindFor 37 = .ok (.istore 5, 2) := by decide +kernel
theorem dX6_kindFor_39 : decode cX6_kindFor 39 = .ok (.iconst 0, 1) := by decide +kernel
theorem dX6_kindFor_40 : decode cX6_kindFor 40 = .ok (.istore 6, 2) := by decide +kernel
theorem dX6_kindFor_42 : decode cX6_kindFor 42 = .ok (.iload 6, 2) := by decide +kernel
theorem dX6_kindFor_44 : decode cX6_kindFor 44 = .ok (.bipush 6, 2) := by decide +kernel
theorem dX6_kindFor_46 : decode cX6_kindFor 46 = .ok (.if_icmp .gt 92, 3) := by decide +kernel
theorem dX6_kindFor_49 : decode cX6_kindFor 49 = .ok (.aload_n 0, 1) := by decide +kernel
theorem dX6_kindFor_50 : decode cX6_kindFor 50 = .ok (.getfield 9, 3) := by decide +kernel
theorem dX6_kindFor_53 : decode cX6_kindFor 53 = .ok (.bipush 15, 2) := by decide +kernel
theorem dX6_kindFor_55 : decode cX6_kindFor 55 = .ok (.iload_n 1, 1) := by decide +kernel
theorem dX6_kindFor_56 : decode cX6_kindFor 56 = .ok (.iadd, 1) := by decide +kernel
theorem dX6_kindFor_57 : decode cX6_kindFor 57 = .ok (.iload 6, 2) := by decide +kernel
theorem dX6_kindFor_59 : decode cX6_kindFor 59 = .ok (.iastore, 1) := by decide +kernel
theorem dX6_kindFor_60 : decode cX6_kindFor 60 = .ok (.aload_n 0, 1) := by decide +kernel
theorem dX6_kindFor_61 : decode cX6_kindFor 61 = .ok (.iconst 0, 1) := by decide +kernel
theorem dX6_kindFor_62 : decode cX6_kindFor 62 = .ok (.invokevirtual 182, 3) := by decide +kernel
theorem dX6_kindFor_65 : decode cX6_kindFor 65 = .ok (.aload_n 0, 1) := by decide +kernel
theorem dX6_kindFor_66 : decode cX6_kindFor 66 = .ok (.iconst 1, 1) := by decide +kernel
theorem dX6_kindFor_67 : decode cX6_kindFor 67 = .ok (.invokevirtual 182, 3) := by decide +kernel
theorem dX6_kindFor_70 : decode cX6_kindFor 70 = .ok (.iadd, 1) := by decide +kernel
theorem dX6_kindFor_71 : decode cX6_kindFor 71 = .ok (.istore 7, 2) := by decide +kernel
theorem dX6_kindFor_73 : decode cX6_kindFor 73 = .ok (.aload_n 0, 1) := by decide +kernel
theorem dX6_kindFor_74 : decode cX6_kindFor 74 = .ok (.iload_n 2, 1) := by decide +kernel
theorem dX6_kindFor_75 : decode cX6_kindFor 75 = .ok (.invokevirtual 179, 3) := by decide +kernel
theorem dX6_kindFor_78 : decode cX6_kindFor 78 = .ok (.istore 8, 2) := by decide +kernel
theorem dX6_kindFor_80 : decode cX6_kindFor 80 = .ok (.aload_n 0, 1) := by decide +kernel
theorem dX6_kindFor_81 : decode cX6_kindFor 81 = .ok (.iconst 0, 1) := by decide +kernel
theorem dX6_kindFor_82 : decode cX6_kindFor 82 = .ok (.invokevirtual 182, 3) := by decide +kernel
theorem dX6_kindFor_85 : decode cX6_kindFor 85 = .ok (.aload_n 0, 1) := by decide +kernel
theorem dX6_kindFor_86 : decode cX6_kindFor 86 = .ok (.iconst 1, 1) := by decide +kernel
theorem dX6_kindFor_87 : decode cX6_kindFor 87 = .ok (.invokevirtual 182, 3) := by decide +kernel
theorem dX6_kindFor_90 : decode cX6_kindFor 90 = .ok (.iadd, 1) := by decide +kernel
theorem dX6_kindFor_91 : decode cX6_kindFor 91 = .ok (.iload 7, 2) := by decide +kernel
theorem dX6_kindFor_93 : decode cX6_kindFor 93 = .ok (.isub, 1) := by decide +kernel
theorem dX6_kindFor_94 : decode cX6_kindFor 94 = .ok (.istore 9, 2) := by decide +kernel
theorem dX6_kindFor_96 : decode cX6_kindFor 96 = .ok (.iload 8, 2) := by decide +kernel
theorem dX6_kindFor_98 : decode cX6_kindFor 98 = .ok (.ifCond .lt 23, 3) := by decide +kernel
theorem dX6_kindFor_101 : decode cX6_kindFor 101 = .ok (.iload 4, 2) := by decide +kernel
theorem dX6_kindFor_103 : decode cX6_kindFor 103 = .ok (.ifCond .lt 10, 3) := by decide +kernel
theorem dX6_kindFor_106 : decode cX6_kindFor 106 = .ok (.iload 9, 2) := by decide +kernel
theorem dX6_kindFor_108 : decode cX6_kindFor 108 = .ok (.iload 5, 2) := by decide +kernel
theorem dX6_kindFor_110 : decode cX6_kindFor 110 = .ok (.if_icmp .le 11, 3) := by decide +kernel
theorem dX6_kindFor_113 : decode cX6_kindFor 113 = .ok (.iload 6, 2) := by decide +kernel
theorem dX6_kindFor_115 : decode cX6_kindFor 115 = .ok (.istore 4, 2) := by decide +kernel
theorem dX6_kindFor_117 : decode cX6_kindFor 117 = .ok (.iload 9, 2) := by decide +kernel
theorem dX6_kindFor_119 : decode cX6_kindFor 119 = .ok (.istore 5, 2) := by decide +kernel
theorem dX6_kindFor_121 : decode cX6_kindFor 121 = .ok (.aload_n 0, 1) := by decide +kernel
theorem dX6_kindFor_122 : decode cX6_kindFor 122 = .ok (.getfield 16, 3) := by decide +kernel
theorem dX6_kindFor_125 : decode cX6_kindFor 125 = .ok (.aload_n 0, 1) := by decide +kernel
theorem dX6_kindFor_126 : decode cX6_kindFor 126 = .ok (.getfield 9, 3) := by decide +kernel
theorem dX6_kindFor_129 : decode cX6_kindFor 129 = .ok (.invokestatic 65, 3) := by decide +kernel
theorem dX6_kindFor_132 : decode cX6_kindFor 132 = .ok (.iinc 6 1, 3) := by decide +kernel
theorem dX6_kindFor_135 : decode cX6_kindFor 135 = .ok (.goto (-93), 3) := by decide +kernel
theorem dX6_kindFor_138 : decode cX6_kindFor 138 = .ok (.iload 4, 2) := by decide +kernel
theorem dX6_kindFor_140 : decode cX6_kindFor 140 = .ok (.ireturn, 1) := by decide +kernel
set_option maxRecDepth 20000 in
theorem ggX6_temptation_X6_isSide : GoodIn wsX6_temptation wsX6_isSide := goodIn_r _ [6, 7, 8, 5, 9] (by decide +kernel) (by decide +kernel)
set_option maxRecDepth 20000 in
theorem gX6_temptation_X6_isSide : GoodIn wsX6_temptation (va_wsS RX6 87 yX6_isSide wsX6_isSide) := goodIn_app (goodIn_of _ (by decide +kernel)) ggX6_temptation_X6_isSide
set_option maxRecDepth 20000 in
theorem ggX6_temptation_X6_refuses : GoodIn wsX6_temptation wsX6_refuses := goodIn_r _ [13, 14, 15, 7, 8, 5, 9, 16, 17, 18, 19, 1, 132, 133, 134, 135, 136, 137, 138, 139, 140, 141, 142, 143, 144, 145, 146, 147, 148, 149, 150, 151, 152, 153] (by decide +kernel) (by decide +kernel)
set_option maxRecDepth 20000 in
theorem gX6_temptation_X6_refuses : GoodIn wsX6_temptation (wsV RX6 208 RX6 yX6_refuses wsX6_refuses) := goodIn_app (goodIn_of _ (by decide +kernel)) ggX6_temptation_X6_refuses
set_option maxRecDepth 20000 in
theorem ggX6_temptation_X6_finding : GoodIn wsX6_temptation wsX6_finding := goodIn_r _ [23, 24, 14, 132, 133, 134, 135, 136, 137, 138, 139, 140, 141, 142, 143, 144, 145, 146, 147, 148, 149, 150, 151, 152, 153] (by decide +kernel) (by decide +kernel)
set_option maxRecDepth 20000 in
theorem gX6_temptation_X6_finding : GoodIn wsX6_temptation (wsV RX6 83 RX6 yX6_finding wsX6_finding) := goodIn_app (goodIn_of _ (by decide +kernel)) ggX6_temptation_X6_finding
set_option maxRecDepth 20000 in
theorem ggX6_temptation_X6_copyRow : GoodIn wsX6_temptation wsX6_copyRow := goodIn_r _ [27] (by decide +kernel) (by decide +kernel)
set_option maxRecDepth 20000 in
theorem gX6_temptation_X6_copyRow : GoodIn wsX6_temptation (va_wsS RX6 65 yX6_copyRow wsX6_copyRow) := goodIn_app (goodIn_of _ (by decide +kernel)) ggX6_temptation_X6_copyRow
set_option maxRecDepth 20000 in
theorem ggX6_temptation_X6_then : GoodIn wsX6_temptation wsX6_then := goodIn_r _ [31, 2, 1, 32, 33, 34, 5, 35, 36, 37, 38, 39, 40, 41, 42, 43, 44, 45, 46, 47, 48, 49, 50, 51, 52, 53, 54, 55, 56, 57, 58, 59, 60, 61, 62, 63, 64, 65, 66, 67, 68, 69, 70, 71, 72, 73, 74, 75, 76, 77, 78, 79, 80, 81, 82, 83, 84, 85, 86, 87, 88, 89, 90, 91, 92, 93, 94, 95, 96, 97, 98, 99, 100, 101, 102, 103, 104, 105, 106, 107, 108, 109, 110, 111, 112, 113, 114, 115, 116, 117, 118, 119, 120, 121, 122, 123, 25, 26, 27, 132, 133, 134, 135, 136, 137, 138, 139, 140, 141, 142, 143, 144, 145, 146, 147, 148, 149, 150, 151, 152, 153] (by decide +kernel) (by decide +kernel)
set_option maxRecDepth 20000 in
theorem gX6_temptation_X6_then : GoodIn wsX6_temptation (wsV RX6 202 RX6 yX6_then wsX6_then) := goodIn_app (goodIn_of _ (by decide +kernel)) ggX6_temptation_X6_then
set_option maxRecDepth 20000 in
theorem ggX6_temptation_X6_stolen : GoodIn wsX6_temptation wsX6_stolen := goodIn_r _ [127, 1, 63, 64, 65, 5, 66, 44, 45, 46, 47, 48, 49, 50, 67, 68, 69, 70, 71, 72, 73, 74, 75, 76, 77, 78, 79, 80, 88, 89, 90, 91, 92, 93, 94, 95, 96, 97, 98, 99, 100, 101, 102, 103, 132, 133, 134, 135, 136, 137, 138, 139, 140, 141, 142, 143, 144, 145, 146, 147, 148, 149, 150, 151, 152, 153] (by decide +kernel) (by decide +kernel)
set_option maxRecDepth 20000 in
theorem gX6_temptation_X6_stolen : GoodIn wsX6_temptation (wsV RX6 156 RX6 yX6_stolen wsX6_stolen) := goodIn_app (goodIn_of _ (by decide +kernel)) ggX6_temptation_X6_stolen
set_option maxRecDepth 20000 in
theorem ggX6_temptation_X6_allOf : GoodIn wsX6_temptation wsX6_allOf := goodIn_r _ [123, 44, 45, 46, 5, 47, 1, 48, 49, 50, 67, 68, 69, 70, 71, 72, 73, 74, 75, 76, 77, 78, 79, 80, 132, 133, 134, 135, 136, 137, 138, 139, 140, 141, 142, 143, 144, 145, 146, 147, 148, 149, 150, 151, 152, 153] (by decide +kernel) (by decide +kernel)
set_option maxRecDepth 20000 in
theorem gX6_temptation_X6_allOf : GoodIn wsX6_temptation (wsV RX6 182 RX6 yX6_allOf wsX6_allOf) := goodIn_app (goodIn_of _ (by decide +kernel)) ggX6_temptation_X6_allOf
set_option maxRecDepth 20000 in
theorem ggX6_temptation_X6_putBack : GoodIn wsX6_temptation wsX6_putBack := goodIn_r _ [131, 2, 1, 25, 26, 5, 27, 132, 133, 134, 135, 136, 137, 138, 139, 140, 141, 142, 143, 144, 145, 146, 147, 148, 149, 150, 151, 152, 153] (by decide +kernel) (by decide +kernel)
set_option maxRecDepth 20000 in
theorem gX6_temptation_X6_putBack : GoodIn wsX6_temptation (wsV RX6 188 RX6 yX6_putBack wsX6_putBack) := goodIn_app (goodIn_of _ (by decide +kernel)) ggX6_temptation_X6_putBack
theorem dX6_temptation_0 : decode cX6_temptation 0 = .ok (.aload_n 0, 1) := by decide +kernel
theorem dX6_temptation_1 : decode cX6_temptation 1 = .ok (.iload_n 1, 1) := by decide +kernel
theorem dX6_temptation_2 : decode cX6_temptation 2 = .ok (.invokestatic 87, 3) := by decide +kernel
theorem dX6_temptation_5 : decode cX6_temptation 5 = .ok (.iload_n 2, 1) := by decide +kernel
theorem dX6_temptation_6 : decode cX6_temptation 6 = .ok (.bipush 60, 2) := by decide +kernel
theorem dX6_temptation_8 : decode cX6_temptation 8 = .ok (.invokevirtual 208, 3) := by decide +kernel
theorem dX6_temptation_11 : decode cX6_temptation 11 = .ok (.istore_n 3, 1) := by decide +kernel
theorem dX6_temptation_12 : decode cX6_temptation 12 = .ok (.iload_n 3, 1) := by decide +kernel
theorem dX6_temptation_13 : decode cX6_temptation 13 = .ok (.ifCond .eq 9, 3) := by decide +kernel
theorem dX6_temptation_16 : decode cX6_temptation 16 = .ok (.aload_n 0, 1) := by decide +kernel
theorem dX6_temptation_17 : decode cX6_temptation 17 = .ok (.iload_n 3, 1) := by decide +kernel
theorem dX6_temptation_18 : decode cX6_temptation 18 = .ok (.invokevirtual 83, 3) := by decide +kernel
theorem dX6_temptation_21 : decode cX6_temptation 21 = .ok (.ireturn, 1) := by decide +kernel
theorem dX6_temptation_22 : decode cX6_temptation 22 = .ok (.aload_n 0, 1) := by decide +kernel
theorem dX6_temptation_23 : decode cX6_temptation 23 = .ok (.getfield 9, 3) := by decide +kernel
theorem dX6_temptation_26 : decode cX6_temptation 26 = .ok (.aload_n 0, 1) := by decide +kernel
theorem dX6_temptation_27 : decode cX6_temptation 27 = .ok (.getfield 16, 3) := by decide +kernel
theorem dX6_temptation_30 : decode cX6_temptation 30 = .ok (.invokestatic 65, 3) := by decide +kernel
theorem dX6_temptation_33 : decode cX6_temptation 33 = .ok (.aload_n 0, 1) := by decide +kernel
theorem dX6_temptation_34 : decode cX6_temptation 34 = .ok (.iload_n 1, 1) := by decide +kernel
theorem dX6_temptation_35 : decode cX6_temptation 35 = .ok (.iload_n 2, 1) := by decide +kernel
theorem dX6_temptation_36 : decode cX6_temptation 36 = .ok (.invokevirtual 202, 3) := by decide +kernel
theorem dX6_temptation_39 : decode cX6_temptation 39 = .ok (.istore 4, 2) := by decide +kernel
theorem dX6_temptation_41 : decode cX6_temptation 41 = .ok (.aload_n 0, 1) := by decide +kernel
theorem dX6_temptation_42 : decode cX6_temptation 42 = .ok (.iload_n 1, 1) := by decide +kernel
theorem dX6_temptation_43 : decode cX6_temptation 43 = .ok (.invokevirtual 156, 3) := by decide +kernel
theorem dX6_temptation_46 : decode cX6_temptation 46 = .ok (.istore 5, 2) := by decide +kernel
theorem dX6_temptation_48 : decode cX6_temptation 48 = .ok (.aload_n 0, 1) := by decide +kernel
theorem dX6_temptation_49 : decode cX6_temptation 49 = .ok (.iload 5, 2) := by decide +kernel
theorem dX6_temptation_51 : decode cX6_temptation 51 = .ok (.ifCond .ge 8, 3) := by decide +kernel
theorem dX6_temptation_54 : decode cX6_temptation 54 = .ok (.iload 5, 2) := by decide +kernel
theorem dX6_temptation_56 : decode cX6_temptation 56 = .ok (.goto 11, 3) := by decide +kernel
theorem dX6_temptation_59 : decode cX6_temptation 59 = .ok (.aload_n 0, 1) := by decide +kernel
theorem dX6_temptation_60 : decode cX6_temptation 60 = .ok (.iload_n 1, 1) := by decide +kernel
theorem dX6_temptation_61 : decode cX6_temptation 61 = .ok (.invokevirtual 182, 3) := by decide +kernel
theorem dX6_temptation_64 : decode cX6_temptation 64 = .ok (.iload 4, 2) := by decide +kernel
theorem dX6_temptation_66 : decode cX6_temptation 66 = .ok (.isub, 1) := by decide +kernel
theorem dX6_temptation_67 : decode cX6_temptation 67 = .ok (.invokevirtual 188, 3) := by decide +kernel
theorem dX6_temptation_70 : decode cX6_temptation 70 = .ok (.ireturn, 1) := by decide +kernel
set_option maxRecDepth 20000 in
theorem ggX6_bundle_X6_sideIs : GoodIn wsX6_bundle wsX6_sideIs := goodIn_r _ [6, 7, 8, 9, 5, 10, 31, 32, 33, 34, 35, 36, 37, 38, 39, 40, 41, 42, 43, 44, 45, 46, 47, 48, 49, 50, 51, 52] (by decide +kernel) (by decide +kernel)
set_option maxRecDepth 20000 in
theorem gX6_bundle_X6_sideIs : GoodIn wsX6_bundle (wsV RX6 93 RX6 yX6_sideIs wsX6_sideIs) := goodIn_app (goodIn_of _ (by decide +kernel)) ggX6_bundle_X6_sideIs
set_option maxRecDepth 20000 in
theorem ggX6_bundle_X6_priceFor : GoodIn wsX6_bundle wsX6_priceFor := goodIn_r _ [14, 7, 2, 3, 4, 5, 6, 8, 9, 10, 15, 16, 17, 18, 19, 20, 21, 22, 23, 24, 31, 32, 33, 34, 35, 36, 37, 38, 39, 40, 41, 42, 43, 44, 45, 46, 47, 48, 49, 50, 51, 52] (by decide +kernel) (by decide +kernel)
set_option maxRecDepth 20000 in
theorem gX6_bundle_X6_priceFor : GoodIn wsX6_bundle (wsV RX6 107 RX6 yX6_priceFor wsX6_priceFor) := goodIn_app (goodIn_of _ (by decide +kernel)) ggX6_bundle_X6_priceFor
set_option maxRecDepth 20000 in
theorem ggX6_bundle_X6_finding : GoodIn wsX6_bundle wsX6_finding := goodIn_r _ [28, 29, 30, 31, 32, 33, 34, 35, 36, 37, 38, 39, 40, 41, 42, 43, 44, 45, 46, 47, 48, 49, 50, 51, 52] (by decide +kernel) (by decide +kernel)
set_option maxRecDepth 20000 in
theorem gX6_bundle_X6_finding : GoodIn wsX6_bundle (wsV RX6 83 RX6 yX6_finding wsX6_finding) := goodIn_app (goodIn_of _ (by decide +kernel)) ggX6_bundle_X6_finding
theorem dX6_bundle_0 : decode cX6_bundle 0 = .ok (.iconst (-1), 1) := by decide +kernel
theorem dX6_bundle_1 : decode cX6_bundle 1 = .ok (.istore_n 1, 1) := by decide +kernel
theorem dX6_bundle_2 : decode cX6_bundle 2 = .ok (.iconst 0, 1) := by decide +kernel
theorem dX6_bundle_3 : decode cX6_bundle 3 = .ok (.istore_n 2, 1) := by decide +kernel
theorem dX6_bundle_4 : decode cX6_bundle 4 = .ok (.iconst 0, 1) := by decide +kernel
theorem dX6_bundle_5 : decode cX6_bundle 5 = .ok (.istore_n 3, 1) := by decide +kernel
theorem dX6_bundle_6 : decode cX6_bundle 6 = .ok (.iload_n 3, 1) := by decide +kernel
theorem dX6_bundle_7 : decode cX6_bundle 7 = .ok (.iconst 5, 1) := by decide +kernel
theorem dX6_bundle_8 : decode cX6_bundle 8 = .ok (.if_icmp .ge 134, 3) := by decide +kernel
theorem dX6_bundle_11 : decode cX6_bundle 11 = .ok (.iconst 0, 1) := by decide +kernel
theorem dX6_bundle_12 : decode cX6_bundle 12 = .ok (.istore 4, 2) := by decide +kernel
theorem dX6_bundle_14 : decode cX6_bundle 14 = .ok (.iload 4, 2) := by decide +kernel
theorem dX6_bundle_16 : decode cX6_bundle 16 = .ok (.iconst 5, 1) := by decide +kernel
theorem dX6_bundle_17 : decode cX6_bundle 17 = .ok (.if_icmp .ge 119, 3) := by decide +kernel
theorem dX6_bundle_20 : decode cX6_bundle 20 = .ok (.iload_n 3, 1) := by decide +kernel
theorem dX6_bundle_21 : decode cX6_bundle 21 = .ok (.iload 4, 2) := by decide +kernel
theorem dX6_bundle_23 : decode cX6_bundle 23 = .ok (.if_icmp .eq 30, 3) := by decide +kernel
theorem dX6_bundle_26 : decode cX6_bundle 26 = .ok (.aload_n 0, 1) := by decide +kernel
theorem dX6_bundle_27 : decode cX6_bundle 27 = .ok (.iconst 0, 1) := by decide +kernel
theorem dX6_bundle_28 : decode cX6_bundle 28 = .ok (.iconst 2, 1) := by decide +kernel
theorem dX6_bundle_29 : decode cX6_bundle 29 = .ok (.iload_n 3, 1) := by decide +kernel
theorem dX6_bundle_30 : decode cX6_bundle 30 = .ok (.iadd, 1) := by decide +kernel
theorem dX6_bundle_31 : decode cX6_bundle 31 = .ok (.invokevirtual 93, 3) := by decide +kernel
theorem dX6_bundle_34 : decode cX6_bundle 34 = .ok (.ifCond .le 19, 3) := by decide +kernel
theorem dX6_bundle_37 : decode cX6_bundle 37 = .ok (.aload_n 0, 1) := by decide +kernel
theorem dX6_bundle_38 : decode cX6_bundle 38 = .ok (.iconst 1, 1) := by decide +kernel
theorem dX6_bundle_39 : decode cX6_bundle 39 = .ok (.iconst 2, 1) := by decide +kernel
theorem dX6_bundle_40 : decode cX6_bundle 40 = .ok (.iload 4, 2) := by decide +kernel
theorem dX6_bundle_42 : decode cX6_bundle 42 = .ok (.iadd, 1) := by decide +kernel
theorem dX6_bundle_43 : decode cX6_bundle 43 = .ok (.invokevirtual 93, 3) := by decide +kernel
theorem dX6_bundle_46 : decode cX6_bundle 46 = .ok (.ifCond .le 7, 3) := by decide +kernel
theorem dX6_bundle_49 : decode cX6_bundle 49 = .ok (.iconst 1, 1) := by decide +kernel
theorem dX6_bundle_50 : decode cX6_bundle 50 = .ok (.goto 4, 3) := by decide +kernel
theorem dX6_bundle_53 : decode cX6_bundle 53 = .ok (.iconst 0, 1) := by decide +kernel
theorem dX6_bundle_54 : decode cX6_bundle 54 = .ok (.istore 5, 2) := by decide +kernel
theorem dX6_bundle_56 : decode cX6_bundle 56 = .ok (.aload_n 0, 1) := by decide +kernel
theorem dX6_bundle_57 : decode cX6_bundle 57 = .ok (.iconst 0, 1) := by decide +kernel
theorem dX6_bundle_58 : decode cX6_bundle 58 = .ok (.iload 4, 2) := by decide +kernel
theorem dX6_bundle_60 : decode cX6_bundle 60 = .ok (.iconst 1, 1) := by decide +kernel
theorem dX6_bundle_61 : decode cX6_bundle 61 = .ok (.invokevirtual 107, 3) := by decide +kernel
theorem dX6_bundle_64 : decode cX6_bundle 64 = .ok (.aload_n 0, 1) := by decide +kernel
theorem dX6_bundle_65 : decode cX6_bundle 65 = .ok (.iconst 0, 1) := by decide +kernel
theorem dX6_bundle_66 : decode cX6_bundle 66 = .ok (.iload_n 3, 1) := by decide +kernel
theorem dX6_bundle_67 : decode cX6_bundle 67 = .ok (.iconst 1, 1) := by decide +kernel
theorem dX6_bundle_68 : decode cX6_bundle 68 = .ok (.invokevirtual 107, 3) := by decide +kernel
theorem dX6_bundle_71 : decode cX6_bundle 71 = .ok (.isub, 1) := by decide +kernel
theorem dX6_bundle_72 : decode cX6_bundle 72 = .ok (.istore 6, 2) := by decide +kernel
theorem dX6_bundle_74 : decode cX6_bundle 74 = .ok (.aload_n 0, 1) := by decide +kernel
theorem dX6_bundle_75 : decode cX6_bundle 75 = .ok (.iconst 1, 1) := by decide +kernel
theorem dX6_bundle_76 : decode cX6_bundle 76 = .ok (.iload_n 3, 1) := by decide +kernel
theorem dX6_bundle_77 : decode cX6_bundle 77 = .ok (.iconst 1, 1) := by decide +kernel
theorem dX6_bundle_78 : decode cX6_bundle 78 = .ok (.invokevirtual 107, 3) := by decide +kernel
theorem dX6_bundle_81 : decode cX6_bundle 81 = .ok (.aload_n 0, 1) := by decide +kernel
theorem dX6_bundle_82 : decode cX6_bundle 82 = .ok (.iconst 1, 1) := by decide +kernel
theorem dX6_bundle_83 : decode cX6_bundle 83 = .ok (.iload 4, 2) := by decide +kernel
theorem dX6_bundle_85 : decode cX6_bundle 85 = .ok (.iconst 1, 1) := by decide +kernel
theorem dX6_bundle_86 : decode cX6_bundle 86 = .ok (.invokevirtual 107, 3) := by decide +kernel
theorem dX6_bundle_89 : decode cX6_bundle 89 = .ok (.isub, 1) := by decide +kernel
theorem dX6_bundle_90 : decode cX6_bundle 90 = .ok (.istore 7, 2) := by decide +kernel
theorem dX6_bundle_92 : decode cX6_bundle 92 = .ok (.iload 5, 2) := by decide +kernel
theorem dX6_bundle_94 : decode cX6_bundle 94 = .ok (.ifCond .eq 36, 3) := by decide +kernel
theorem dX6_bundle_97 : decode cX6_bundle 97 = .ok (.iload 6, 2) := by decide +kernel
theorem dX6_bundle_99 : decode cX6_bundle 99 = .ok (.ifCond .le 31, 3) := by decide +kernel
theorem dX6_bundle_102 : decode cX6_bundle 102 = .ok (.iload 7, 2) := by decide +kernel
theorem dX6_bundle_104 : decode cX6_bundle 104 = .ok (.ifCond .le 26, 3) := by decide +kernel
theorem dX6_bundle_107 : decode cX6_bundle 107 = .ok (.iload 6, 2) := by decide +kernel
theorem dX6_bundle_109 : decode cX6_bundle 109 = .ok (.iload 7, 2) := by decide +kernel
theorem dX6_bundle_111 : decode cX6_bundle 111 = .ok (.iadd, 1) := by decide +kernel
theorem dX6_bundle_112 : decode cX6_bundle 112 = .ok (.iload_n 2, 1) := by decide +kernel
theorem dX6_bundle_113 : decode cX6_bundle 113 = .ok (.if_icmp .le 17, 3) := by decide +kernel
theorem dX6_bundle_116 : decode cX6_bundle 116 = .ok (.bipush 10, 2) := by decide +kernel
theorem dX6_bundle_118 : decode cX6_bundle 118 = .ok (.iload_n 3, 1) := by decide +kernel
theorem dX6_bundle_119 : decode cX6_bundle 119 = .ok (.imul, 1) := by decide +kernel
theorem dX6_bundle_120 : decode cX6_bundle 120 = .ok (.iload 4, 2) := by decide +kernel
theorem dX6_bundle_122 : decode cX6_bundle 122 = .ok (.iadd, 1) := by decide +kernel
theorem dX6_bundle_123 : decode cX6_bundle 123 = .ok (.istore_n 1, 1) := by decide +kernel
theorem dX6_bundle_124 : decode cX6_bundle 124 = .ok (.iload 6, 2) := by decide +kernel
theorem dX6_bundle_126 : decode cX6_bundle 126 = .ok (.iload 7, 2) := by decide +kernel
theorem dX6_bundle_128 : decode cX6_bundle 128 = .ok (.iadd, 1) := by decide +kernel
theorem dX6_bundle_129 : decode cX6_bundle 129 = .ok (.istore_n 2, 1) := by decide +kernel
theorem dX6_bundle_130 : decode cX6_bundle 130 = .ok (.iinc 4 1, 3) := by decide +kernel
theorem dX6_bundle_133 : decode cX6_bundle 133 = .ok (.goto (-119), 3) := by decide +kernel
theorem dX6_bundle_136 : decode cX6_bundle 136 = .ok (.iinc 3 1, 3) := by decide +kernel
theorem dX6_bundle_139 : decode cX6_bundle 139 = .ok (.goto (-133), 3) := by decide +kernel
theorem dX6_bundle_142 : decode cX6_bundle 142 = .ok (.iload_n 1, 1) := by decide +kernel
theorem dX6_bundle_143 : decode cX6_bundle 143 = .ok (.ifCond .ge 12, 3) := by decide +kernel
theorem dX6_bundle_146 : decode cX6_bundle 146 = .ok (.aload_n 0, 1) := by decide +kernel
theorem dX6_bundle_147 : decode cX6_bundle 147 = .ok (.ldc 147, 2) := by decide +kernel
theorem dX6_bundle_149 : decode cX6_bundle 149 = .ok (.invokevirtual 83, 3) := by decide +kernel
theorem dX6_bundle_152 : decode cX6_bundle 152 = .ok (.goto 4, 3) := by decide +kernel
theorem dX6_bundle_155 : decode cX6_bundle 155 = .ok (.iload_n 1, 1) := by decide +kernel
theorem dX6_bundle_156 : decode cX6_bundle 156 = .ok (.ireturn, 1) := by decide +kernel
theorem dX6_booked_0 : decode cX6_booked 0 = .ok (.bipush 12, 2) := by decide +kernel
theorem dX6_booked_2 : decode cX6_booked 2 = .ok (.aload_n 0, 1) := by decide +kernel
theorem dX6_booked_3 : decode cX6_booked 3 = .ok (.getfield 9, 3) := by decide +kernel
theorem dX6_booked_6 : decode cX6_booked 6 = .ok (.iconst 0, 1) := by decide +kernel
theorem dX6_booked_7 : decode cX6_booked 7 = .ok (.iaload, 1) := by decide +kernel
theorem dX6_booked_8 : decode cX6_booked 8 = .ok (.invokestatic 111, 3) := by decide +kernel
theorem dX6_booked_11 : decode cX6_booked 11 = .ok (.ireturn, 1) := by decide +kernel
set_option maxRecDepth 20000 in
theorem ggX6_book_X6_within : GoodIn wsX6_book wsX6_within := goodIn_r _ [7] (by decide +kernel) (by decide +kernel)
set_option maxRecDepth 20000 in
theorem gX6_book_X6_within : GoodIn wsX6_book (va_wsS RX6 69 yX6_within wsX6_within) := goodIn_app (goodIn_of _ (by decide +kernel)) ggX6_book_X6_within
set_option maxRecDepth 20000 in
theorem ggX6_book_X6_finding : GoodIn wsX6_book wsX6_finding := goodIn_r _ [11, 12, 1, 24, 25, 26, 27, 28, 29, 30, 31, 32, 33, 34, 35, 36, 37, 38, 39, 40, 41, 42, 43, 44, 45] (by decide +kernel) (by decide +kernel)
