set_option maxRecDepth 20000 in
theorem gX5_kindFor_X5_isThing : GoodIn wsX5_kindFor (va_wsS RX5 48 yX5_isThing wsX5_isThing) := goodIn_app (goodIn_of _ (by decide +kernel)) ggX5_kindFor_X5_isThing
set_option maxRecDepth 20000 in
theorem ggX5_kindFor_X5_isIn : GoodIn wsX5_kindFor wsX5_isIn := goodIn_r _ [11] (by decide +kernel) (by decide +kernel)
set_option maxRecDepth 20000 in
theorem gX5_kindFor_X5_isIn : GoodIn wsX5_kindFor (va_wsS RX5 68 yX5_isIn wsX5_isIn) := goodIn_app (goodIn_of _ (by decide +kernel)) ggX5_kindFor_X5_isIn
set_option maxRecDepth 20000 in
theorem ggX5_kindFor_X5_finding : GoodIn wsX5_kindFor wsX5_finding := goodIn_r _ [15, 16, 17, 114, 115, 116, 117, 118, 119, 120] (by decide +kernel) (by decide +kernel)
set_option maxRecDepth 20000 in
theorem gX5_kindFor_X5_finding : GoodIn wsX5_kindFor (wsV RX5 55 RX5 yX5_finding wsX5_finding) := goodIn_app (goodIn_of _ (by decide +kernel)) ggX5_kindFor_X5_finding
set_option maxRecDepth 20000 in
theorem ggX5_kindFor_X5_isTooLate : GoodIn wsX5_kindFor wsX5_isTooLate := goodIn_r _ [21, 2, 3, 22, 114, 115, 116, 117, 118, 119, 120, 121, 122, 123, 124, 125, 126, 127, 128, 129, 130, 131, 132, 133, 134] (by decide +kernel) (by decide +kernel)
set_option maxRecDepth 20000 in
theorem gX5_kindFor_X5_isTooLate : GoodIn wsX5_kindFor (wsV RX5 136 RX5 yX5_isTooLate wsX5_isTooLate) := goodIn_app (goodIn_of _ (by decide +kernel)) ggX5_kindFor_X5_isTooLate
set_option maxRecDepth 20000 in
theorem ggX5_kindFor_X1_copyFrom : GoodIn wsX5_kindFor wsX1_copyFrom := goodIn_r _ [27, 28, 29, 30, 31, 32, 33, 34, 35, 36, 37, 38, 39, 40, 41, 125, 126, 127, 128, 129, 130, 131, 132, 133, 134] (by decide +kernel) (by decide +kernel)
set_option maxRecDepth 20000 in
theorem gX5_kindFor_X1_copyFrom : GoodIn wsX5_kindFor (wsV RX5 161 RX1 yX1_copyFrom wsX1_copyFrom) := goodIn_app (goodIn_of _ (by decide +kernel)) ggX5_kindFor_X1_copyFrom
set_option maxRecDepth 20000 in
theorem ggX5_kindFor_X1_wealth : GoodIn wsX5_kindFor wsX1_wealth := goodIn_r _ [45, 33, 34, 46, 47, 48, 26, 49, 35, 28, 38, 125, 126, 127, 128, 129, 130, 131, 132, 133, 134] (by decide +kernel) (by decide +kernel)
set_option maxRecDepth 20000 in
theorem gX5_kindFor_X1_wealth : GoodIn wsX5_kindFor (wsV RX5 171 RX1 yX1_wealth wsX1_wealth) := goodIn_app (goodIn_of _ (by decide +kernel)) ggX5_kindFor_X1_wealth
set_option maxRecDepth 20000 in
theorem ggX5_kindFor_X1_passNights : GoodIn wsX5_kindFor wsX1_passNights := goodIn_r _ [53, 54, 55, 56, 26, 57, 39, 58, 59, 60, 61, 37, 62, 63, 64, 65, 34, 66, 67, 68, 69, 36, 70, 71, 72, 73, 46, 47, 48, 49, 35, 28, 38, 74, 75, 76, 77, 78, 79, 80, 81, 40, 82, 83, 84, 85, 86, 87, 88, 89, 33, 90, 91, 92, 93, 94, 95, 96, 97, 98, 99, 100, 101, 102, 103, 104, 105, 106, 107, 108, 109, 41, 110, 111, 112, 113, 125, 126, 127, 128, 129, 130, 131, 132, 133, 134] (by decide +kernel) (by decide +kernel)
set_option maxRecDepth 20000 in
theorem gX5_kindFor_X1_passNights : GoodIn wsX5_kindFor (wsV RX5 165 RX1 yX1_passNights wsX1_passNights) := goodIn_app (goodIn_of _ (by decide +kernel)) ggX5_kindFor_X1_passNights
theorem dX5_kindFor_0 : decode cX5_kindFor 0 = .ok (.iload_n 1, 1) := by decide +kernel
theorem dX5_kindFor_1 : decode cX5_kindFor 1 = .ok (.invokestatic 48, 3) := by decide +kernel
theorem dX5_kindFor_4 : decode cX5_kindFor 4 = .ok (.ifCond .eq 13, 3) := by decide +kernel
theorem dX5_kindFor_7 : decode cX5_kindFor 7 = .ok (.iload_n 2, 1) := by decide +kernel
theorem dX5_kindFor_8 : decode cX5_kindFor 8 = .ok (.iconst 1, 1) := by decide +kernel
theorem dX5_kindFor_9 : decode cX5_kindFor 9 = .ok (.bipush 30, 2) := by decide +kernel
theorem dX5_kindFor_11 : decode cX5_kindFor 11 = .ok (.invokestatic 68, 3) := by decide +kernel
theorem dX5_kindFor_14 : decode cX5_kindFor 14 = .ok (.ifCond .ne 9, 3) := by decide +kernel
theorem dX5_kindFor_17 : decode cX5_kindFor 17 = .ok (.aload_n 0, 1) := by decide +kernel
theorem dX5_kindFor_18 : decode cX5_kindFor 18 = .ok (.iconst 0, 1) := by decide +kernel
theorem dX5_kindFor_19 : decode cX5_kindFor 19 = .ok (.invokevirtual 55, 3) := by decide +kernel
theorem dX5_kindFor_22 : decode cX5_kindFor 22 = .ok (.ireturn, 1) := by decide +kernel
theorem dX5_kindFor_23 : decode cX5_kindFor 23 = .ok (.aload_n 0, 1) := by decide +kernel
theorem dX5_kindFor_24 : decode cX5_kindFor 24 = .ok (.iload_n 2, 1) := by decide +kernel
theorem dX5_kindFor_25 : decode cX5_kindFor 25 = .ok (.invokevirtual 136, 3) := by decide +kernel
theorem dX5_kindFor_28 : decode cX5_kindFor 28 = .ok (.ifCond .eq 9, 3) := by decide +kernel
theorem dX5_kindFor_31 : decode cX5_kindFor 31 = .ok (.aload_n 0, 1) := by decide +kernel
theorem dX5_kindFor_32 : decode cX5_kindFor 32 = .ok (.iconst 4, 1) := by decide +kernel
theorem dX5_kindFor_33 : decode cX5_kindFor 33 = .ok (.invokevirtual 55, 3) := by decide +kernel
theorem dX5_kindFor_36 : decode cX5_kindFor 36 = .ok (.ireturn, 1) := by decide +kernel
theorem dX5_kindFor_37 : decode cX5_kindFor 37 = .ok (.iconst 0, 1) := by decide +kernel
theorem dX5_kindFor_38 : decode cX5_kindFor 38 = .ok (.istore_n 3, 1) := by decide +kernel
theorem dX5_kindFor_39 : decode cX5_kindFor 39 = .ok (.iconst 0, 1) := by decide +kernel
theorem dX5_kindFor_40 : decode cX5_kindFor 40 = .ok (.istore 4, 2) := by decide +kernel
theorem dX5_kindFor_42 : decode cX5_kindFor 42 = .ok (.iconst 0, 1) := by decide +kernel
theorem dX5_kindFor_43 : decode cX5_kindFor 43 = .ok (.istore 5, 2) := by decide +kernel
theorem dX5_kindFor_45 : decode cX5_kindFor 45 = .ok (.iload 5, 2) := by decide +kernel
theorem dX5_kindFor_47 : decode cX5_kindFor 47 = .ok (.bipush 7, 2) := by decide +kernel
theorem dX5_kindFor_49 : decode cX5_kindFor 49 = .ok (.if_icmp .ge 103, 3) := by decide +kernel
theorem dX5_kindFor_52 : decode cX5_kindFor 52 = .ok (.aload_n 0, 1) := by decide +kernel
theorem dX5_kindFor_53 : decode cX5_kindFor 53 = .ok (.getfield 26, 3) := by decide +kernel
theorem dX5_kindFor_56 : decode cX5_kindFor 56 = .ok (.aload_n 0, 1) := by decide +kernel
theorem dX5_kindFor_57 : decode cX5_kindFor 57 = .ok (.getfield 10, 3) := by decide +kernel
theorem dX5_kindFor_60 : decode cX5_kindFor 60 = .ok (.getfield 59, 3) := by decide +kernel
theorem dX5_kindFor_63 : decode cX5_kindFor 63 = .ok (.invokevirtual 161, 3) := by decide +kernel
theorem dX5_kindFor_66 : decode cX5_kindFor 66 = .ok (.aload_n 0, 1) := by decide +kernel
theorem dX5_kindFor_67 : decode cX5_kindFor 67 = .ok (.getfield 26, 3) := by decide +kernel
theorem dX5_kindFor_70 : decode cX5_kindFor 70 = .ok (.getfield 62, 3) := by decide +kernel
theorem dX5_kindFor_73 : decode cX5_kindFor 73 = .ok (.iload_n 1, 1) := by decide +kernel
theorem dX5_kindFor_74 : decode cX5_kindFor 74 = .ok (.iload 5, 2) := by decide +kernel
theorem dX5_kindFor_76 : decode cX5_kindFor 76 = .ok (.iastore, 1) := by decide +kernel
theorem dX5_kindFor_77 : decode cX5_kindFor 77 = .ok (.aload_n 0, 1) := by decide +kernel
theorem dX5_kindFor_78 : decode cX5_kindFor 78 = .ok (.getfield 26, 3) := by decide +kernel
theorem dX5_kindFor_81 : decode cX5_kindFor 81 = .ok (.iconst 0, 1) := by decide +kernel
theorem dX5_kindFor_82 : decode cX5_kindFor 82 = .ok (.invokevirtual 171, 3) := by decide +kernel
theorem dX5_kindFor_85 : decode cX5_kindFor 85 = .ok (.aload_n 0, 1) := by decide +kernel
theorem dX5_kindFor_86 : decode cX5_kindFor 86 = .ok (.getfield 26, 3) := by decide +kernel
theorem dX5_kindFor_89 : decode cX5_kindFor 89 = .ok (.iconst 1, 1) := by decide +kernel
theorem dX5_kindFor_90 : decode cX5_kindFor 90 = .ok (.invokevirtual 171, 3) := by decide +kernel
theorem dX5_kindFor_93 : decode cX5_kindFor 93 = .ok (.iadd, 1) := by decide +kernel
theorem dX5_kindFor_94 : decode cX5_kindFor 94 = .ok (.istore 6, 2) := by decide +kernel
theorem dX5_kindFor_96 : decode cX5_kindFor 96 = .ok (.aload_n 0, 1) := by decide +kernel
theorem dX5_kindFor_97 : decode cX5_kindFor 97 = .ok (.getfield 26, 3) := by decide +kernel
theorem dX5_kindFor_100 : decode cX5_kindFor 100 = .ok (.iload_n 2, 1) := by decide +kernel
theorem dX5_kindFor_101 : decode cX5_kindFor 101 = .ok (.invokevirtual 165, 3) := by decide +kernel
theorem dX5_kindFor_104 : decode cX5_kindFor 104 = .ok (.pop, 1) := by decide +kernel
theorem dX5_kindFor_105 : decode cX5_kindFor 105 = .ok (.aload_n 0, 1) := by decide +kernel
theorem dX5_kindFor_106 : decode cX5_kindFor 106 = .ok (.getfield 26, 3) := by decide +kernel
theorem dX5_kindFor_109 : decode cX5_kindFor 109 = .ok (.iconst 0, 1) := by decide +kernel
theorem dX5_kindFor_110 : decode cX5_kindFor 110 = .ok (.invokevirtual 171, 3) := by decide +kernel
theorem dX5_kindFor_113 : decode cX5_kindFor 113 = .ok (.aload_n 0, 1) := by decide +kernel
theorem dX5_kindFor_114 : decode cX5_kindFor 114 = .ok (.getfield 26, 3) := by decide +kernel
theorem dX5_kindFor_117 : decode cX5_kindFor 117 = .ok (.iconst 1, 1) := by decide +kernel
theorem dX5_kindFor_118 : decode cX5_kindFor 118 = .ok (.invokevirtual 171, 3) := by decide +kernel
theorem dX5_kindFor_121 : decode cX5_kindFor 121 = .ok (.iadd, 1) := by decide +kernel
theorem dX5_kindFor_122 : decode cX5_kindFor 122 = .ok (.iload 6, 2) := by decide +kernel
theorem dX5_kindFor_124 : decode cX5_kindFor 124 = .ok (.isub, 1) := by decide +kernel
theorem dX5_kindFor_125 : decode cX5_kindFor 125 = .ok (.istore 7, 2) := by decide +kernel
theorem dX5_kindFor_127 : decode cX5_kindFor 127 = .ok (.iload 5, 2) := by decide +kernel
theorem dX5_kindFor_129 : decode cX5_kindFor 129 = .ok (.ifCond .eq 10, 3) := by decide +kernel
theorem dX5_kindFor_132 : decode cX5_kindFor 132 = .ok (.iload 7, 2) := by decide +kernel
theorem dX5_kindFor_134 : decode cX5_kindFor 134 = .ok (.iload 4, 2) := by decide +kernel
theorem dX5_kindFor_136 : decode cX5_kindFor 136 = .ok (.if_icmp .le 10, 3) := by decide +kernel
theorem dX5_kindFor_139 : decode cX5_kindFor 139 = .ok (.iload 5, 2) := by decide +kernel
theorem dX5_kindFor_141 : decode cX5_kindFor 141 = .ok (.istore_n 3, 1) := by decide +kernel
theorem dX5_kindFor_142 : decode cX5_kindFor 142 = .ok (.iload 7, 2) := by decide +kernel
theorem dX5_kindFor_144 : decode cX5_kindFor 144 = .ok (.istore 4, 2) := by decide +kernel
theorem dX5_kindFor_146 : decode cX5_kindFor 146 = .ok (.iinc 5 1, 3) := by decide +kernel
theorem dX5_kindFor_149 : decode cX5_kindFor 149 = .ok (.goto (-104), 3) := by decide +kernel
theorem dX5_kindFor_152 : decode cX5_kindFor 152 = .ok (.iload_n 3, 1) := by decide +kernel
theorem dX5_kindFor_153 : decode cX5_kindFor 153 = .ok (.ireturn, 1) := by decide +kernel
set_option maxRecDepth 20000 in
theorem ggX5_temptation_X5_isSide : GoodIn wsX5_temptation wsX5_isSide := goodIn_r _ [7, 8, 9, 6, 10] (by decide +kernel) (by decide +kernel)
set_option maxRecDepth 20000 in
theorem gX5_temptation_X5_isSide : GoodIn wsX5_temptation (va_wsS RX5 65 yX5_isSide wsX5_isSide) := goodIn_app (goodIn_of _ (by decide +kernel)) ggX5_temptation_X5_isSide
set_option maxRecDepth 20000 in
theorem ggX5_temptation_X5_isIn : GoodIn wsX5_temptation wsX5_isIn := goodIn_r _ [10] (by decide +kernel) (by decide +kernel)
set_option maxRecDepth 20000 in
theorem gX5_temptation_X5_isIn : GoodIn wsX5_temptation (va_wsS RX5 68 yX5_isIn wsX5_isIn) := goodIn_app (goodIn_of _ (by decide +kernel)) ggX5_temptation_X5_isIn
set_option maxRecDepth 20000 in
theorem ggX5_temptation_X5_finding : GoodIn wsX5_temptation wsX5_finding := goodIn_r _ [14, 15, 16, 114, 115, 116, 117, 118, 119, 120] (by decide +kernel) (by decide +kernel)
set_option maxRecDepth 20000 in
theorem gX5_temptation_X5_finding : GoodIn wsX5_temptation (wsV RX5 55 RX5 yX5_finding wsX5_finding) := goodIn_app (goodIn_of _ (by decide +kernel)) ggX5_temptation_X5_finding
set_option maxRecDepth 20000 in
theorem ggX5_temptation_X5_isTooLate : GoodIn wsX5_temptation wsX5_isTooLate := goodIn_r _ [20, 2, 3, 21, 114, 115, 116, 117, 118, 119, 120, 121, 122, 123, 124, 125, 126, 127, 128, 129, 130, 131, 132, 133, 134] (by decide +kernel) (by decide +kernel)
set_option maxRecDepth 20000 in
theorem gX5_temptation_X5_isTooLate : GoodIn wsX5_temptation (wsV RX5 136 RX5 yX5_isTooLate wsX5_isTooLate) := goodIn_app (goodIn_of _ (by decide +kernel)) ggX5_temptation_X5_isTooLate
set_option maxRecDepth 20000 in
theorem ggX5_temptation_X1_copyFrom : GoodIn wsX5_temptation wsX1_copyFrom := goodIn_r _ [26, 27, 28, 29, 30, 31, 32, 33, 34, 35, 36, 37, 38, 39, 40, 125, 126, 127, 128, 129, 130, 131, 132, 133, 134] (by decide +kernel) (by decide +kernel)
set_option maxRecDepth 20000 in
theorem gX5_temptation_X1_copyFrom : GoodIn wsX5_temptation (wsV RX5 161 RX1 yX1_copyFrom wsX1_copyFrom) := goodIn_app (goodIn_of _ (by decide +kernel)) ggX5_temptation_X1_copyFrom
set_option maxRecDepth 20000 in
theorem ggX5_temptation_X1_bringHome : GoodIn wsX5_temptation wsX1_bringHome := goodIn_r _ [44, 33, 45, 46, 47, 25, 48, 32, 49, 50, 51, 52, 125, 126, 127, 128, 129, 130, 131, 132, 133, 134] (by decide +kernel) (by decide +kernel)
set_option maxRecDepth 20000 in
theorem gX5_temptation_X1_bringHome : GoodIn wsX5_temptation (wsV RX5 124 RX1 yX1_bringHome wsX1_bringHome) := goodIn_app (goodIn_of _ (by decide +kernel)) ggX5_temptation_X1_bringHome
set_option maxRecDepth 20000 in
theorem ggX5_temptation_X1_wealth : GoodIn wsX5_temptation wsX1_wealth := goodIn_r _ [56, 32, 33, 57, 58, 59, 25, 60, 34, 27, 37, 125, 126, 127, 128, 129, 130, 131, 132, 133, 134] (by decide +kernel) (by decide +kernel)
set_option maxRecDepth 20000 in
theorem gX5_temptation_X1_wealth : GoodIn wsX5_temptation (wsV RX5 171 RX1 yX1_wealth wsX1_wealth) := goodIn_app (goodIn_of _ (by decide +kernel)) ggX5_temptation_X1_wealth
set_option maxRecDepth 20000 in
theorem ggX5_temptation_X1_passNights : GoodIn wsX5_temptation wsX1_passNights := goodIn_r _ [64, 65, 66, 67, 25, 68, 38, 69, 70, 71, 72, 36, 73, 74, 75, 76, 33, 77, 78, 79, 80, 35, 81, 82, 83, 84, 57, 58, 59, 60, 34, 27, 37, 85, 86, 87, 88, 89, 90, 91, 92, 39, 93, 42, 43, 44, 45, 46, 47, 48, 32, 49, 50, 51, 52, 94, 95, 96, 97, 98, 99, 100, 101, 102, 103, 104, 105, 106, 107, 108, 109, 40, 110, 111, 112, 113, 125, 126, 127, 128, 129, 130, 131, 132, 133, 134] (by decide +kernel) (by decide +kernel)
set_option maxRecDepth 20000 in
theorem gX5_temptation_X1_passNights : GoodIn wsX5_temptation (wsV RX5 165 RX1 yX1_passNights wsX1_passNights) := goodIn_app (goodIn_of _ (by decide +kernel)) ggX5_temptation_X1_passNights
theorem dX5_temptation_0 : decode cX5_temptation 0 = .ok (.iload_n 1, 1) := by decide +kernel
theorem dX5_temptation_1 : decode cX5_temptation 1 = .ok (.invokestatic 65, 3) := by decide +kernel
theorem dX5_temptation_4 : decode cX5_temptation 4 = .ok (.ifCond .eq 13, 3) := by decide +kernel
theorem dX5_temptation_7 : decode cX5_temptation 7 = .ok (.iload_n 2, 1) := by decide +kernel
theorem dX5_temptation_8 : decode cX5_temptation 8 = .ok (.iconst 1, 1) := by decide +kernel
theorem dX5_temptation_9 : decode cX5_temptation 9 = .ok (.bipush 60, 2) := by decide +kernel
theorem dX5_temptation_11 : decode cX5_temptation 11 = .ok (.invokestatic 68, 3) := by decide +kernel
theorem dX5_temptation_14 : decode cX5_temptation 14 = .ok (.ifCond .ne 9, 3) := by decide +kernel
theorem dX5_temptation_17 : decode cX5_temptation 17 = .ok (.aload_n 0, 1) := by decide +kernel
theorem dX5_temptation_18 : decode cX5_temptation 18 = .ok (.iconst 0, 1) := by decide +kernel
theorem dX5_temptation_19 : decode cX5_temptation 19 = .ok (.invokevirtual 55, 3) := by decide +kernel
theorem dX5_temptation_22 : decode cX5_temptation 22 = .ok (.ireturn, 1) := by decide +kernel
theorem dX5_temptation_23 : decode cX5_temptation 23 = .ok (.aload_n 0, 1) := by decide +kernel
theorem dX5_temptation_24 : decode cX5_temptation 24 = .ok (.iload_n 2, 1) := by decide +kernel
theorem dX5_temptation_25 : decode cX5_temptation 25 = .ok (.invokevirtual 136, 3) := by decide +kernel
theorem dX5_temptation_28 : decode cX5_temptation 28 = .ok (.ifCond .eq 9, 3) := by decide +kernel
theorem dX5_temptation_31 : decode cX5_temptation 31 = .ok (.aload_n 0, 1) := by decide +kernel
theorem dX5_temptation_32 : decode cX5_temptation 32 = .ok (.iconst 4, 1) := by decide +kernel
theorem dX5_temptation_33 : decode cX5_temptation 33 = .ok (.invokevirtual 55, 3) := by decide +kernel
theorem dX5_temptation_36 : decode cX5_temptation 36 = .ok (.ireturn, 1) := by decide +kernel
theorem dX5_temptation_37 : decode cX5_temptation 37 = .ok (.aload_n 0, 1) := by decide +kernel
theorem dX5_temptation_38 : decode cX5_temptation 38 = .ok (.getfield 26, 3) := by decide +kernel
theorem dX5_temptation_41 : decode cX5_temptation 41 = .ok (.aload_n 0, 1) := by decide +kernel
theorem dX5_temptation_42 : decode cX5_temptation 42 = .ok (.getfield 10, 3) := by decide +kernel
theorem dX5_temptation_45 : decode cX5_temptation 45 = .ok (.getfield 59, 3) := by decide +kernel
theorem dX5_temptation_48 : decode cX5_temptation 48 = .ok (.invokevirtual 161, 3) := by decide +kernel
theorem dX5_temptation_51 : decode cX5_temptation 51 = .ok (.aload_n 0, 1) := by decide +kernel
theorem dX5_temptation_52 : decode cX5_temptation 52 = .ok (.getfield 26, 3) := by decide +kernel
theorem dX5_temptation_55 : decode cX5_temptation 55 = .ok (.iconst 1, 1) := by decide +kernel
theorem dX5_temptation_56 : decode cX5_temptation 56 = .ok (.iload_n 1, 1) := by decide +kernel
theorem dX5_temptation_57 : decode cX5_temptation 57 = .ok (.isub, 1) := by decide +kernel
theorem dX5_temptation_58 : decode cX5_temptation 58 = .ok (.iload_n 1, 1) := by decide +kernel
theorem dX5_temptation_59 : decode cX5_temptation 59 = .ok (.invokevirtual 124, 3) := by decide +kernel
theorem dX5_temptation_62 : decode cX5_temptation 62 = .ok (.aload_n 0, 1) := by decide +kernel
theorem dX5_temptation_63 : decode cX5_temptation 63 = .ok (.getfield 26, 3) := by decide +kernel
theorem dX5_temptation_66 : decode cX5_temptation 66 = .ok (.iload_n 1, 1) := by decide +kernel
theorem dX5_temptation_67 : decode cX5_temptation 67 = .ok (.invokevirtual 171, 3) := by decide +kernel
theorem dX5_temptation_70 : decode cX5_temptation 70 = .ok (.istore_n 3, 1) := by decide +kernel
theorem dX5_temptation_71 : decode cX5_temptation 71 = .ok (.aload_n 0, 1) := by decide +kernel
theorem dX5_temptation_72 : decode cX5_temptation 72 = .ok (.getfield 26, 3) := by decide +kernel
theorem dX5_temptation_75 : decode cX5_temptation 75 = .ok (.aload_n 0, 1) := by decide +kernel
theorem dX5_temptation_76 : decode cX5_temptation 76 = .ok (.getfield 10, 3) := by decide +kernel
theorem dX5_temptation_79 : decode cX5_temptation 79 = .ok (.getfield 59, 3) := by decide +kernel
theorem dX5_temptation_82 : decode cX5_temptation 82 = .ok (.invokevirtual 161, 3) := by decide +kernel
theorem dX5_temptation_85 : decode cX5_temptation 85 = .ok (.aload_n 0, 1) := by decide +kernel
theorem dX5_temptation_86 : decode cX5_temptation 86 = .ok (.getfield 26, 3) := by decide +kernel
theorem dX5_temptation_89 : decode cX5_temptation 89 = .ok (.iload_n 2, 1) := by decide +kernel
theorem dX5_temptation_90 : decode cX5_temptation 90 = .ok (.invokevirtual 165, 3) := by decide +kernel
theorem dX5_temptation_93 : decode cX5_temptation 93 = .ok (.pop, 1) := by decide +kernel
theorem dX5_temptation_94 : decode cX5_temptation 94 = .ok (.iload_n 3, 1) := by decide +kernel
theorem dX5_temptation_95 : decode cX5_temptation 95 = .ok (.aload_n 0, 1) := by decide +kernel
theorem dX5_temptation_96 : decode cX5_temptation 96 = .ok (.getfield 26, 3) := by decide +kernel
theorem dX5_temptation_99 : decode cX5_temptation 99 = .ok (.iload_n 1, 1) := by decide +kernel
theorem dX5_temptation_100 : decode cX5_temptation 100 = .ok (.invokevirtual 171, 3) := by decide +kernel
theorem dX5_temptation_103 : decode cX5_temptation 103 = .ok (.isub, 1) := by decide +kernel
theorem dX5_temptation_104 : decode cX5_temptation 104 = .ok (.ireturn, 1) := by decide +kernel
set_option maxRecDepth 20000 in
theorem ggX5_bundle_X5_bundleGains : GoodIn wsX5_bundle wsX5_bundleGains := goodIn_r _ [5, 6, 7, 8, 9, 10, 11, 12, 13, 14, 15, 16, 23, 24, 25, 26, 27, 28, 29, 30, 31, 32, 33, 34, 35, 36, 37, 38, 39, 40, 41, 42, 43] (by decide +kernel) (by decide +kernel)
set_option maxRecDepth 20000 in
theorem gX5_bundle_X5_bundleGains : GoodIn wsX5_bundle (wsV RX5 181 RX5 yX5_bundleGains wsX5_bundleGains) := goodIn_app (goodIn_of _ (by decide +kernel)) ggX5_bundle_X5_bundleGains
set_option maxRecDepth 20000 in
theorem ggX5_bundle_X5_finding : GoodIn wsX5_bundle wsX5_finding := goodIn_r _ [20, 21, 22, 23, 24, 25, 26, 27, 28, 29] (by decide +kernel) (by decide +kernel)
set_option maxRecDepth 20000 in
theorem gX5_bundle_X5_finding : GoodIn wsX5_bundle (wsV RX5 55 RX5 yX5_finding wsX5_finding) := goodIn_app (goodIn_of _ (by decide +kernel)) ggX5_bundle_X5_finding
theorem dX5_bundle_0 : decode cX5_bundle 0 = .ok (.iconst (-1), 1) := by decide +kernel
theorem dX5_bundle_1 : decode cX5_bundle 1 = .ok (.istore_n 1, 1) := by decide +kernel
theorem dX5_bundle_2 : decode cX5_bundle 2 = .ok (.iconst 0, 1) := by decide +kernel
theorem dX5_bundle_3 : decode cX5_bundle 3 = .ok (.istore_n 2, 1) := by decide +kernel
theorem dX5_bundle_4 : decode cX5_bundle 4 = .ok (.iconst 0, 1) := by decide +kernel
theorem dX5_bundle_5 : decode cX5_bundle 5 = .ok (.istore_n 3, 1) := by decide +kernel
theorem dX5_bundle_6 : decode cX5_bundle 6 = .ok (.iload_n 3, 1) := by decide +kernel
theorem dX5_bundle_7 : decode cX5_bundle 7 = .ok (.iconst 5, 1) := by decide +kernel
theorem dX5_bundle_8 : decode cX5_bundle 8 = .ok (.if_icmp .ge 50, 3) := by decide +kernel
theorem dX5_bundle_11 : decode cX5_bundle 11 = .ok (.iconst 0, 1) := by decide +kernel
theorem dX5_bundle_12 : decode cX5_bundle 12 = .ok (.istore 4, 2) := by decide +kernel
theorem dX5_bundle_14 : decode cX5_bundle 14 = .ok (.iload 4, 2) := by decide +kernel
theorem dX5_bundle_16 : decode cX5_bundle 16 = .ok (.iconst 5, 1) := by decide +kernel
theorem dX5_bundle_17 : decode cX5_bundle 17 = .ok (.if_icmp .ge 35, 3) := by decide +kernel
theorem dX5_bundle_20 : decode cX5_bundle 20 = .ok (.aload_n 0, 1) := by decide +kernel
theorem dX5_bundle_21 : decode cX5_bundle 21 = .ok (.iload_n 3, 1) := by decide +kernel
theorem dX5_bundle_22 : decode cX5_bundle 22 = .ok (.iload 4, 2) := by decide +kernel
theorem dX5_bundle_24 : decode cX5_bundle 24 = .ok (.invokevirtual 181, 3) := by decide +kernel
theorem dX5_bundle_27 : decode cX5_bundle 27 = .ok (.istore 5, 2) := by decide +kernel
theorem dX5_bundle_29 : decode cX5_bundle 29 = .ok (.iload 5, 2) := by decide +kernel
theorem dX5_bundle_31 : decode cX5_bundle 31 = .ok (.iload_n 2, 1) := by decide +kernel
theorem dX5_bundle_32 : decode cX5_bundle 32 = .ok (.if_icmp .le 14, 3) := by decide +kernel
theorem dX5_bundle_35 : decode cX5_bundle 35 = .ok (.iload 5, 2) := by decide +kernel
theorem dX5_bundle_37 : decode cX5_bundle 37 = .ok (.istore_n 2, 1) := by decide +kernel
theorem dX5_bundle_38 : decode cX5_bundle 38 = .ok (.bipush 10, 2) := by decide +kernel
theorem dX5_bundle_40 : decode cX5_bundle 40 = .ok (.iload_n 3, 1) := by decide +kernel
theorem dX5_bundle_41 : decode cX5_bundle 41 = .ok (.imul, 1) := by decide +kernel
theorem dX5_bundle_42 : decode cX5_bundle 42 = .ok (.iload 4, 2) := by decide +kernel
theorem dX5_bundle_44 : decode cX5_bundle 44 = .ok (.iadd, 1) := by decide +kernel
theorem dX5_bundle_45 : decode cX5_bundle 45 = .ok (.istore_n 1, 1) := by decide +kernel
theorem dX5_bundle_46 : decode cX5_bundle 46 = .ok (.iinc 4 1, 3) := by decide +kernel
theorem dX5_bundle_49 : decode cX5_bundle 49 = .ok (.goto (-35), 3) := by decide +kernel
theorem dX5_bundle_52 : decode cX5_bundle 52 = .ok (.iinc 3 1, 3) := by decide +kernel
theorem dX5_bundle_55 : decode cX5_bundle 55 = .ok (.goto (-49), 3) := by decide +kernel
theorem dX5_bundle_58 : decode cX5_bundle 58 = .ok (.iload_n 1, 1) := by decide +kernel
theorem dX5_bundle_59 : decode cX5_bundle 59 = .ok (.ifCond .ge 11, 3) := by decide +kernel
theorem dX5_bundle_62 : decode cX5_bundle 62 = .ok (.aload_n 0, 1) := by decide +kernel
theorem dX5_bundle_63 : decode cX5_bundle 63 = .ok (.iconst 3, 1) := by decide +kernel
theorem dX5_bundle_64 : decode cX5_bundle 64 = .ok (.invokevirtual 55, 3) := by decide +kernel
theorem dX5_bundle_67 : decode cX5_bundle 67 = .ok (.goto 4, 3) := by decide +kernel
theorem dX5_bundle_70 : decode cX5_bundle 70 = .ok (.iload_n 1, 1) := by decide +kernel
theorem dX5_bundle_71 : decode cX5_bundle 71 = .ok (.ireturn, 1) := by decide +kernel
set_option maxRecDepth 20000 in
theorem ggX5_book_X5_isIn : GoodIn wsX5_book wsX5_isIn := goodIn_r _ [7] (by decide +kernel) (by decide +kernel)
set_option maxRecDepth 20000 in
theorem gX5_book_X5_isIn : GoodIn wsX5_book (va_wsS RX5 68 yX5_isIn wsX5_isIn) := goodIn_app (goodIn_of _ (by decide +kernel)) ggX5_book_X5_isIn
set_option maxRecDepth 20000 in
theorem ggX5_book_X5_finding : GoodIn wsX5_book wsX5_finding := goodIn_r _ [11, 12, 13, 25, 26, 27, 28, 29, 30, 31] (by decide +kernel) (by decide +kernel)
set_option maxRecDepth 20000 in
theorem gX5_book_X5_finding : GoodIn wsX5_book (wsV RX5 55 RX5 yX5_finding wsX5_finding) := goodIn_app (goodIn_of _ (by decide +kernel)) ggX5_book_X5_finding
set_option maxRecDepth 20000 in
theorem ggX5_book_X0_latest : GoodIn wsX5_book wsX0_latest := goodIn_r _ [18, 19, 20, 21, 22, 23, 24, 36, 37, 38] (by decide +kernel) (by decide +kernel)
set_option maxRecDepth 20000 in
theorem gX5_book_X0_latest : GoodIn wsX5_book (wsV RX5 184 RX0 yX0_latest wsX0_latest) := goodIn_app (goodIn_of _ (by decide +kernel)) ggX5_book_X0_latest
theorem dX5_book_0 : decode cX5_book 0 = .ok (.iload_n 1, 1) := by decide +kernel
theorem dX5_book_1 : decode cX5_book 1 = .ok (.ifCond .lt 13, 3) := by decide +kernel
theorem dX5_book_4 : decode cX5_book 4 = .ok (.iload_n 2, 1) := by decide +kernel
theorem dX5_book_5 : decode cX5_book 5 = .ok (.iconst 0, 1) := by decide +kernel
theorem dX5_book_6 : decode cX5_book 6 = .ok (.bipush 6, 2) := by decide +kernel
theorem dX5_book_8 : decode cX5_book 8 = .ok (.invokestatic 68, 3) := by decide +kernel
theorem dX5_book_11 : decode cX5_book 11 = .ok (.ifCond .ne 9, 3) := by decide +kernel
theorem dX5_book_14 : decode cX5_book 14 = .ok (.aload_n 0, 1) := by decide +kernel
theorem dX5_book_15 : decode cX5_book 15 = .ok (.iconst 0, 1) := by decide +kernel
theorem dX5_book_16 : decode cX5_book 16 = .ok (.invokevirtual 55, 3) := by decide +kernel
theorem dX5_book_19 : decode cX5_book 19 = .ok (.ireturn, 1) := by decide +kernel
theorem dX5_book_20 : decode cX5_book 20 = .ok (.iload_n 1, 1) := by decide +kernel
theorem dX5_book_21 : decode cX5_book 21 = .ok (.aload_n 0, 1) := by decide +kernel
theorem dX5_book_22 : decode cX5_book 22 = .ok (.getfield 10, 3) := by decide +kernel
theorem dX5_book_25 : decode cX5_book 25 = .ok (.getfield 149, 3) := by decide +kernel
theorem dX5_book_28 : decode cX5_book 28 = .ok (.getfield 153, 3) := by decide +kernel
theorem dX5_book_31 : decode cX5_book 31 = .ok (.if_icmp .lt 9, 3) := by decide +kernel
theorem dX5_book_34 : decode cX5_book 34 = .ok (.aload_n 0, 1) := by decide +kernel
theorem dX5_book_35 : decode cX5_book 35 = .ok (.iconst 3, 1) := by decide +kernel
theorem dX5_book_36 : decode cX5_book 36 = .ok (.invokevirtual 55, 3) := by decide +kernel
theorem dX5_book_39 : decode cX5_book 39 = .ok (.ireturn, 1) := by decide +kernel
theorem dX5_book_40 : decode cX5_book 40 = .ok (.aload_n 0, 1) := by decide +kernel
theorem dX5_book_41 : decode cX5_book 41 = .ok (.getfield 10, 3) := by decide +kernel
theorem dX5_book_44 : decode cX5_book 44 = .ok (.getfield 149, 3) := by decide +kernel
theorem dX5_book_47 : decode cX5_book 47 = .ok (.iload_n 1, 1) := by decide +kernel
theorem dX5_book_48 : decode cX5_book 48 = .ok (.invokevirtual 184, 3) := by decide +kernel
theorem dX5_book_51 : decode cX5_book 51 = .ok (.astore_n 3, 1) := by decide +kernel
theorem dX5_book_52 : decode cX5_book 52 = .ok (.iload_n 2, 1) := by decide +kernel
theorem dX5_book_53 : decode cX5_book 53 = .ok (.lookupswitch 37 #[(0, 27), (1, 32)], 27) := by decide +kernel
theorem dX5_book_80 : decode cX5_book 80 = .ok (.aload_n 3, 1) := by decide +kernel
theorem dX5_book_81 : decode cX5_book 81 = .ok (.bipush 13, 2) := by decide +kernel
theorem dX5_book_83 : decode cX5_book 83 = .ok (.iaload, 1) := by decide +kernel
theorem dX5_book_84 : decode cX5_book 84 = .ok (.ireturn, 1) := by decide +kernel
theorem dX5_book_85 : decode cX5_book 85 = .ok (.aload_n 3, 1) := by decide +kernel
theorem dX5_book_86 : decode cX5_book 86 = .ok (.bipush 12, 2) := by decide +kernel
theorem dX5_book_88 : decode cX5_book 88 = .ok (.iaload, 1) := by decide +kernel
theorem dX5_book_89 : decode cX5_book 89 = .ok (.ireturn, 1) := by decide +kernel
theorem dX5_book_90 : decode cX5_book 90 = .ok (.aload_n 3, 1) := by decide +kernel
theorem dX5_book_91 : decode cX5_book 91 = .ok (.aload_n 3, 1) := by decide +kernel
theorem dX5_book_92 : decode cX5_book 92 = .ok (.bipush 12, 2) := by decide +kernel
theorem dX5_book_94 : decode cX5_book 94 = .ok (.iaload, 1) := by decide +kernel
theorem dX5_book_95 : decode cX5_book 95 = .ok (.iconst 5, 1) := by decide +kernel
theorem dX5_book_96 : decode cX5_book 96 = .ok (.imul, 1) := by decide +kernel
theorem dX5_book_97 : decode cX5_book 97 = .ok (.iload_n 2, 1) := by decide +kernel
theorem dX5_book_98 : decode cX5_book 98 = .ok (.iadd, 1) := by decide +kernel
theorem dX5_book_99 : decode cX5_book 99 = .ok (.iconst 2, 1) := by decide +kernel
theorem dX5_book_100 : decode cX5_book 100 = .ok (.isub, 1) := by decide +kernel
theorem dX5_book_101 : decode cX5_book 101 = .ok (.iaload, 1) := by decide +kernel
theorem dX5_book_102 : decode cX5_book 102 = .ok (.ireturn, 1) := by decide +kernel
set_option maxRecDepth 20000 in
theorem ggX5_fits_X5_isSide : GoodIn wsX5_fits wsX5_isSide := goodIn_r _ [4, 5, 6, 3, 7] (by decide +kernel) (by decide +kernel)
set_option maxRecDepth 20000 in
theorem gX5_fits_X5_isSide : GoodIn wsX5_fits (va_wsS RX5 65 yX5_isSide wsX5_isSide) := goodIn_app (goodIn_of _ (by decide +kernel)) ggX5_fits_X5_isSide
set_option maxRecDepth 20000 in
theorem ggX5_fits_X5_isThing : GoodIn wsX5_fits wsX5_isThing := goodIn_r _ [10, 5, 6, 3, 7] (by decide +kernel) (by decide +kernel)
set_option maxRecDepth 20000 in
theorem gX5_fits_X5_isThing : GoodIn wsX5_fits (va_wsS RX5 48 yX5_isThing wsX5_isThing) := goodIn_app (goodIn_of _ (by decide +kernel)) ggX5_fits_X5_isThing
set_option maxRecDepth 20000 in
theorem ggX5_fits_X5_finding : GoodIn wsX5_fits wsX5_finding := goodIn_r _ [14, 15, 16, 85, 86, 87, 88, 89, 90, 91] (by decide +kernel) (by decide +kernel)
set_option maxRecDepth 20000 in
theorem gX5_fits_X5_finding : GoodIn wsX5_fits (wsV RX5 55 RX5 yX5_finding wsX5_finding) := goodIn_app (goodIn_of _ (by decide +kernel)) ggX5_fits_X5_finding
set_option maxRecDepth 20000 in
theorem ggX5_fits_X5_fittingWorths : GoodIn wsX5_fits wsX5_fittingWorths := goodIn_r _ [20, 21, 22, 23, 24, 25, 26, 27, 28, 29, 30, 31, 32, 33, 34, 35, 36, 37, 38, 39, 40, 41, 42, 43, 44, 45, 46, 3, 47, 48, 49, 50, 51, 52, 53, 54, 55, 56, 57, 58, 59, 60, 61, 62, 63, 64, 65, 66, 67, 68, 69, 70, 71, 72, 73, 74, 75, 76, 77, 78, 79, 80, 81, 82, 83, 84, 85, 86, 87, 88, 89, 90, 91, 92, 93, 94, 95, 96, 97, 98, 99, 100, 101, 102, 103, 104, 105, 106, 107, 108] (by decide +kernel) (by decide +kernel)
set_option maxRecDepth 20000 in
theorem gX5_fits_X5_fittingWorths : GoodIn wsX5_fits (wsV RX5 187 RX5 yX5_fittingWorths wsX5_fittingWorths) := goodIn_app (goodIn_of _ (by decide +kernel)) ggX5_fits_X5_fittingWorths
theorem dX5_fits_0 : decode cX5_fits 0 = .ok (.iload_n 1, 1) := by decide +kernel
theorem dX5_fits_1 : decode cX5_fits 1 = .ok (.invokestatic 65, 3) := by decide +kernel
theorem dX5_fits_4 : decode cX5_fits 4 = .ok (.ifCond .eq 10, 3) := by decide +kernel
theorem dX5_fits_7 : decode cX5_fits 7 = .ok (.iload_n 2, 1) := by decide +kernel
theorem dX5_fits_8 : decode cX5_fits 8 = .ok (.invokestatic 48, 3) := by decide +kernel
theorem dX5_fits_11 : decode cX5_fits 11 = .ok (.ifCond .ne 9, 3) := by decide +kernel
theorem dX5_fits_14 : decode cX5_fits 14 = .ok (.aload_n 0, 1) := by decide +kernel
theorem dX5_fits_15 : decode cX5_fits 15 = .ok (.iconst 0, 1) := by decide +kernel
theorem dX5_fits_16 : decode cX5_fits 16 = .ok (.invokevirtual 55, 3) := by decide +kernel
theorem dX5_fits_19 : decode cX5_fits 19 = .ok (.ireturn, 1) := by decide +kernel
theorem dX5_fits_20 : decode cX5_fits 20 = .ok (.aload_n 0, 1) := by decide +kernel
theorem dX5_fits_21 : decode cX5_fits 21 = .ok (.iload_n 1, 1) := by decide +kernel
theorem dX5_fits_22 : decode cX5_fits 22 = .ok (.iload_n 2, 1) := by decide +kernel
theorem dX5_fits_23 : decode cX5_fits 23 = .ok (.invokevirtual 187, 3) := by decide +kernel
theorem dX5_fits_26 : decode cX5_fits 26 = .ok (.ireturn, 1) := by decide +kernel
set_option maxRecDepth 20000 in
theorem ggX5_greeds_X5_isSide : GoodIn wsX5_greeds wsX5_isSide := goodIn_r _ [8, 9, 10, 7, 11] (by decide +kernel) (by decide +kernel)
set_option maxRecDepth 20000 in
theorem gX5_greeds_X5_isSide : GoodIn wsX5_greeds (va_wsS RX5 65 yX5_isSide wsX5_isSide) := goodIn_app (goodIn_of _ (by decide +kernel)) ggX5_greeds_X5_isSide
set_option maxRecDepth 20000 in
theorem ggX5_greeds_X5_finding : GoodIn wsX5_greeds wsX5_finding := goodIn_r _ [15, 16, 17, 78, 79, 80, 81, 82, 83, 84] (by decide +kernel) (by decide +kernel)
set_option maxRecDepth 20000 in
theorem gX5_greeds_X5_finding : GoodIn wsX5_greeds (wsV RX5 55 RX5 yX5_finding wsX5_finding) := goodIn_app (goodIn_of _ (by decide +kernel)) ggX5_greeds_X5_finding
set_option maxRecDepth 20000 in
theorem ggX5_greeds_X1_copyFrom : GoodIn wsX5_greeds wsX1_copyFrom := goodIn_r _ [22, 23, 24, 25, 26, 27, 28, 29, 30, 31, 32, 33, 34, 35, 36, 89, 90, 91, 92, 93, 94, 95, 96, 97, 98] (by decide +kernel) (by decide +kernel)
set_option maxRecDepth 20000 in
theorem gX5_greeds_X1_copyFrom : GoodIn wsX5_greeds (wsV RX5 161 RX1 yX1_copyFrom wsX1_copyFrom) := goodIn_app (goodIn_of _ (by decide +kernel)) ggX5_greeds_X1_copyFrom
set_option maxRecDepth 20000 in
theorem ggX5_greeds_X5_trialAgreesWithBooks : GoodIn wsX5_greeds wsX5_trialAgreesWithBooks := goodIn_r _ [40, 2, 41, 42, 1, 43, 44, 45, 46, 47, 48, 49, 50, 51, 52, 53, 54, 55, 56, 21, 57, 29, 24, 25, 26, 27, 33, 32, 58, 59, 60, 61, 62, 63, 64, 65, 66, 67, 68, 69, 31, 70, 71, 72, 73, 74, 75, 76, 77, 30, 23, 78, 79, 80, 81, 82, 83, 84, 85, 86, 87, 88, 99, 100, 101, 89, 90, 91, 92, 93, 94, 95, 96, 97, 98] (by decide +kernel) (by decide +kernel)
set_option maxRecDepth 20000 in
theorem gX5_greeds_X5_trialAgreesWithBooks : GoodIn wsX5_greeds (wsV RX5 190 RX5 yX5_trialAgreesWithBooks wsX5_trialAgreesWithBooks) := goodIn_app (goodIn_of _ (by decide +kernel)) ggX5_greeds_X5_trialAgreesWithBooks
theorem dX5_greeds_0 : decode cX5_greeds 0 = .ok (.iload_n 1, 1) := by decide +kernel
theorem dX5_greeds_1 : decode cX5_greeds 1 = .ok (.invokestatic 65, 3) := by decide +kernel
theorem dX5_greeds_4 : decode cX5_greeds 4 = .ok (.ifCond .ne 9, 3) := by decide +kernel
theorem dX5_greeds_7 : decode cX5_greeds 7 = .ok (.aload_n 0, 1) := by decide +kernel
theorem dX5_greeds_8 : decode cX5_greeds 8 = .ok (.iconst 0, 1) := by decide +kernel
theorem dX5_greeds_9 : decode cX5_greeds 9 = .ok (.invokevirtual 55, 3) := by decide +kernel
theorem dX5_greeds_12 : decode cX5_greeds 12 = .ok (.ireturn, 1) := by decide +kernel
theorem dX5_greeds_13 : decode cX5_greeds 13 = .ok (.aload_n 0, 1) := by decide +kernel
theorem dX5_greeds_14 : decode cX5_greeds 14 = .ok (.getfield 26, 3) := by decide +kernel
theorem dX5_greeds_17 : decode cX5_greeds 17 = .ok (.aload_n 0, 1) := by decide +kernel
theorem dX5_greeds_18 : decode cX5_greeds 18 = .ok (.getfield 10, 3) := by decide +kernel
theorem dX5_greeds_21 : decode cX5_greeds 21 = .ok (.getfield 59, 3) := by decide +kernel
theorem dX5_greeds_24 : decode cX5_greeds 24 = .ok (.invokevirtual 161, 3) := by decide +kernel
theorem dX5_greeds_27 : decode cX5_greeds 27 = .ok (.iconst 0, 1) := by decide +kernel
theorem dX5_greeds_28 : decode cX5_greeds 28 = .ok (.istore_n 2, 1) := by decide +kernel
theorem dX5_greeds_29 : decode cX5_greeds 29 = .ok (.iconst 0, 1) := by decide +kernel
theorem dX5_greeds_30 : decode cX5_greeds 30 = .ok (.istore_n 3, 1) := by decide +kernel
theorem dX5_greeds_31 : decode cX5_greeds 31 = .ok (.iload_n 3, 1) := by decide +kernel
theorem dX5_greeds_32 : decode cX5_greeds 32 = .ok (.bipush 30, 2) := by decide +kernel
theorem dX5_greeds_34 : decode cX5_greeds 34 = .ok (.if_icmp .gt 33, 3) := by decide +kernel
theorem dX5_greeds_37 : decode cX5_greeds 37 = .ok (.aload_n 0, 1) := by decide +kernel
theorem dX5_greeds_38 : decode cX5_greeds 38 = .ok (.getfield 26, 3) := by decide +kernel
theorem dX5_greeds_41 : decode cX5_greeds 41 = .ok (.getfield 79, 3) := by decide +kernel
theorem dX5_greeds_44 : decode cX5_greeds 44 = .ok (.iload_n 1, 1) := by decide +kernel
theorem dX5_greeds_45 : decode cX5_greeds 45 = .ok (.iload_n 3, 1) := by decide +kernel
theorem dX5_greeds_46 : decode cX5_greeds 46 = .ok (.iastore, 1) := by decide +kernel
theorem dX5_greeds_47 : decode cX5_greeds 47 = .ok (.aload_n 0, 1) := by decide +kernel
theorem dX5_greeds_48 : decode cX5_greeds 48 = .ok (.iload_n 1, 1) := by decide +kernel
theorem dX5_greeds_49 : decode cX5_greeds 49 = .ok (.invokevirtual 190, 3) := by decide +kernel
theorem dX5_greeds_52 : decode cX5_greeds 52 = .ok (.ifCond .eq 9, 3) := by decide +kernel
theorem dX5_greeds_55 : decode cX5_greeds 55 = .ok (.iload_n 2, 1) := by decide +kernel
theorem dX5_greeds_56 : decode cX5_greeds 56 = .ok (.iconst 1, 1) := by decide +kernel
theorem dX5_greeds_57 : decode cX5_greeds 57 = .ok (.iload_n 3, 1) := by decide +kernel
theorem dX5_greeds_58 : decode cX5_greeds 58 = .ok (.ishl, 1) := by decide +kernel
theorem dX5_greeds_59 : decode cX5_greeds 59 = .ok (.ior, 1) := by decide +kernel
theorem dX5_greeds_60 : decode cX5_greeds 60 = .ok (.istore_n 2, 1) := by decide +kernel
theorem dX5_greeds_61 : decode cX5_greeds 61 = .ok (.iinc 3 1, 3) := by decide +kernel
theorem dX5_greeds_64 : decode cX5_greeds 64 = .ok (.goto (-33), 3) := by decide +kernel
theorem dX5_greeds_67 : decode cX5_greeds 67 = .ok (.iload_n 2, 1) := by decide +kernel
theorem dX5_greeds_68 : decode cX5_greeds 68 = .ok (.ireturn, 1) := by decide +kernel
set_option maxRecDepth 20000 in
theorem ggX5_known_X5_isSide : GoodIn wsX5_known wsX5_isSide := goodIn_r _ [4, 5, 6, 3, 7] (by decide +kernel) (by decide +kernel)
set_option maxRecDepth 20000 in
theorem gX5_known_X5_isSide : GoodIn wsX5_known (va_wsS RX5 65 yX5_isSide wsX5_isSide) := goodIn_app (goodIn_of _ (by decide +kernel)) ggX5_known_X5_isSide
set_option maxRecDepth 20000 in
theorem ggX5_known_X5_finding : GoodIn wsX5_known wsX5_finding := goodIn_r _ [11, 12, 13, 89, 90, 91, 92, 93, 94, 95] (by decide +kernel) (by decide +kernel)
set_option maxRecDepth 20000 in
theorem gX5_known_X5_finding : GoodIn wsX5_known (wsV RX5 55 RX5 yX5_finding wsX5_finding) := goodIn_app (goodIn_of _ (by decide +kernel)) ggX5_known_X5_finding
set_option maxRecDepth 20000 in
theorem ggX5_known_X5_fittingWorths : GoodIn wsX5_known wsX5_fittingWorths := goodIn_r _ [17, 18, 19, 20, 21, 22, 23, 24, 25, 26, 27, 28, 29, 30, 31, 32, 33, 34, 35, 36, 37, 38, 39, 40, 41, 42, 43, 3, 44, 45, 46, 47, 48, 49, 50, 51, 52, 53, 54, 55, 56, 57, 58, 59, 60, 61, 62, 63, 64, 65, 66, 67, 68, 69, 70, 71, 72, 73, 74, 75, 76, 77, 78, 79, 80, 81, 89, 90, 91, 92, 93, 94, 95, 96, 97, 98, 99, 100, 101, 102, 103, 104, 105, 106, 107, 108, 109, 110, 111, 112] (by decide +kernel) (by decide +kernel)
set_option maxRecDepth 20000 in
theorem gX5_known_X5_fittingWorths : GoodIn wsX5_known (wsV RX5 187 RX5 yX5_fittingWorths wsX5_fittingWorths) := goodIn_app (goodIn_of _ (by decide +kernel)) ggX5_known_X5_fittingWorths
set_option maxRecDepth 20000 in
theorem ggX5_known_J6_bitCount_0f7a4 : GoodIn wsX5_known wsJ6_bitCount_0f7a4 := goodIn_r _ [85, 86, 87, 88] (by decide +kernel) (by decide +kernel)
set_option maxRecDepth 20000 in
theorem gX5_known_J6_bitCount_0f7a4 : GoodIn wsX5_known (va_wsS RX5 193 yJ6_bitCount_0f7a4 wsJ6_bitCount_0f7a4) := goodIn_app (goodIn_of _ (by decide +kernel)) ggX5_known_J6_bitCount_0f7a4
theorem dX5_known_0 : decode cX5_known 0 = .ok (.iload_n 1, 1) := by decide +kernel
theorem dX5_known_1 : decode cX5_known 1 = .ok (.invokestatic 65, 3) := by decide +kernel
theorem dX5_known_4 : decode cX5_known 4 = .ok (.ifCond .ne 9, 3) := by decide +kernel
theorem dX5_known_7 : decode cX5_known 7 = .ok (.aload_n 0, 1) := by decide +kernel
theorem dX5_known_8 : decode cX5_known 8 = .ok (.iconst 0, 1) := by decide +kernel
theorem dX5_known_9 : decode cX5_known 9 = .ok (.invokevirtual 55, 3) := by decide +kernel
theorem dX5_known_12 : decode cX5_known 12 = .ok (.ireturn, 1) := by decide +kernel
theorem dX5_known_13 : decode cX5_known 13 = .ok (.iconst 0, 1) := by decide +kernel
theorem dX5_known_14 : decode cX5_known 14 = .ok (.istore_n 2, 1) := by decide +kernel
theorem dX5_known_15 : decode cX5_known 15 = .ok (.bipush 22, 2) := by decide +kernel
theorem dX5_known_17 : decode cX5_known 17 = .ok (.istore_n 3, 1) := by decide +kernel
theorem dX5_known_18 : decode cX5_known 18 = .ok (.iconst 0, 1) := by decide +kernel
theorem dX5_known_19 : decode cX5_known 19 = .ok (.istore 4, 2) := by decide +kernel
theorem dX5_known_21 : decode cX5_known 21 = .ok (.iload 4, 2) := by decide +kernel
theorem dX5_known_23 : decode cX5_known 23 = .ok (.iconst 5, 1) := by decide +kernel
theorem dX5_known_24 : decode cX5_known 24 = .ok (.if_icmp .ge 33, 3) := by decide +kernel
theorem dX5_known_27 : decode cX5_known 27 = .ok (.aload_n 0, 1) := by decide +kernel
theorem dX5_known_28 : decode cX5_known 28 = .ok (.iload_n 1, 1) := by decide +kernel
theorem dX5_known_29 : decode cX5_known 29 = .ok (.iload 4, 2) := by decide +kernel
theorem dX5_known_31 : decode cX5_known 31 = .ok (.invokevirtual 187, 3) := by decide +kernel
theorem dX5_known_34 : decode cX5_known 34 = .ok (.invokestatic 193, 3) := by decide +kernel
theorem dX5_known_37 : decode cX5_known 37 = .ok (.istore 5, 2) := by decide +kernel
theorem dX5_known_39 : decode cX5_known 39 = .ok (.iload 5, 2) := by decide +kernel
theorem dX5_known_41 : decode cX5_known 41 = .ok (.iload_n 3, 1) := by decide +kernel
theorem dX5_known_42 : decode cX5_known 42 = .ok (.if_icmp .ge 9, 3) := by decide +kernel
theorem dX5_known_45 : decode cX5_known 45 = .ok (.iload 4, 2) := by decide +kernel
theorem dX5_known_47 : decode cX5_known 47 = .ok (.istore_n 2, 1) := by decide +kernel
theorem dX5_known_48 : decode cX5_known 48 = .ok (.iload 5, 2) := by decide +kernel
theorem dX5_known_50 : decode cX5_known 50 = .ok (.istore_n 3, 1) := by decide +kernel
theorem dX5_known_51 : decode cX5_known 51 = .ok (.iinc 4 1, 3) := by decide +kernel
theorem dX5_known_54 : decode cX5_known 54 = .ok (.goto (-33), 3) := by decide +kernel
theorem dX5_known_57 : decode cX5_known 57 = .ok (.iload_n 2, 1) := by decide +kernel
theorem dX5_known_58 : decode cX5_known 58 = .ok (.ireturn, 1) := by decide +kernel
set_option maxRecDepth 20000 in
theorem ggX5_season_X5_isIn : GoodIn wsX5_season wsX5_isIn := goodIn_r _ [7] (by decide +kernel) (by decide +kernel)
set_option maxRecDepth 20000 in
theorem gX5_season_X5_isIn : GoodIn wsX5_season (va_wsS RX5 68 yX5_isIn wsX5_isIn) := goodIn_app (goodIn_of _ (by decide +kernel)) ggX5_season_X5_isIn
set_option maxRecDepth 20000 in
theorem ggX5_season_X5_finding : GoodIn wsX5_season wsX5_finding := goodIn_r _ [11, 12, 13, 130, 131, 132, 133, 134, 135, 136] (by decide +kernel) (by decide +kernel)
set_option maxRecDepth 20000 in
theorem gX5_season_X5_finding : GoodIn wsX5_season (wsV RX5 55 RX5 yX5_finding wsX5_finding) := goodIn_app (goodIn_of _ (by decide +kernel)) ggX5_season_X5_finding
set_option maxRecDepth 20000 in
theorem ggX5_season_X5_isTooLate : GoodIn wsX5_season wsX5_isTooLate := goodIn_r _ [17, 1, 2, 18, 130, 131, 132, 133, 134, 135, 136, 137, 138, 139, 140, 141, 142, 143, 144, 145, 146, 147, 148, 149, 150] (by decide +kernel) (by decide +kernel)
set_option maxRecDepth 20000 in
theorem gX5_season_X5_isTooLate : GoodIn wsX5_season (wsV RX5 136 RX5 yX5_isTooLate wsX5_isTooLate) := goodIn_app (goodIn_of _ (by decide +kernel)) ggX5_season_X5_isTooLate
set_option maxRecDepth 20000 in
theorem ggX5_season_X4_draw : GoodIn wsX5_season wsX4_draw := goodIn_r _ [23, 24, 25, 137, 138, 139, 140] (by decide +kernel) (by decide +kernel)
set_option maxRecDepth 20000 in
theorem gX5_season_X4_draw : GoodIn wsX5_season (wsV RX5 198 RX4 yX4_draw wsX4_draw) := goodIn_app (goodIn_of _ (by decide +kernel)) ggX5_season_X4_draw
set_option maxRecDepth 20000 in
theorem ggX5_season_X1_mayLay : GoodIn wsX5_season wsX1_mayLay := goodIn_r _ [30, 31, 32, 33, 141, 142, 143, 144, 145, 146, 147, 148, 149, 150] (by decide +kernel) (by decide +kernel)
set_option maxRecDepth 20000 in
theorem gX5_season_X1_mayLay : GoodIn wsX5_season (wsV RX5 100 RX1 yX1_mayLay wsX1_mayLay) := goodIn_app (goodIn_of _ (by decide +kernel)) ggX5_season_X1_mayLay
set_option maxRecDepth 20000 in
theorem ggX5_season_X1_layDown : GoodIn wsX5_season wsX1_layDown := goodIn_r _ [37, 31, 33, 141, 142, 143, 144, 145, 146, 147, 148, 149, 150] (by decide +kernel) (by decide +kernel)
set_option maxRecDepth 20000 in
theorem gX5_season_X1_layDown : GoodIn wsX5_season (wsV RX5 103 RX1 yX1_layDown wsX1_layDown) := goodIn_app (goodIn_of _ (by decide +kernel)) ggX5_season_X1_layDown
set_option maxRecDepth 20000 in
theorem ggX5_season_X5_goNights : GoodIn wsX5_season wsX5_goNights := goodIn_r _ [41, 1, 2, 42, 43, 44, 45, 29, 46, 47, 48, 49, 50, 51, 32, 52, 53, 54, 55, 33, 56, 57, 58, 59, 60, 61, 62, 63, 64, 65, 66, 67, 68, 69, 70, 71, 72, 73, 74, 75, 76, 77, 78, 79, 80, 81, 82, 83, 84, 85, 86, 87, 88, 89, 90, 91, 92, 93, 94, 95, 96, 97, 98, 99, 100, 101, 102, 103, 104, 105, 106, 107, 31, 108, 109, 110, 111, 112, 113, 114, 115, 116, 117, 118, 119, 120, 121, 122, 123, 124, 125, 126, 127, 128, 129, 130, 131, 132, 133, 134, 135, 136, 137, 138, 139, 140, 141, 142, 143, 144, 145, 146, 147, 148, 149, 150, 151, 152, 153] (by decide +kernel) (by decide +kernel)
set_option maxRecDepth 20000 in
theorem gX5_season_X5_goNights : GoodIn wsX5_season (wsV RX5 139 RX5 yX5_goNights wsX5_goNights) := goodIn_app (goodIn_of _ (by decide +kernel)) ggX5_season_X5_goNights
theorem dX5_season_0 : decode cX5_season 0 = .ok (.iload_n 1, 1) := by decide +kernel
theorem dX5_season_1 : decode cX5_season 1 = .ok (.iconst 1, 1) := by decide +kernel
theorem dX5_season_2 : decode cX5_season 2 = .ok (.bipush 12, 2) := by decide +kernel
theorem dX5_season_4 : decode cX5_season 4 = .ok (.invokestatic 68, 3) := by decide +kernel
theorem dX5_season_7 : decode cX5_season 7 = .ok (.ifCond .ne 9, 3) := by decide +kernel
theorem dX5_season_10 : decode cX5_season 10 = .ok (.aload_n 0, 1) := by decide +kernel
theorem dX5_season_11 : decode cX5_season 11 = .ok (.iconst 0, 1) := by decide +kernel
theorem dX5_season_12 : decode cX5_season 12 = .ok (.invokevirtual 55, 3) := by decide +kernel
theorem dX5_season_15 : decode cX5_season 15 = .ok (.ireturn, 1) := by decide +kernel
theorem dX5_season_16 : decode cX5_season 16 = .ok (.aload_n 0, 1) := by decide +kernel
theorem dX5_season_17 : decode cX5_season 17 = .ok (.iconst 2, 1) := by decide +kernel
theorem dX5_season_18 : decode cX5_season 18 = .ok (.iload_n 1, 1) := by decide +kernel
theorem dX5_season_19 : decode cX5_season 19 = .ok (.imul, 1) := by decide +kernel
theorem dX5_season_20 : decode cX5_season 20 = .ok (.invokevirtual 136, 3) := by decide +kernel
theorem dX5_season_23 : decode cX5_season 23 = .ok (.ifCond .eq 9, 3) := by decide +kernel
theorem dX5_season_26 : decode cX5_season 26 = .ok (.aload_n 0, 1) := by decide +kernel
theorem dX5_season_27 : decode cX5_season 27 = .ok (.iconst 4, 1) := by decide +kernel
theorem dX5_season_28 : decode cX5_season 28 = .ok (.invokevirtual 55, 3) := by decide +kernel
theorem dX5_season_31 : decode cX5_season 31 = .ok (.ireturn, 1) := by decide +kernel
theorem dX5_season_32 : decode cX5_season 32 = .ok (.iconst 0, 1) := by decide +kernel
theorem dX5_season_33 : decode cX5_season 33 = .ok (.istore_n 2, 1) := by decide +kernel
theorem dX5_season_34 : decode cX5_season 34 = .ok (.iconst 0, 1) := by decide +kernel
theorem dX5_season_35 : decode cX5_season 35 = .ok (.istore_n 3, 1) := by decide +kernel
theorem dX5_season_36 : decode cX5_season 36 = .ok (.iload_n 3, 1) := by decide +kernel
theorem dX5_season_37 : decode cX5_season 37 = .ok (.iload_n 1, 1) := by decide +kernel
theorem dX5_season_38 : decode cX5_season 38 = .ok (.if_icmp .ge 93, 3) := by decide +kernel
theorem dX5_season_41 : decode cX5_season 41 = .ok (.aload_n 0, 1) := by decide +kernel
theorem dX5_season_42 : decode cX5_season 42 = .ok (.getfield 10, 3) := by decide +kernel
theorem dX5_season_45 : decode cX5_season 45 = .ok (.getfield 59, 3) := by decide +kernel
theorem dX5_season_48 : decode cX5_season 48 = .ok (.aload_n 0, 1) := by decide +kernel
theorem dX5_season_49 : decode cX5_season 49 = .ok (.getfield 10, 3) := by decide +kernel
theorem dX5_season_52 : decode cX5_season 52 = .ok (.invokevirtual 198, 3) := by decide +kernel
theorem dX5_season_55 : decode cX5_season 55 = .ok (.bipush 10, 2) := by decide +kernel
theorem dX5_season_57 : decode cX5_season 57 = .ok (.irem, 1) := by decide +kernel
theorem dX5_season_58 : decode cX5_season 58 = .ok (.putfield 85, 3) := by decide +kernel
theorem dX5_season_61 : decode cX5_season 61 = .ok (.aload_n 0, 1) := by decide +kernel
theorem dX5_season_62 : decode cX5_season 62 = .ok (.getfield 10, 3) := by decide +kernel
theorem dX5_season_65 : decode cX5_season 65 = .ok (.invokevirtual 198, 3) := by decide +kernel
theorem dX5_season_68 : decode cX5_season 68 = .ok (.iconst 2, 1) := by decide +kernel
theorem dX5_season_69 : decode cX5_season 69 = .ok (.irem, 1) := by decide +kernel
theorem dX5_season_70 : decode cX5_season 70 = .ok (.istore 4, 2) := by decide +kernel
theorem dX5_season_72 : decode cX5_season 72 = .ok (.aload_n 0, 1) := by decide +kernel
theorem dX5_season_73 : decode cX5_season 73 = .ok (.getfield 10, 3) := by decide +kernel
theorem dX5_season_76 : decode cX5_season 76 = .ok (.invokevirtual 198, 3) := by decide +kernel
theorem dX5_season_79 : decode cX5_season 79 = .ok (.iconst 5, 1) := by decide +kernel
theorem dX5_season_80 : decode cX5_season 80 = .ok (.irem, 1) := by decide +kernel
theorem dX5_season_81 : decode cX5_season 81 = .ok (.istore 5, 2) := by decide +kernel
theorem dX5_season_83 : decode cX5_season 83 = .ok (.aload_n 0, 1) := by decide +kernel
theorem dX5_season_84 : decode cX5_season 84 = .ok (.getfield 10, 3) := by decide +kernel
theorem dX5_season_87 : decode cX5_season 87 = .ok (.getfield 59, 3) := by decide +kernel
theorem dX5_season_90 : decode cX5_season 90 = .ok (.iload 4, 2) := by decide +kernel
theorem dX5_season_92 : decode cX5_season 92 = .ok (.iload 5, 2) := by decide +kernel
theorem dX5_season_94 : decode cX5_season 94 = .ok (.iconst 1, 1) := by decide +kernel
theorem dX5_season_95 : decode cX5_season 95 = .ok (.invokevirtual 100, 3) := by decide +kernel
theorem dX5_season_98 : decode cX5_season 98 = .ok (.ifCond .eq 19, 3) := by decide +kernel
theorem dX5_season_101 : decode cX5_season 101 = .ok (.aload_n 0, 1) := by decide +kernel
theorem dX5_season_102 : decode cX5_season 102 = .ok (.getfield 10, 3) := by decide +kernel
theorem dX5_season_105 : decode cX5_season 105 = .ok (.getfield 59, 3) := by decide +kernel
theorem dX5_season_108 : decode cX5_season 108 = .ok (.iload 4, 2) := by decide +kernel
theorem dX5_season_110 : decode cX5_season 110 = .ok (.iload 5, 2) := by decide +kernel
theorem dX5_season_112 : decode cX5_season 112 = .ok (.iconst 1, 1) := by decide +kernel
theorem dX5_season_113 : decode cX5_season 113 = .ok (.invokevirtual 103, 3) := by decide +kernel
theorem dX5_season_116 : decode cX5_season 116 = .ok (.pop, 1) := by decide +kernel
theorem dX5_season_117 : decode cX5_season 117 = .ok (.iload_n 2, 1) := by decide +kernel
theorem dX5_season_118 : decode cX5_season 118 = .ok (.aload_n 0, 1) := by decide +kernel
theorem dX5_season_119 : decode cX5_season 119 = .ok (.iconst 2, 1) := by decide +kernel
theorem dX5_season_120 : decode cX5_season 120 = .ok (.invokevirtual 139, 3) := by decide +kernel
theorem dX5_season_123 : decode cX5_season 123 = .ok (.iadd, 1) := by decide +kernel
theorem dX5_season_124 : decode cX5_season 124 = .ok (.istore_n 2, 1) := by decide +kernel
theorem dX5_season_125 : decode cX5_season 125 = .ok (.iinc 3 1, 3) := by decide +kernel
theorem dX5_season_128 : decode cX5_season 128 = .ok (.goto (-92), 3) := by decide +kernel
theorem dX5_season_131 : decode cX5_season 131 = .ok (.iload_n 2, 1) := by decide +kernel
theorem dX5_season_132 : decode cX5_season 132 = .ok (.ireturn, 1) := by decide +kernel
theorem dX5_seed_0 : decode cX5_seed 0 = .ok (.aload_n 0, 1) := by decide +kernel
theorem dX5_seed_1 : decode cX5_seed 1 = .ok (.getfield 10, 3) := by decide +kernel
theorem dX5_seed_4 : decode cX5_seed 4 = .ok (.getfield 201, 3) := by decide +kernel
theorem dX5_seed_7 : decode cX5_seed 7 = .ok (.istore_n 2, 1) := by decide +kernel
theorem dX5_seed_8 : decode cX5_seed 8 = .ok (.aload_n 0, 1) := by decide +kernel
theorem dX5_seed_9 : decode cX5_seed 9 = .ok (.getfield 10, 3) := by decide +kernel
theorem dX5_seed_12 : decode cX5_seed 12 = .ok (.iload_n 1, 1) := by decide +kernel
theorem dX5_seed_13 : decode cX5_seed 13 = .ok (.putfield 201, 3) := by decide +kernel
theorem dX5_seed_16 : decode cX5_seed 16 = .ok (.iload_n 2, 1) := by decide +kernel
theorem dX5_seed_17 : decode cX5_seed 17 = .ok (.ireturn, 1) := by decide +kernel
set_option maxRecDepth 20000 in
theorem ggX5_feed_X5_isIn : GoodIn wsX5_feed wsX5_isIn := goodIn_r _ [6] (by decide +kernel) (by decide +kernel)
set_option maxRecDepth 20000 in
theorem gX5_feed_X5_isIn : GoodIn wsX5_feed (va_wsS RX5 68 yX5_isIn wsX5_isIn) := goodIn_app (goodIn_of _ (by decide +kernel)) ggX5_feed_X5_isIn
set_option maxRecDepth 20000 in
theorem ggX5_feed_X5_finding : GoodIn wsX5_feed wsX5_finding := goodIn_r _ [10, 11, 12, 20, 21, 22, 23, 24, 25, 26] (by decide +kernel) (by decide +kernel)
set_option maxRecDepth 20000 in
theorem gX5_feed_X5_finding : GoodIn wsX5_feed (wsV RX5 55 RX5 yX5_finding wsX5_finding) := goodIn_app (goodIn_of _ (by decide +kernel)) ggX5_feed_X5_finding
set_option maxRecDepth 20000 in
theorem ggX5_feed_X2_append : GoodIn wsX5_feed wsX2_append := goodIn_r _ [17, 18, 19, 27, 28, 29, 30, 31, 32] (by decide +kernel) (by decide +kernel)
set_option maxRecDepth 20000 in
theorem gX5_feed_X2_append : GoodIn wsX5_feed (wsV RX5 205 RX2 yX2_append wsX2_append) := goodIn_app (goodIn_of _ (by decide +kernel)) ggX5_feed_X2_append
theorem dX5_feed_0 : decode cX5_feed 0 = .ok (.iload_n 2, 1) := by decide +kernel
theorem dX5_feed_1 : decode cX5_feed 1 = .ok (.iconst 1, 1) := by decide +kernel
theorem dX5_feed_2 : decode cX5_feed 2 = .ok (.iconst 4, 1) := by decide +kernel
theorem dX5_feed_3 : decode cX5_feed 3 = .ok (.invokestatic 68, 3) := by decide +kernel
theorem dX5_feed_6 : decode cX5_feed 6 = .ok (.ifCond .ne 9, 3) := by decide +kernel
theorem dX5_feed_9 : decode cX5_feed 9 = .ok (.aload_n 0, 1) := by decide +kernel
theorem dX5_feed_10 : decode cX5_feed 10 = .ok (.iconst 0, 1) := by decide +kernel
theorem dX5_feed_11 : decode cX5_feed 11 = .ok (.invokevirtual 55, 3) := by decide +kernel
theorem dX5_feed_14 : decode cX5_feed 14 = .ok (.ireturn, 1) := by decide +kernel
theorem dX5_feed_15 : decode cX5_feed 15 = .ok (.aload_n 0, 1) := by decide +kernel
theorem dX5_feed_16 : decode cX5_feed 16 = .ok (.getfield 33, 3) := by decide +kernel
theorem dX5_feed_19 : decode cX5_feed 19 = .ok (.getfield 204, 3) := by decide +kernel
theorem dX5_feed_22 : decode cX5_feed 22 = .ok (.iload_n 2, 1) := by decide +kernel
theorem dX5_feed_23 : decode cX5_feed 23 = .ok (.iadd, 1) := by decide +kernel
theorem dX5_feed_24 : decode cX5_feed 24 = .ok (.bipush 120, 2) := by decide +kernel
theorem dX5_feed_26 : decode cX5_feed 26 = .ok (.if_icmp .le 9, 3) := by decide +kernel
theorem dX5_feed_29 : decode cX5_feed 29 = .ok (.aload_n 0, 1) := by decide +kernel
theorem dX5_feed_30 : decode cX5_feed 30 = .ok (.iconst 1, 1) := by decide +kernel
theorem dX5_feed_31 : decode cX5_feed 31 = .ok (.invokevirtual 55, 3) := by decide +kernel
theorem dX5_feed_34 : decode cX5_feed 34 = .ok (.ireturn, 1) := by decide +kernel
theorem dX5_feed_35 : decode cX5_feed 35 = .ok (.iload_n 2, 1) := by decide +kernel
theorem dX5_feed_36 : decode cX5_feed 36 = .ok (.iconst 1, 1) := by decide +kernel
theorem dX5_feed_37 : decode cX5_feed 37 = .ok (.isub, 1) := by decide +kernel
theorem dX5_feed_38 : decode cX5_feed 38 = .ok (.istore_n 3, 1) := by decide +kernel
theorem dX5_feed_39 : decode cX5_feed 39 = .ok (.iload_n 3, 1) := by decide +kernel
theorem dX5_feed_40 : decode cX5_feed 40 = .ok (.ifCond .lt 26, 3) := by decide +kernel
theorem dX5_feed_43 : decode cX5_feed 43 = .ok (.aload_n 0, 1) := by decide +kernel
theorem dX5_feed_44 : decode cX5_feed 44 = .ok (.getfield 33, 3) := by decide +kernel
theorem dX5_feed_47 : decode cX5_feed 47 = .ok (.iload_n 1, 1) := by decide +kernel
theorem dX5_feed_48 : decode cX5_feed 48 = .ok (.bipush 8, 2) := by decide +kernel
theorem dX5_feed_50 : decode cX5_feed 50 = .ok (.iload_n 3, 1) := by decide +kernel
theorem dX5_feed_51 : decode cX5_feed 51 = .ok (.imul, 1) := by decide +kernel
theorem dX5_feed_52 : decode cX5_feed 52 = .ok (.iushr, 1) := by decide +kernel
theorem dX5_feed_53 : decode cX5_feed 53 = .ok (.sipush 255, 3) := by decide +kernel
theorem dX5_feed_56 : decode cX5_feed 56 = .ok (.iand, 1) := by decide +kernel
theorem dX5_feed_57 : decode cX5_feed 57 = .ok (.invokevirtual 205, 3) := by decide +kernel
theorem dX5_feed_60 : decode cX5_feed 60 = .ok (.iinc 3 (-1), 3) := by decide +kernel
theorem dX5_feed_63 : decode cX5_feed 63 = .ok (.goto (-24), 3) := by decide +kernel
theorem dX5_feed_66 : decode cX5_feed 66 = .ok (.aload_n 0, 1) := by decide +kernel
theorem dX5_feed_67 : decode cX5_feed 67 = .ok (.getfield 33, 3) := by decide +kernel
theorem dX5_feed_70 : decode cX5_feed 70 = .ok (.getfield 204, 3) := by decide +kernel
theorem dX5_feed_73 : decode cX5_feed 73 = .ok (.ireturn, 1) := by decide +kernel
theorem dX5_wipe_0 : decode cX5_wipe 0 = .ok (.aload_n 0, 1) := by decide +kernel
theorem dX5_wipe_1 : decode cX5_wipe 1 = .ok (.getfield 33, 3) := by decide +kernel
theorem dX5_wipe_4 : decode cX5_wipe 4 = .ok (.getfield 204, 3) := by decide +kernel
theorem dX5_wipe_7 : decode cX5_wipe 7 = .ok (.istore_n 1, 1) := by decide +kernel
theorem dX5_wipe_8 : decode cX5_wipe 8 = .ok (.aload_n 0, 1) := by decide +kernel
theorem dX5_wipe_9 : decode cX5_wipe 9 = .ok (.getfield 33, 3) := by decide +kernel
theorem dX5_wipe_12 : decode cX5_wipe 12 = .ok (.iconst 0, 1) := by decide +kernel
theorem dX5_wipe_13 : decode cX5_wipe 13 = .ok (.putfield 204, 3) := by decide +kernel
theorem dX5_wipe_16 : decode cX5_wipe 16 = .ok (.iload_n 1, 1) := by decide +kernel
theorem dX5_wipe_17 : decode cX5_wipe 17 = .ok (.ireturn, 1) := by decide +kernel
set_option maxRecDepth 20000 in
theorem ggX5_text_X1_copyFrom : GoodIn wsX5_text wsX1_copyFrom := goodIn_r _ [10, 11, 12, 13, 14, 15, 16, 17, 18, 19, 20, 21, 22, 23, 24, 173, 174, 175, 176, 177, 178, 179, 180, 181, 182] (by decide +kernel) (by decide +kernel)
set_option maxRecDepth 20000 in
theorem gX5_text_X1_copyFrom : GoodIn wsX5_text (wsV RX5 161 RX1 yX1_copyFrom wsX1_copyFrom) := goodIn_app (goodIn_of _ (by decide +kernel)) ggX5_text_X1_copyFrom
set_option maxRecDepth 20000 in
theorem ggX5_text_X2_tell : GoodIn wsX5_text wsX2_tell := goodIn_r _ [29, 30, 31, 32, 33, 34, 35, 28, 36, 37, 38, 39, 40, 41, 42, 43, 44, 45, 46, 47, 48, 49, 50, 51, 52, 53, 54, 55, 56, 57, 58, 59, 60, 61, 62, 63, 64, 65, 66, 67, 68, 69, 70, 71, 72, 73, 74, 75, 76, 77, 78, 79, 80, 81, 82, 83, 84, 85, 86, 87, 88, 89, 90, 91, 92, 93, 94, 95, 96, 97, 98, 99, 100, 101, 102, 103, 104, 105, 106, 107, 108, 109, 110, 111, 112, 113, 114, 115, 116, 117, 118, 119, 120, 121, 122, 123, 124, 125, 126, 127, 128, 129, 130, 131, 132, 133, 134, 135, 136, 137, 138, 139, 140, 141, 142, 143, 144, 145, 146, 147, 148, 149, 9, 150, 16, 17, 18, 151, 152, 153, 154, 155, 167, 168, 169, 170, 171, 172, 173, 174, 175, 176, 177, 178, 179, 180, 181, 182] (by decide +kernel) (by decide +kernel)
set_option maxRecDepth 20000 in
theorem gX5_text_X2_tell : GoodIn wsX5_text (wsV RX5 208 RX2 yX2_tell wsX2_tell) := goodIn_app (goodIn_of _ (by decide +kernel)) ggX5_text_X2_tell
theorem dX5_text_0 : decode cX5_text 0 = .ok (.aload_n 0, 1) := by decide +kernel
theorem dX5_text_1 : decode cX5_text 1 = .ok (.getfield 26, 3) := by decide +kernel
theorem dX5_text_4 : decode cX5_text 4 = .ok (.aload_n 0, 1) := by decide +kernel
theorem dX5_text_5 : decode cX5_text 5 = .ok (.getfield 10, 3) := by decide +kernel
theorem dX5_text_8 : decode cX5_text 8 = .ok (.getfield 59, 3) := by decide +kernel
theorem dX5_text_11 : decode cX5_text 11 = .ok (.invokevirtual 161, 3) := by decide +kernel
theorem dX5_text_14 : decode cX5_text 14 = .ok (.aload_n 0, 1) := by decide +kernel
theorem dX5_text_15 : decode cX5_text 15 = .ok (.getfield 33, 3) := by decide +kernel
theorem dX5_text_18 : decode cX5_text 18 = .ok (.aload_n 0, 1) := by decide +kernel
theorem dX5_text_19 : decode cX5_text 19 = .ok (.getfield 26, 3) := by decide +kernel
theorem dX5_text_22 : decode cX5_text 22 = .ok (.invokevirtual 208, 3) := by decide +kernel
theorem dX5_text_25 : decode cX5_text 25 = .ok (.istore_n 1, 1) := by decide +kernel
theorem dX5_text_26 : decode cX5_text 26 = .ok (.aload_n 0, 1) := by decide +kernel
theorem dX5_text_27 : decode cX5_text 27 = .ok (.getfield 33, 3) := by decide +kernel
theorem dX5_text_30 : decode cX5_text 30 = .ok (.iconst 0, 1) := by decide +kernel
theorem dX5_text_31 : decode cX5_text 31 = .ok (.putfield 204, 3) := by decide +kernel
theorem dX5_text_34 : decode cX5_text 34 = .ok (.iload_n 1, 1) := by decide +kernel
theorem dX5_text_35 : decode cX5_text 35 = .ok (.ifCond .lt 17, 3) := by decide +kernel
theorem dX5_text_38 : decode cX5_text 38 = .ok (.aload_n 0, 1) := by decide +kernel
theorem dX5_text_39 : decode cX5_text 39 = .ok (.getfield 10, 3) := by decide +kernel
theorem dX5_text_42 : decode cX5_text 42 = .ok (.getfield 59, 3) := by decide +kernel
theorem dX5_text_45 : decode cX5_text 45 = .ok (.aload_n 0, 1) := by decide +kernel
theorem dX5_text_46 : decode cX5_text 46 = .ok (.getfield 26, 3) := by decide +kernel
theorem dX5_text_49 : decode cX5_text 49 = .ok (.invokevirtual 161, 3) := by decide +kernel
theorem dX5_text_52 : decode cX5_text 52 = .ok (.iload_n 1, 1) := by decide +kernel
theorem dX5_text_53 : decode cX5_text 53 = .ok (.ireturn, 1) := by decide +kernel
set_option maxRecDepth 20000 in
theorem ggX5_hold_X5_isIn : GoodIn wsX5_hold wsX5_isIn := goodIn_r _ [6] (by decide +kernel) (by decide +kernel)
set_option maxRecDepth 20000 in
theorem gX5_hold_X5_isIn : GoodIn wsX5_hold (va_wsS RX5 68 yX5_isIn wsX5_isIn) := goodIn_app (goodIn_of _ (by decide +kernel)) ggX5_hold_X5_isIn
set_option maxRecDepth 20000 in
theorem ggX5_hold_X5_finding : GoodIn wsX5_hold wsX5_finding := goodIn_r _ [10, 11, 12, 13, 14, 15, 16, 17, 18, 19] (by decide +kernel) (by decide +kernel)
set_option maxRecDepth 20000 in
theorem gX5_hold_X5_finding : GoodIn wsX5_hold (wsV RX5 55 RX5 yX5_finding wsX5_finding) := goodIn_app (goodIn_of _ (by decide +kernel)) ggX5_hold_X5_finding
theorem dX5_hold_0 : decode cX5_hold 0 = .ok (.iload_n 1, 1) := by decide +kernel
theorem dX5_hold_1 : decode cX5_hold 1 = .ok (.iconst 0, 1) := by decide +kernel
theorem dX5_hold_2 : decode cX5_hold 2 = .ok (.bipush 9, 2) := by decide +kernel
theorem dX5_hold_4 : decode cX5_hold 4 = .ok (.invokestatic 68, 3) := by decide +kernel
theorem dX5_hold_7 : decode cX5_hold 7 = .ok (.ifCond .eq 12, 3) := by decide +kernel
theorem dX5_hold_10 : decode cX5_hold 10 = .ok (.iload_n 2, 1) := by decide +kernel
theorem dX5_hold_11 : decode cX5_hold 11 = .ok (.iconst (-1), 1) := by decide +kernel
theorem dX5_hold_12 : decode cX5_hold 12 = .ok (.iconst 4, 1) := by decide +kernel
theorem dX5_hold_13 : decode cX5_hold 13 = .ok (.invokestatic 68, 3) := by decide +kernel
theorem dX5_hold_16 : decode cX5_hold 16 = .ok (.ifCond .ne 9, 3) := by decide +kernel
theorem dX5_hold_19 : decode cX5_hold 19 = .ok (.aload_n 0, 1) := by decide +kernel
theorem dX5_hold_20 : decode cX5_hold 20 = .ok (.iconst 0, 1) := by decide +kernel
theorem dX5_hold_21 : decode cX5_hold 21 = .ok (.invokevirtual 55, 3) := by decide +kernel
theorem dX5_hold_24 : decode cX5_hold 24 = .ok (.ireturn, 1) := by decide +kernel
theorem dX5_hold_25 : decode cX5_hold 25 = .ok (.aload_n 0, 1) := by decide +kernel
theorem dX5_hold_26 : decode cX5_hold 26 = .ok (.getfield 10, 3) := by decide +kernel
theorem dX5_hold_29 : decode cX5_hold 29 = .ok (.getfield 212, 3) := by decide +kernel
theorem dX5_hold_32 : decode cX5_hold 32 = .ok (.iload_n 1, 1) := by decide +kernel
theorem dX5_hold_33 : decode cX5_hold 33 = .ok (.iload_n 2, 1) := by decide +kernel
theorem dX5_hold_34 : decode cX5_hold 34 = .ok (.iastore, 1) := by decide +kernel
theorem dX5_hold_35 : decode cX5_hold 35 = .ok (.iconst 1, 1) := by decide +kernel
theorem dX5_hold_36 : decode cX5_hold 36 = .ok (.ireturn, 1) := by decide +kernel
set_option maxRecDepth 20000 in
theorem ggX5_as_X5_isIn : GoodIn wsX5_as wsX5_isIn := goodIn_r _ [8] (by decide +kernel) (by decide +kernel)
set_option maxRecDepth 20000 in
theorem gX5_as_X5_isIn : GoodIn wsX5_as (va_wsS RX5 68 yX5_isIn wsX5_isIn) := goodIn_app (goodIn_of _ (by decide +kernel)) ggX5_as_X5_isIn
set_option maxRecDepth 20000 in
theorem ggX5_as_X5_isKind : GoodIn wsX5_as wsX5_isKind := goodIn_r _ [11, 5, 6, 7, 8] (by decide +kernel) (by decide +kernel)
set_option maxRecDepth 20000 in
theorem gX5_as_X5_isKind : GoodIn wsX5_as (va_wsS RX5 52 yX5_isKind wsX5_isKind) := goodIn_app (goodIn_of _ (by decide +kernel)) ggX5_as_X5_isKind
set_option maxRecDepth 20000 in
theorem ggX5_as_X5_finding : GoodIn wsX5_as wsX5_finding := goodIn_r _ [15, 16, 17, 25, 26, 27, 28, 29, 30, 31] (by decide +kernel) (by decide +kernel)
set_option maxRecDepth 20000 in
theorem gX5_as_X5_finding : GoodIn wsX5_as (wsV RX5 55 RX5 yX5_finding wsX5_finding) := goodIn_app (goodIn_of _ (by decide +kernel)) ggX5_as_X5_finding
set_option maxRecDepth 20000 in
theorem ggX5_as_X5_isThing : GoodIn wsX5_as wsX5_isThing := goodIn_r _ [20, 5, 6, 7, 8] (by decide +kernel) (by decide +kernel)
set_option maxRecDepth 20000 in
theorem gX5_as_X5_isThing : GoodIn wsX5_as (va_wsS RX5 48 yX5_isThing wsX5_isThing) := goodIn_app (goodIn_of _ (by decide +kernel)) ggX5_as_X5_isThing
set_option maxRecDepth 20000 in
theorem ggX5_as_X5_isUnder : GoodIn wsX5_as wsX5_isUnder := goodIn_r _ [23, 24, 9, 10, 7, 11, 5, 6, 8] (by decide +kernel) (by decide +kernel)
set_option maxRecDepth 20000 in
theorem gX5_as_X5_isUnder : GoodIn wsX5_as (va_wsS RX5 215 yX5_isUnder wsX5_isUnder) := goodIn_app (goodIn_of _ (by decide +kernel)) ggX5_as_X5_isUnder
theorem dX5_as_0 : decode cX5_as 0 = .ok (.iload_n 1, 1) := by decide +kernel
theorem dX5_as_1 : decode cX5_as 1 = .ok (.iconst 0, 1) := by decide +kernel
theorem dX5_as_2 : decode cX5_as 2 = .ok (.bipush 9, 2) := by decide +kernel
theorem dX5_as_4 : decode cX5_as 4 = .ok (.invokestatic 68, 3) := by decide +kernel
theorem dX5_as_7 : decode cX5_as 7 = .ok (.ifCond .eq 10, 3) := by decide +kernel
theorem dX5_as_10 : decode cX5_as 10 = .ok (.iload_n 2, 1) := by decide +kernel
theorem dX5_as_11 : decode cX5_as 11 = .ok (.invokestatic 52, 3) := by decide +kernel
theorem dX5_as_14 : decode cX5_as 14 = .ok (.ifCond .ne 9, 3) := by decide +kernel
theorem dX5_as_17 : decode cX5_as 17 = .ok (.aload_n 0, 1) := by decide +kernel
theorem dX5_as_18 : decode cX5_as 18 = .ok (.iconst 0, 1) := by decide +kernel
theorem dX5_as_19 : decode cX5_as 19 = .ok (.invokevirtual 55, 3) := by decide +kernel
theorem dX5_as_22 : decode cX5_as 22 = .ok (.ireturn, 1) := by decide +kernel
theorem dX5_as_23 : decode cX5_as 23 = .ok (.aload_n 0, 1) := by decide +kernel
theorem dX5_as_24 : decode cX5_as 24 = .ok (.getfield 10, 3) := by decide +kernel
theorem dX5_as_27 : decode cX5_as 27 = .ok (.getfield 212, 3) := by decide +kernel
theorem dX5_as_30 : decode cX5_as 30 = .ok (.iload_n 1, 1) := by decide +kernel
theorem dX5_as_31 : decode cX5_as 31 = .ok (.iaload, 1) := by decide +kernel
theorem dX5_as_32 : decode cX5_as 32 = .ok (.istore_n 3, 1) := by decide +kernel
theorem dX5_as_33 : decode cX5_as 33 = .ok (.iload_n 3, 1) := by decide +kernel
theorem dX5_as_34 : decode cX5_as 34 = .ok (.invokestatic 48, 3) := by decide +kernel
theorem dX5_as_37 : decode cX5_as 37 = .ok (.ifCond .ne 9, 3) := by decide +kernel
theorem dX5_as_40 : decode cX5_as 40 = .ok (.aload_n 0, 1) := by decide +kernel
theorem dX5_as_41 : decode cX5_as 41 = .ok (.iconst 5, 1) := by decide +kernel
theorem dX5_as_42 : decode cX5_as 42 = .ok (.invokevirtual 55, 3) := by decide +kernel
theorem dX5_as_45 : decode cX5_as 45 = .ok (.ireturn, 1) := by decide +kernel
theorem dX5_as_46 : decode cX5_as 46 = .ok (.aload_n 0, 1) := by decide +kernel
theorem dX5_as_47 : decode cX5_as 47 = .ok (.getfield 10, 3) := by decide +kernel
theorem dX5_as_50 : decode cX5_as 50 = .ok (.getfield 59, 3) := by decide +kernel
theorem dX5_as_53 : decode cX5_as 53 = .ok (.getfield 62, 3) := by decide +kernel
theorem dX5_as_56 : decode cX5_as 56 = .ok (.iload_n 3, 1) := by decide +kernel
theorem dX5_as_57 : decode cX5_as 57 = .ok (.iaload, 1) := by decide +kernel
theorem dX5_as_58 : decode cX5_as 58 = .ok (.iload_n 2, 1) := by decide +kernel
theorem dX5_as_59 : decode cX5_as 59 = .ok (.invokestatic 215, 3) := by decide +kernel
theorem dX5_as_62 : decode cX5_as 62 = .ok (.ifCond .ne 9, 3) := by decide +kernel
theorem dX5_as_65 : decode cX5_as 65 = .ok (.aload_n 0, 1) := by decide +kernel
theorem dX5_as_66 : decode cX5_as 66 = .ok (.iconst 2, 1) := by decide +kernel
theorem dX5_as_67 : decode cX5_as 67 = .ok (.invokevirtual 55, 3) := by decide +kernel
theorem dX5_as_70 : decode cX5_as 70 = .ok (.ireturn, 1) := by decide +kernel
theorem dX5_as_71 : decode cX5_as 71 = .ok (.iload_n 3, 1) := by decide +kernel
theorem dX5_as_72 : decode cX5_as 72 = .ok (.ireturn, 1) := by decide +kernel
set_option maxRecDepth 20000 in
theorem ggX5_sheet_X5_isSheet : GoodIn wsX5_sheet wsX5_isSheet := goodIn_r _ [5, 6, 7, 4, 8] (by decide +kernel) (by decide +kernel)
set_option maxRecDepth 20000 in
theorem gX5_sheet_X5_isSheet : GoodIn wsX5_sheet (va_wsS RX5 218 yX5_isSheet wsX5_isSheet) := goodIn_app (goodIn_of _ (by decide +kernel)) ggX5_sheet_X5_isSheet
set_option maxRecDepth 20000 in
theorem ggX5_sheet_X5_finding : GoodIn wsX5_sheet wsX5_finding := goodIn_r _ [12, 13, 14, 27, 28, 29, 30, 31, 32, 33] (by decide +kernel) (by decide +kernel)
set_option maxRecDepth 20000 in
theorem gX5_sheet_X5_finding : GoodIn wsX5_sheet (wsV RX5 55 RX5 yX5_finding wsX5_finding) := goodIn_app (goodIn_of _ (by decide +kernel)) ggX5_sheet_X5_finding
set_option maxRecDepth 20000 in
theorem ggX5_sheet_X3_begin : GoodIn wsX5_sheet wsX3_begin := goodIn_r _ [19, 20, 21, 22, 23, 24, 25, 26, 34, 35, 36] (by decide +kernel) (by decide +kernel)
set_option maxRecDepth 20000 in
theorem gX5_sheet_X3_begin : GoodIn wsX5_sheet (wsV RX5 221 RX3 yX3_begin wsX3_begin) := goodIn_app (goodIn_of _ (by decide +kernel)) ggX5_sheet_X3_begin
theorem dX5_sheet_0 : decode cX5_sheet 0 = .ok (.iload_n 1, 1) := by decide +kernel
theorem dX5_sheet_1 : decode cX5_sheet 1 = .ok (.invokestatic 218, 3) := by decide +kernel
theorem dX5_sheet_4 : decode cX5_sheet 4 = .ok (.ifCond .eq 25, 3) := by decide +kernel
theorem dX5_sheet_7 : decode cX5_sheet 7 = .ok (.iload_n 2, 1) := by decide +kernel
theorem dX5_sheet_8 : decode cX5_sheet 8 = .ok (.ifCond .eq 27, 3) := by decide +kernel
theorem dX5_sheet_11 : decode cX5_sheet 11 = .ok (.iload_n 2, 1) := by decide +kernel
theorem dX5_sheet_12 : decode cX5_sheet 12 = .ok (.bipush 8, 2) := by decide +kernel
theorem dX5_sheet_14 : decode cX5_sheet 14 = .ok (.if_icmp .eq 21, 3) := by decide +kernel
theorem dX5_sheet_17 : decode cX5_sheet 17 = .ok (.iload_n 2, 1) := by decide +kernel
theorem dX5_sheet_18 : decode cX5_sheet 18 = .ok (.bipush 16, 2) := by decide +kernel
theorem dX5_sheet_20 : decode cX5_sheet 20 = .ok (.if_icmp .eq 15, 3) := by decide +kernel
theorem dX5_sheet_23 : decode cX5_sheet 23 = .ok (.iload_n 2, 1) := by decide +kernel
theorem dX5_sheet_24 : decode cX5_sheet 24 = .ok (.bipush 32, 2) := by decide +kernel
theorem dX5_sheet_26 : decode cX5_sheet 26 = .ok (.if_icmp .eq 9, 3) := by decide +kernel
theorem dX5_sheet_29 : decode cX5_sheet 29 = .ok (.aload_n 0, 1) := by decide +kernel
theorem dX5_sheet_30 : decode cX5_sheet 30 = .ok (.iconst 0, 1) := by decide +kernel
theorem dX5_sheet_31 : decode cX5_sheet 31 = .ok (.invokevirtual 55, 3) := by decide +kernel
theorem dX5_sheet_34 : decode cX5_sheet 34 = .ok (.ireturn, 1) := by decide +kernel
theorem dX5_sheet_35 : decode cX5_sheet 35 = .ok (.iload_n 3, 1) := by decide +kernel
theorem dX5_sheet_36 : decode cX5_sheet 36 = .ok (.ifCond .ge 10, 3) := by decide +kernel
theorem dX5_sheet_39 : decode cX5_sheet 39 = .ok (.aload_n 0, 1) := by decide +kernel
theorem dX5_sheet_40 : decode cX5_sheet 40 = .ok (.bipush 6, 2) := by decide +kernel
theorem dX5_sheet_42 : decode cX5_sheet 42 = .ok (.invokevirtual 55, 3) := by decide +kernel
theorem dX5_sheet_45 : decode cX5_sheet 45 = .ok (.ireturn, 1) := by decide +kernel
theorem dX5_sheet_46 : decode cX5_sheet 46 = .ok (.iload_n 3, 1) := by decide +kernel
theorem dX5_sheet_47 : decode cX5_sheet 47 = .ok (.bipush 40, 2) := by decide +kernel
theorem dX5_sheet_49 : decode cX5_sheet 49 = .ok (.if_icmp .le 9, 3) := by decide +kernel
theorem dX5_sheet_52 : decode cX5_sheet 52 = .ok (.aload_n 0, 1) := by decide +kernel
theorem dX5_sheet_53 : decode cX5_sheet 53 = .ok (.iconst 0, 1) := by decide +kernel
theorem dX5_sheet_54 : decode cX5_sheet 54 = .ok (.invokevirtual 55, 3) := by decide +kernel
theorem dX5_sheet_57 : decode cX5_sheet 57 = .ok (.ireturn, 1) := by decide +kernel
theorem dX5_sheet_58 : decode cX5_sheet 58 = .ok (.aload_n 0, 1) := by decide +kernel
theorem dX5_sheet_59 : decode cX5_sheet 59 = .ok (.getfield 39, 3) := by decide +kernel
theorem dX5_sheet_62 : decode cX5_sheet 62 = .ok (.iload_n 1, 1) := by decide +kernel
theorem dX5_sheet_63 : decode cX5_sheet 63 = .ok (.aaload, 1) := by decide +kernel
theorem dX5_sheet_64 : decode cX5_sheet 64 = .ok (.iload_n 2, 1) := by decide +kernel
theorem dX5_sheet_65 : decode cX5_sheet 65 = .ok (.iload_n 3, 1) := by decide +kernel
theorem dX5_sheet_66 : decode cX5_sheet 66 = .ok (.invokevirtual 221, 3) := by decide +kernel
theorem dX5_sheet_69 : decode cX5_sheet 69 = .ok (.ireturn, 1) := by decide +kernel
set_option maxRecDepth 20000 in
theorem ggX5_write_X5_isSheet : GoodIn wsX5_write wsX5_isSheet := goodIn_r _ [6, 7, 8, 5, 9] (by decide +kernel) (by decide +kernel)
set_option maxRecDepth 20000 in
theorem gX5_write_X5_isSheet : GoodIn wsX5_write (va_wsS RX5 218 yX5_isSheet wsX5_isSheet) := goodIn_app (goodIn_of _ (by decide +kernel)) ggX5_write_X5_isSheet
set_option maxRecDepth 20000 in
theorem ggX5_write_X5_finding : GoodIn wsX5_write wsX5_finding := goodIn_r _ [13, 14, 15, 27, 28, 29, 30, 31, 32, 33] (by decide +kernel) (by decide +kernel)
set_option maxRecDepth 20000 in
theorem gX5_write_X5_finding : GoodIn wsX5_write (wsV RX5 55 RX5 yX5_finding wsX5_finding) := goodIn_app (goodIn_of _ (by decide +kernel)) ggX5_write_X5_finding
set_option maxRecDepth 20000 in
theorem ggX5_write_X3_isMissing : GoodIn wsX5_write wsX3_isMissing := goodIn_r _ [20, 21, 34, 35, 36] (by decide +kernel) (by decide +kernel)
set_option maxRecDepth 20000 in
theorem gX5_write_X3_isMissing : GoodIn wsX5_write (wsV RX5 224 RX3 yX3_isMissing wsX3_isMissing) := goodIn_app (goodIn_of _ (by decide +kernel)) ggX5_write_X3_isMissing
set_option maxRecDepth 20000 in
theorem ggX5_write_X5_isIn : GoodIn wsX5_write wsX5_isIn := goodIn_r _ [9] (by decide +kernel) (by decide +kernel)
set_option maxRecDepth 20000 in
theorem gX5_write_X5_isIn : GoodIn wsX5_write (va_wsS RX5 68 yX5_isIn wsX5_isIn) := goodIn_app (goodIn_of _ (by decide +kernel)) ggX5_write_X5_isIn
set_option maxRecDepth 20000 in
theorem ggX5_write_X3_put : GoodIn wsX5_write wsX3_put := goodIn_r _ [25, 21, 26, 34, 35, 36] (by decide +kernel) (by decide +kernel)
set_option maxRecDepth 20000 in
theorem gX5_write_X3_put : GoodIn wsX5_write (wsV RX5 229 RX3 yX3_put wsX3_put) := goodIn_app (goodIn_of _ (by decide +kernel)) ggX5_write_X3_put
theorem dX5_write_0 : decode cX5_write 0 = .ok (.iload_n 1, 1) := by decide +kernel
theorem dX5_write_1 : decode cX5_write 1 = .ok (.invokestatic 218, 3) := by decide +kernel
theorem dX5_write_4 : decode cX5_write 4 = .ok (.ifCond .ne 9, 3) := by decide +kernel
theorem dX5_write_7 : decode cX5_write 7 = .ok (.aload_n 0, 1) := by decide +kernel
theorem dX5_write_8 : decode cX5_write 8 = .ok (.iconst 0, 1) := by decide +kernel
theorem dX5_write_9 : decode cX5_write 9 = .ok (.invokevirtual 55, 3) := by decide +kernel
theorem dX5_write_12 : decode cX5_write 12 = .ok (.ireturn, 1) := by decide +kernel
theorem dX5_write_13 : decode cX5_write 13 = .ok (.aload_n 0, 1) := by decide +kernel
theorem dX5_write_14 : decode cX5_write 14 = .ok (.getfield 39, 3) := by decide +kernel
theorem dX5_write_17 : decode cX5_write 17 = .ok (.iload_n 1, 1) := by decide +kernel
theorem dX5_write_18 : decode cX5_write 18 = .ok (.aaload, 1) := by decide +kernel
theorem dX5_write_19 : decode cX5_write 19 = .ok (.invokevirtual 224, 3) := by decide +kernel
theorem dX5_write_22 : decode cX5_write 22 = .ok (.ifCond .eq 9, 3) := by decide +kernel
theorem dX5_write_25 : decode cX5_write 25 = .ok (.aload_n 0, 1) := by decide +kernel
theorem dX5_write_26 : decode cX5_write 26 = .ok (.iconst 5, 1) := by decide +kernel
theorem dX5_write_27 : decode cX5_write 27 = .ok (.invokevirtual 55, 3) := by decide +kernel
theorem dX5_write_30 : decode cX5_write 30 = .ok (.ireturn, 1) := by decide +kernel
theorem dX5_write_31 : decode cX5_write 31 = .ok (.iload_n 2, 1) := by decide +kernel
theorem dX5_write_32 : decode cX5_write 32 = .ok (.iconst 0, 1) := by decide +kernel
theorem dX5_write_33 : decode cX5_write 33 = .ok (.aload_n 0, 1) := by decide +kernel
theorem dX5_write_34 : decode cX5_write 34 = .ok (.getfield 39, 3) := by decide +kernel
theorem dX5_write_37 : decode cX5_write 37 = .ok (.iload_n 1, 1) := by decide +kernel
theorem dX5_write_38 : decode cX5_write 38 = .ok (.aaload, 1) := by decide +kernel
theorem dX5_write_39 : decode cX5_write 39 = .ok (.getfield 228, 3) := by decide +kernel
theorem dX5_write_42 : decode cX5_write 42 = .ok (.iconst 1, 1) := by decide +kernel
theorem dX5_write_43 : decode cX5_write 43 = .ok (.isub, 1) := by decide +kernel
theorem dX5_write_44 : decode cX5_write 44 = .ok (.invokestatic 68, 3) := by decide +kernel
theorem dX5_write_47 : decode cX5_write 47 = .ok (.ifCond .ne 9, 3) := by decide +kernel
theorem dX5_write_50 : decode cX5_write 50 = .ok (.aload_n 0, 1) := by decide +kernel
theorem dX5_write_51 : decode cX5_write 51 = .ok (.iconst 0, 1) := by decide +kernel
theorem dX5_write_52 : decode cX5_write 52 = .ok (.invokevirtual 55, 3) := by decide +kernel
theorem dX5_write_55 : decode cX5_write 55 = .ok (.ireturn, 1) := by decide +kernel
theorem dX5_write_56 : decode cX5_write 56 = .ok (.aload_n 0, 1) := by decide +kernel
theorem dX5_write_57 : decode cX5_write 57 = .ok (.getfield 39, 3) := by decide +kernel
theorem dX5_write_60 : decode cX5_write 60 = .ok (.iload_n 1, 1) := by decide +kernel
theorem dX5_write_61 : decode cX5_write 61 = .ok (.aaload, 1) := by decide +kernel
theorem dX5_write_62 : decode cX5_write 62 = .ok (.iload_n 2, 1) := by decide +kernel
theorem dX5_write_63 : decode cX5_write 63 = .ok (.iload_n 3, 1) := by decide +kernel
theorem dX5_write_64 : decode cX5_write 64 = .ok (.invokevirtual 229, 3) := by decide +kernel
theorem dX5_write_67 : decode cX5_write 67 = .ok (.iconst 1, 1) := by decide +kernel
theorem dX5_write_68 : decode cX5_write 68 = .ok (.ireturn, 1) := by decide +kernel
set_option maxRecDepth 20000 in
theorem ggX5_copy_X5_isSheet : GoodIn wsX5_copy wsX5_isSheet := goodIn_r _ [11, 12, 13, 10, 14] (by decide +kernel) (by decide +kernel)
set_option maxRecDepth 20000 in
theorem gX5_copy_X5_isSheet : GoodIn wsX5_copy (va_wsS RX5 218 yX5_isSheet wsX5_isSheet) := goodIn_app (goodIn_of _ (by decide +kernel)) ggX5_copy_X5_isSheet
set_option maxRecDepth 20000 in
theorem ggX5_copy_X5_finding : GoodIn wsX5_copy wsX5_finding := goodIn_r _ [18, 19, 20, 32, 33, 34, 35, 36, 37, 38] (by decide +kernel) (by decide +kernel)
set_option maxRecDepth 20000 in
theorem gX5_copy_X5_finding : GoodIn wsX5_copy (wsV RX5 55 RX5 yX5_finding wsX5_finding) := goodIn_app (goodIn_of _ (by decide +kernel)) ggX5_copy_X5_finding
set_option maxRecDepth 20000 in
theorem ggX5_copy_X3_isMissing : GoodIn wsX5_copy wsX3_isMissing := goodIn_r _ [25, 26, 39, 40, 41] (by decide +kernel) (by decide +kernel)
set_option maxRecDepth 20000 in
theorem gX5_copy_X3_isMissing : GoodIn wsX5_copy (wsV RX5 224 RX3 yX3_isMissing wsX3_isMissing) := goodIn_app (goodIn_of _ (by decide +kernel)) ggX5_copy_X3_isMissing
set_option maxRecDepth 20000 in
theorem ggX5_copy_X3_has : GoodIn wsX5_copy wsX3_has := goodIn_r _ [30, 31, 39, 40, 41] (by decide +kernel) (by decide +kernel)
set_option maxRecDepth 20000 in
theorem gX5_copy_X3_has : GoodIn wsX5_copy (wsV RX5 235 RX3 yX3_has wsX3_has) := goodIn_app (goodIn_of _ (by decide +kernel)) ggX5_copy_X3_has
theorem dX5_copy_0 : decode cX5_copy 0 = .ok (.iload_n 1, 1) := by decide +kernel
theorem dX5_copy_1 : decode cX5_copy 1 = .ok (.invokestatic 218, 3) := by decide +kernel
theorem dX5_copy_4 : decode cX5_copy 4 = .ok (.ifCond .eq 10, 3) := by decide +kernel
theorem dX5_copy_7 : decode cX5_copy 7 = .ok (.iload_n 3, 1) := by decide +kernel
theorem dX5_copy_8 : decode cX5_copy 8 = .ok (.invokestatic 218, 3) := by decide +kernel
theorem dX5_copy_11 : decode cX5_copy 11 = .ok (.ifCond .ne 9, 3) := by decide +kernel
theorem dX5_copy_14 : decode cX5_copy 14 = .ok (.aload_n 0, 1) := by decide +kernel
theorem dX5_copy_15 : decode cX5_copy 15 = .ok (.iconst 0, 1) := by decide +kernel
theorem dX5_copy_16 : decode cX5_copy 16 = .ok (.invokevirtual 55, 3) := by decide +kernel
theorem dX5_copy_19 : decode cX5_copy 19 = .ok (.ireturn, 1) := by decide +kernel
theorem dX5_copy_20 : decode cX5_copy 20 = .ok (.aload_n 0, 1) := by decide +kernel
theorem dX5_copy_21 : decode cX5_copy 21 = .ok (.getfield 39, 3) := by decide +kernel
theorem dX5_copy_24 : decode cX5_copy 24 = .ok (.iload_n 1, 1) := by decide +kernel
theorem dX5_copy_25 : decode cX5_copy 25 = .ok (.aaload, 1) := by decide +kernel
theorem dX5_copy_26 : decode cX5_copy 26 = .ok (.astore 6, 2) := by decide +kernel
theorem dX5_copy_28 : decode cX5_copy 28 = .ok (.aload_n 0, 1) := by decide +kernel
theorem dX5_copy_29 : decode cX5_copy 29 = .ok (.getfield 39, 3) := by decide +kernel
theorem dX5_copy_32 : decode cX5_copy 32 = .ok (.iload_n 3, 1) := by decide +kernel
theorem dX5_copy_33 : decode cX5_copy 33 = .ok (.aaload, 1) := by decide +kernel
theorem dX5_copy_34 : decode cX5_copy 34 = .ok (.astore 7, 2) := by decide +kernel
theorem dX5_copy_36 : decode cX5_copy 36 = .ok (.aload 6, 2) := by decide +kernel
theorem dX5_copy_38 : decode cX5_copy 38 = .ok (.invokevirtual 224, 3) := by decide +kernel
theorem dX5_copy_41 : decode cX5_copy 41 = .ok (.ifCond .ne 11, 3) := by decide +kernel
theorem dX5_copy_44 : decode cX5_copy 44 = .ok (.aload 7, 2) := by decide +kernel
theorem dX5_copy_46 : decode cX5_copy 46 = .ok (.invokevirtual 224, 3) := by decide +kernel
theorem dX5_copy_49 : decode cX5_copy 49 = .ok (.ifCond .eq 9, 3) := by decide +kernel
theorem dX5_copy_52 : decode cX5_copy 52 = .ok (.aload_n 0, 1) := by decide +kernel
theorem dX5_copy_53 : decode cX5_copy 53 = .ok (.iconst 5, 1) := by decide +kernel
theorem dX5_copy_54 : decode cX5_copy 54 = .ok (.invokevirtual 55, 3) := by decide +kernel
theorem dX5_copy_57 : decode cX5_copy 57 = .ok (.ireturn, 1) := by decide +kernel
theorem dX5_copy_58 : decode cX5_copy 58 = .ok (.aload 6, 2) := by decide +kernel
theorem dX5_copy_60 : decode cX5_copy 60 = .ok (.getfield 232, 3) := by decide +kernel
theorem dX5_copy_63 : decode cX5_copy 63 = .ok (.aload 7, 2) := by decide +kernel
theorem dX5_copy_65 : decode cX5_copy 65 = .ok (.getfield 232, 3) := by decide +kernel
theorem dX5_copy_68 : decode cX5_copy 68 = .ok (.if_icmp .eq 9, 3) := by decide +kernel
theorem dX5_copy_71 : decode cX5_copy 71 = .ok (.aload_n 0, 1) := by decide +kernel
theorem dX5_copy_72 : decode cX5_copy 72 = .ok (.iconst 2, 1) := by decide +kernel
theorem dX5_copy_73 : decode cX5_copy 73 = .ok (.invokevirtual 55, 3) := by decide +kernel
theorem dX5_copy_76 : decode cX5_copy 76 = .ok (.ireturn, 1) := by decide +kernel
theorem dX5_copy_77 : decode cX5_copy 77 = .ok (.aload 6, 2) := by decide +kernel
theorem dX5_copy_79 : decode cX5_copy 79 = .ok (.iload_n 2, 1) := by decide +kernel
theorem dX5_copy_80 : decode cX5_copy 80 = .ok (.iload 5, 2) := by decide +kernel
theorem dX5_copy_82 : decode cX5_copy 82 = .ok (.invokevirtual 235, 3) := by decide +kernel
theorem dX5_copy_85 : decode cX5_copy 85 = .ok (.ifCond .eq 15, 3) := by decide +kernel
theorem dX5_copy_88 : decode cX5_copy 88 = .ok (.aload 7, 2) := by decide +kernel
theorem dX5_copy_90 : decode cX5_copy 90 = .ok (.iload 4, 2) := by decide +kernel
theorem dX5_copy_92 : decode cX5_copy 92 = .ok (.iload 5, 2) := by decide +kernel
theorem dX5_copy_94 : decode cX5_copy 94 = .ok (.invokevirtual 235, 3) := by decide +kernel
theorem dX5_copy_97 : decode cX5_copy 97 = .ok (.ifCond .ne 9, 3) := by decide +kernel
theorem dX5_copy_100 : decode cX5_copy 100 = .ok (.aload_n 0, 1) := by decide +kernel
theorem dX5_copy_101 : decode cX5_copy 101 = .ok (.iconst 0, 1) := by decide +kernel
theorem dX5_copy_102 : decode cX5_copy 102 = .ok (.invokevirtual 55, 3) := by decide +kernel
theorem dX5_copy_105 : decode cX5_copy 105 = .ok (.ireturn, 1) := by decide +kernel
theorem dX5_copy_106 : decode cX5_copy 106 = .ok (.aload 6, 2) := by decide +kernel
theorem dX5_copy_108 : decode cX5_copy 108 = .ok (.getfield 238, 3) := by decide +kernel
theorem dX5_copy_111 : decode cX5_copy 111 = .ok (.iload_n 2, 1) := by decide +kernel
theorem dX5_copy_112 : decode cX5_copy 112 = .ok (.aload 7, 2) := by decide +kernel
theorem dX5_copy_114 : decode cX5_copy 114 = .ok (.getfield 238, 3) := by decide +kernel
theorem dX5_copy_117 : decode cX5_copy 117 = .ok (.iload 4, 2) := by decide +kernel
theorem dX5_copy_119 : decode cX5_copy 119 = .ok (.iload 5, 2) := by decide +kernel
theorem dX5_copy_121 : decode cX5_copy 121 = .ok (.invokestatic 241, 3) := by decide +kernel
theorem dX5_copy_124 : decode cX5_copy 124 = .ok (.iload 5, 2) := by decide +kernel
theorem dX5_copy_126 : decode cX5_copy 126 = .ok (.ireturn, 1) := by decide +kernel
set_option maxRecDepth 20000 in
theorem ggX5_load_X5_isSheet : GoodIn wsX5_load wsX5_isSheet := goodIn_r _ [10, 11, 12, 9, 13] (by decide +kernel) (by decide +kernel)
set_option maxRecDepth 20000 in
theorem gX5_load_X5_isSheet : GoodIn wsX5_load (va_wsS RX5 218 yX5_isSheet wsX5_isSheet) := goodIn_app (goodIn_of _ (by decide +kernel)) ggX5_load_X5_isSheet
set_option maxRecDepth 20000 in
theorem ggX5_load_X5_finding : GoodIn wsX5_load wsX5_finding := goodIn_r _ [17, 18, 19, 26, 27, 28, 29, 30, 31, 32] (by decide +kernel) (by decide +kernel)
set_option maxRecDepth 20000 in
theorem gX5_load_X5_finding : GoodIn wsX5_load (wsV RX5 55 RX5 yX5_finding wsX5_finding) := goodIn_app (goodIn_of _ (by decide +kernel)) ggX5_load_X5_finding
set_option maxRecDepth 20000 in
theorem ggX5_load_X3_isMissing : GoodIn wsX5_load wsX3_isMissing := goodIn_r _ [24, 25, 33, 34, 35] (by decide +kernel) (by decide +kernel)
set_option maxRecDepth 20000 in
theorem gX5_load_X3_isMissing : GoodIn wsX5_load (wsV RX5 224 RX3 yX3_isMissing wsX3_isMissing) := goodIn_app (goodIn_of _ (by decide +kernel)) ggX5_load_X3_isMissing
set_option maxRecDepth 20000 in
theorem ggX5_load_X5_isIn : GoodIn wsX5_load wsX5_isIn := goodIn_r _ [13] (by decide +kernel) (by decide +kernel)
set_option maxRecDepth 20000 in
theorem gX5_load_X5_isIn : GoodIn wsX5_load (va_wsS RX5 68 yX5_isIn wsX5_isIn) := goodIn_app (goodIn_of _ (by decide +kernel)) ggX5_load_X5_isIn
theorem dX5_load_0 : decode cX5_load 0 = .ok (.iload_n 1, 1) := by decide +kernel
theorem dX5_load_1 : decode cX5_load 1 = .ok (.invokestatic 218, 3) := by decide +kernel
theorem dX5_load_4 : decode cX5_load 4 = .ok (.ifCond .ne 9, 3) := by decide +kernel
theorem dX5_load_7 : decode cX5_load 7 = .ok (.aload_n 0, 1) := by decide +kernel
theorem dX5_load_8 : decode cX5_load 8 = .ok (.iconst 0, 1) := by decide +kernel
theorem dX5_load_9 : decode cX5_load 9 = .ok (.invokevirtual 55, 3) := by decide +kernel
theorem dX5_load_12 : decode cX5_load 12 = .ok (.ireturn, 1) := by decide +kernel
theorem dX5_load_13 : decode cX5_load 13 = .ok (.aload_n 0, 1) := by decide +kernel
theorem dX5_load_14 : decode cX5_load 14 = .ok (.getfield 39, 3) := by decide +kernel
theorem dX5_load_17 : decode cX5_load 17 = .ok (.iload_n 1, 1) := by decide +kernel
theorem dX5_load_18 : decode cX5_load 18 = .ok (.aaload, 1) := by decide +kernel
theorem dX5_load_19 : decode cX5_load 19 = .ok (.astore_n 2, 1) := by decide +kernel
theorem dX5_load_20 : decode cX5_load 20 = .ok (.aload_n 2, 1) := by decide +kernel
theorem dX5_load_21 : decode cX5_load 21 = .ok (.invokevirtual 224, 3) := by decide +kernel
theorem dX5_load_24 : decode cX5_load 24 = .ok (.ifCond .eq 9, 3) := by decide +kernel
theorem dX5_load_27 : decode cX5_load 27 = .ok (.aload_n 0, 1) := by decide +kernel
theorem dX5_load_28 : decode cX5_load 28 = .ok (.iconst 5, 1) := by decide +kernel
theorem dX5_load_29 : decode cX5_load 29 = .ok (.invokevirtual 55, 3) := by decide +kernel
theorem dX5_load_32 : decode cX5_load 32 = .ok (.ireturn, 1) := by decide +kernel
theorem dX5_load_33 : decode cX5_load 33 = .ok (.iconst 0, 1) := by decide +kernel
theorem dX5_load_34 : decode cX5_load 34 = .ok (.istore_n 3, 1) := by decide +kernel
theorem dX5_load_35 : decode cX5_load 35 = .ok (.iload_n 3, 1) := by decide +kernel
theorem dX5_load_36 : decode cX5_load 36 = .ok (.iconst 5, 1) := by decide +kernel
theorem dX5_load_37 : decode cX5_load 37 = .ok (.if_icmp .ge 52, 3) := by decide +kernel
theorem dX5_load_40 : decode cX5_load 40 = .ok (.iload_n 3, 1) := by decide +kernel
theorem dX5_load_41 : decode cX5_load 41 = .ok (.aload_n 2, 1) := by decide +kernel
theorem dX5_load_42 : decode cX5_load 42 = .ok (.getfield 228, 3) := by decide +kernel
theorem dX5_load_45 : decode cX5_load 45 = .ok (.if_icmp .ge 44, 3) := by decide +kernel
theorem dX5_load_48 : decode cX5_load 48 = .ok (.aload_n 2, 1) := by decide +kernel
theorem dX5_load_49 : decode cX5_load 49 = .ok (.getfield 238, 3) := by decide +kernel
theorem dX5_load_52 : decode cX5_load 52 = .ok (.iload_n 3, 1) := by decide +kernel
theorem dX5_load_53 : decode cX5_load 53 = .ok (.iaload, 1) := by decide +kernel
theorem dX5_load_54 : decode cX5_load 54 = .ok (.iconst 0, 1) := by decide +kernel
theorem dX5_load_55 : decode cX5_load 55 = .ok (.bipush 20, 2) := by decide +kernel
theorem dX5_load_57 : decode cX5_load 57 = .ok (.invokestatic 68, 3) := by decide +kernel
theorem dX5_load_60 : decode cX5_load 60 = .ok (.ifCond .eq 29, 3) := by decide +kernel
theorem dX5_load_63 : decode cX5_load 63 = .ok (.aload_n 0, 1) := by decide +kernel
theorem dX5_load_64 : decode cX5_load 64 = .ok (.getfield 10, 3) := by decide +kernel
theorem dX5_load_67 : decode cX5_load 67 = .ok (.getfield 59, 3) := by decide +kernel
theorem dX5_load_70 : decode cX5_load 70 = .ok (.getfield 247, 3) := by decide +kernel
theorem dX5_load_73 : decode cX5_load 73 = .ok (.iconst 5, 1) := by decide +kernel
theorem dX5_load_74 : decode cX5_load 74 = .ok (.iload_n 3, 1) := by decide +kernel
theorem dX5_load_75 : decode cX5_load 75 = .ok (.iadd, 1) := by decide +kernel
theorem dX5_load_76 : decode cX5_load 76 = .ok (.aload_n 2, 1) := by decide +kernel
theorem dX5_load_77 : decode cX5_load 77 = .ok (.getfield 238, 3) := by decide +kernel
theorem dX5_load_80 : decode cX5_load 80 = .ok (.iload_n 3, 1) := by decide +kernel
theorem dX5_load_81 : decode cX5_load 81 = .ok (.iaload, 1) := by decide +kernel
theorem dX5_load_82 : decode cX5_load 82 = .ok (.iastore, 1) := by decide +kernel
theorem dX5_load_83 : decode cX5_load 83 = .ok (.iinc 3 1, 3) := by decide +kernel
theorem dX5_load_86 : decode cX5_load 86 = .ok (.goto (-51), 3) := by decide +kernel
theorem dX5_load_89 : decode cX5_load 89 = .ok (.iload_n 3, 1) := by decide +kernel
theorem dX5_load_90 : decode cX5_load 90 = .ok (.ireturn, 1) := by decide +kernel
set_option maxRecDepth 20000 in
theorem ggX5_judge_X5_isSheet : GoodIn wsX5_judge wsX5_isSheet := goodIn_r _ [10, 11, 12, 9, 13] (by decide +kernel) (by decide +kernel)
set_option maxRecDepth 20000 in
theorem gX5_judge_X5_isSheet : GoodIn wsX5_judge (va_wsS RX5 218 yX5_isSheet wsX5_isSheet) := goodIn_app (goodIn_of _ (by decide +kernel)) ggX5_judge_X5_isSheet
set_option maxRecDepth 20000 in
theorem ggX5_judge_X5_finding : GoodIn wsX5_judge wsX5_finding := goodIn_r _ [17, 18, 19, 114, 115, 116, 117, 118, 119, 120] (by decide +kernel) (by decide +kernel)
set_option maxRecDepth 20000 in
theorem gX5_judge_X5_finding : GoodIn wsX5_judge (wsV RX5 55 RX5 yX5_finding wsX5_finding) := goodIn_app (goodIn_of _ (by decide +kernel)) ggX5_judge_X5_finding
set_option maxRecDepth 20000 in
theorem ggX5_judge_X3_isMissing : GoodIn wsX5_judge wsX3_isMissing := goodIn_r _ [24, 25, 121, 122, 123] (by decide +kernel) (by decide +kernel)
set_option maxRecDepth 20000 in
theorem gX5_judge_X3_isMissing : GoodIn wsX5_judge (wsV RX5 224 RX3 yX3_isMissing wsX3_isMissing) := goodIn_app (goodIn_of _ (by decide +kernel)) ggX5_judge_X3_isMissing
set_option maxRecDepth 20000 in
theorem ggX5_judge_X5_isTooLate : GoodIn wsX5_judge wsX5_isTooLate := goodIn_r _ [29, 4, 5, 30, 114, 115, 116, 117, 118, 119, 120, 124, 125, 126, 127, 128, 129, 130, 131, 132, 133, 134, 135, 136, 137] (by decide +kernel) (by decide +kernel)
set_option maxRecDepth 20000 in
theorem gX5_judge_X5_isTooLate : GoodIn wsX5_judge (wsV RX5 136 RX5 yX5_isTooLate wsX5_isTooLate) := goodIn_app (goodIn_of _ (by decide +kernel)) ggX5_judge_X5_isTooLate
set_option maxRecDepth 20000 in
theorem ggX5_judge_X1_copyFrom : GoodIn wsX5_judge wsX1_copyFrom := goodIn_r _ [35, 36, 37, 38, 39, 40, 41, 42, 43, 44, 45, 46, 47, 48, 49, 128, 129, 130, 131, 132, 133, 134, 135, 136, 137] (by decide +kernel) (by decide +kernel)
set_option maxRecDepth 20000 in
theorem gX5_judge_X1_copyFrom : GoodIn wsX5_judge (wsV RX5 161 RX1 yX1_copyFrom wsX1_copyFrom) := goodIn_app (goodIn_of _ (by decide +kernel)) ggX5_judge_X1_copyFrom
set_option maxRecDepth 20000 in
theorem ggX5_judge_X1_turn : GoodIn wsX5_judge wsX1_turn := goodIn_r _ [53, 47, 128, 129, 130, 131, 132, 133, 134, 135, 136, 137] (by decide +kernel) (by decide +kernel)
set_option maxRecDepth 20000 in
theorem gX5_judge_X1_turn : GoodIn wsX5_judge (wsV RX5 250 RX1 yX1_turn wsX1_turn) := goodIn_app (goodIn_of _ (by decide +kernel)) ggX5_judge_X1_turn
set_option maxRecDepth 20000 in
theorem ggX5_judge_X1_deedOf : GoodIn wsX5_judge wsX1_deedOf := goodIn_r _ [57, 45, 58, 59, 60, 34, 61, 42, 62, 63, 64, 65, 44, 66, 67, 68, 69, 70, 71, 72, 73, 43, 36, 46, 128, 129, 130, 131, 132, 133, 134, 135, 136, 137] (by decide +kernel) (by decide +kernel)
set_option maxRecDepth 20000 in
theorem gX5_judge_X1_deedOf : GoodIn wsX5_judge (wsV RX5 115 RX1 yX1_deedOf wsX1_deedOf) := goodIn_app (goodIn_of _ (by decide +kernel)) ggX5_judge_X1_deedOf
set_option maxRecDepth 20000 in
theorem ggX5_judge_X1_carryOut : GoodIn wsX5_judge wsX1_carryOut := goodIn_r _ [77, 47, 78, 79, 80, 34, 81, 48, 82, 83, 84, 85, 42, 86, 87, 88, 89, 41, 90, 91, 92, 93, 94, 95, 96, 97, 45, 98, 99, 100, 101, 102, 103, 104, 105, 70, 71, 72, 73, 43, 36, 46, 106, 107, 108, 109, 49, 110, 111, 112, 113, 128, 129, 130, 131, 132, 133, 134, 135, 136, 137] (by decide +kernel) (by decide +kernel)
set_option maxRecDepth 20000 in
theorem gX5_judge_X1_carryOut : GoodIn wsX5_judge (wsV RX5 253 RX1 yX1_carryOut wsX1_carryOut) := goodIn_app (goodIn_of _ (by decide +kernel)) ggX5_judge_X1_carryOut
theorem dX5_judge_0 : decode cX5_judge 0 = .ok (.iload_n 1, 1) := by decide +kernel
theorem dX5_judge_1 : decode cX5_judge 1 = .ok (.invokestatic 218, 3) := by decide +kernel
theorem dX5_judge_4 : decode cX5_judge 4 = .ok (.ifCond .ne 9, 3) := by decide +kernel
theorem dX5_judge_7 : decode cX5_judge 7 = .ok (.aload_n 0, 1) := by decide +kernel
theorem dX5_judge_8 : decode cX5_judge 8 = .ok (.iconst 0, 1) := by decide +kernel
theorem dX5_judge_9 : decode cX5_judge 9 = .ok (.invokevirtual 55, 3) := by decide +kernel
theorem dX5_judge_12 : decode cX5_judge 12 = .ok (.ireturn, 1) := by decide +kernel
theorem dX5_judge_13 : decode cX5_judge 13 = .ok (.aload_n 0, 1) := by decide +kernel
theorem dX5_judge_14 : decode cX5_judge 14 = .ok (.getfield 39, 3) := by decide +kernel
theorem dX5_judge_17 : decode cX5_judge 17 = .ok (.iload_n 1, 1) := by decide +kernel
theorem dX5_judge_18 : decode cX5_judge 18 = .ok (.aaload, 1) := by decide +kernel
theorem dX5_judge_19 : decode cX5_judge 19 = .ok (.astore_n 2, 1) := by decide +kernel
theorem dX5_judge_20 : decode cX5_judge 20 = .ok (.aload_n 2, 1) := by decide +kernel
theorem dX5_judge_21 : decode cX5_judge 21 = .ok (.invokevirtual 224, 3) := by decide +kernel
theorem dX5_judge_24 : decode cX5_judge 24 = .ok (.ifCond .eq 9, 3) := by decide +kernel
theorem dX5_judge_27 : decode cX5_judge 27 = .ok (.aload_n 0, 1) := by decide +kernel
theorem dX5_judge_28 : decode cX5_judge 28 = .ok (.iconst 5, 1) := by decide +kernel
theorem dX5_judge_29 : decode cX5_judge 29 = .ok (.invokevirtual 55, 3) := by decide +kernel
theorem dX5_judge_32 : decode cX5_judge 32 = .ok (.ireturn, 1) := by decide +kernel
theorem dX5_judge_33 : decode cX5_judge 33 = .ok (.aload_n 0, 1) := by decide +kernel
theorem dX5_judge_34 : decode cX5_judge 34 = .ok (.aload_n 2, 1) := by decide +kernel
theorem dX5_judge_35 : decode cX5_judge 35 = .ok (.getfield 228, 3) := by decide +kernel
theorem dX5_judge_38 : decode cX5_judge 38 = .ok (.invokevirtual 136, 3) := by decide +kernel
theorem dX5_judge_41 : decode cX5_judge 41 = .ok (.ifCond .eq 9, 3) := by decide +kernel
theorem dX5_judge_44 : decode cX5_judge 44 = .ok (.aload_n 0, 1) := by decide +kernel
theorem dX5_judge_45 : decode cX5_judge 45 = .ok (.iconst 4, 1) := by decide +kernel
theorem dX5_judge_46 : decode cX5_judge 46 = .ok (.invokevirtual 55, 3) := by decide +kernel
theorem dX5_judge_49 : decode cX5_judge 49 = .ok (.ireturn, 1) := by decide +kernel
theorem dX5_judge_50 : decode cX5_judge 50 = .ok (.aload_n 0, 1) := by decide +kernel
theorem dX5_judge_51 : decode cX5_judge 51 = .ok (.getfield 26, 3) := by decide +kernel
theorem dX5_judge_54 : decode cX5_judge 54 = .ok (.aload_n 0, 1) := by decide +kernel
theorem dX5_judge_55 : decode cX5_judge 55 = .ok (.getfield 10, 3) := by decide +kernel
theorem dX5_judge_58 : decode cX5_judge 58 = .ok (.getfield 59, 3) := by decide +kernel
theorem dX5_judge_61 : decode cX5_judge 61 = .ok (.invokevirtual 161, 3) := by decide +kernel
theorem dX5_judge_64 : decode cX5_judge 64 = .ok (.iconst 0, 1) := by decide +kernel
theorem dX5_judge_65 : decode cX5_judge 65 = .ok (.istore_n 3, 1) := by decide +kernel
theorem dX5_judge_66 : decode cX5_judge 66 = .ok (.iload_n 3, 1) := by decide +kernel
theorem dX5_judge_67 : decode cX5_judge 67 = .ok (.aload_n 2, 1) := by decide +kernel
theorem dX5_judge_68 : decode cX5_judge 68 = .ok (.getfield 228, 3) := by decide +kernel
theorem dX5_judge_71 : decode cX5_judge 71 = .ok (.if_icmp .ge 55, 3) := by decide +kernel
theorem dX5_judge_74 : decode cX5_judge 74 = .ok (.aload_n 0, 1) := by decide +kernel
theorem dX5_judge_75 : decode cX5_judge 75 = .ok (.getfield 26, 3) := by decide +kernel
theorem dX5_judge_78 : decode cX5_judge 78 = .ok (.invokevirtual 250, 3) := by decide +kernel
theorem dX5_judge_81 : decode cX5_judge 81 = .ok (.istore 4, 2) := by decide +kernel
theorem dX5_judge_83 : decode cX5_judge 83 = .ok (.aload_n 0, 1) := by decide +kernel
theorem dX5_judge_84 : decode cX5_judge 84 = .ok (.getfield 26, 3) := by decide +kernel
theorem dX5_judge_87 : decode cX5_judge 87 = .ok (.iload 4, 2) := by decide +kernel
theorem dX5_judge_89 : decode cX5_judge 89 = .ok (.invokevirtual 115, 3) := by decide +kernel
theorem dX5_judge_92 : decode cX5_judge 92 = .ok (.istore 5, 2) := by decide +kernel
theorem dX5_judge_94 : decode cX5_judge 94 = .ok (.aload_n 2, 1) := by decide +kernel
theorem dX5_judge_95 : decode cX5_judge 95 = .ok (.getfield 238, 3) := by decide +kernel
theorem dX5_judge_98 : decode cX5_judge 98 = .ok (.iload_n 3, 1) := by decide +kernel
theorem dX5_judge_99 : decode cX5_judge 99 = .ok (.iaload, 1) := by decide +kernel
theorem dX5_judge_100 : decode cX5_judge 100 = .ok (.iload 5, 2) := by decide +kernel
theorem dX5_judge_102 : decode cX5_judge 102 = .ok (.if_icmp .eq 7, 3) := by decide +kernel
theorem dX5_judge_105 : decode cX5_judge 105 = .ok (.iconst 1, 1) := by decide +kernel
theorem dX5_judge_106 : decode cX5_judge 106 = .ok (.iload_n 3, 1) := by decide +kernel
theorem dX5_judge_107 : decode cX5_judge 107 = .ok (.iadd, 1) := by decide +kernel
theorem dX5_judge_108 : decode cX5_judge 108 = .ok (.ireturn, 1) := by decide +kernel
theorem dX5_judge_109 : decode cX5_judge 109 = .ok (.aload_n 0, 1) := by decide +kernel
theorem dX5_judge_110 : decode cX5_judge 110 = .ok (.getfield 26, 3) := by decide +kernel
theorem dX5_judge_113 : decode cX5_judge 113 = .ok (.iload 4, 2) := by decide +kernel
theorem dX5_judge_115 : decode cX5_judge 115 = .ok (.iload 5, 2) := by decide +kernel
theorem dX5_judge_117 : decode cX5_judge 117 = .ok (.invokevirtual 253, 3) := by decide +kernel
theorem dX5_judge_120 : decode cX5_judge 120 = .ok (.iinc 3 1, 3) := by decide +kernel
theorem dX5_judge_123 : decode cX5_judge 123 = .ok (.goto (-57), 3) := by decide +kernel
theorem dX5_judge_126 : decode cX5_judge 126 = .ok (.iconst 0, 1) := by decide +kernel
theorem dX5_judge_127 : decode cX5_judge 127 = .ok (.ireturn, 1) := by decide +kernel
set_option maxRecDepth 20000 in
theorem ggX5_image_X4_copyFrom : GoodIn wsX5_image wsX4_copyFrom := goodIn_r _ [8, 9, 10, 11, 12, 13, 14, 15, 16, 17, 18, 19, 20, 21, 22, 23, 24, 25, 26, 27, 28, 29, 30, 31, 32, 33, 34, 35, 36, 37, 38, 39, 40, 41, 49, 50, 51, 52, 53, 54, 55, 56, 57, 58, 59, 60, 61, 62, 63, 64, 65] (by decide +kernel) (by decide +kernel)
set_option maxRecDepth 20000 in
theorem gX5_image_X4_copyFrom : GoodIn wsX5_image (wsV RX5 256 RX4 yX4_copyFrom wsX4_copyFrom) := goodIn_app (goodIn_of _ (by decide +kernel)) ggX5_image_X4_copyFrom
theorem dX5_image_0 : decode cX5_image 0 = .ok (.aload_n 0, 1) := by decide +kernel
theorem dX5_image_1 : decode cX5_image 1 = .ok (.getfield 16, 3) := by decide +kernel
theorem dX5_image_4 : decode cX5_image 4 = .ok (.aload_n 0, 1) := by decide +kernel
theorem dX5_image_5 : decode cX5_image 5 = .ok (.getfield 10, 3) := by decide +kernel
theorem dX5_image_8 : decode cX5_image 8 = .ok (.invokevirtual 256, 3) := by decide +kernel
theorem dX5_image_11 : decode cX5_image 11 = .ok (.aload_n 0, 1) := by decide +kernel
theorem dX5_image_12 : decode cX5_image 12 = .ok (.iconst 1, 1) := by decide +kernel
theorem dX5_image_13 : decode cX5_image 13 = .ok (.putfield 19, 3) := by decide +kernel
theorem dX5_image_16 : decode cX5_image 16 = .ok (.iconst 1, 1) := by decide +kernel
theorem dX5_image_17 : decode cX5_image 17 = .ok (.ireturn, 1) := by decide +kernel
set_option maxRecDepth 20000 in
theorem ggX5_undo_X5_finding : GoodIn wsX5_undo wsX5_finding := goodIn_r _ [10, 11, 12, 51, 52, 53, 54, 55, 56, 57] (by decide +kernel) (by decide +kernel)
set_option maxRecDepth 20000 in
theorem gX5_undo_X5_finding : GoodIn wsX5_undo (wsV RX5 55 RX5 yX5_finding wsX5_finding) := goodIn_app (goodIn_of _ (by decide +kernel)) ggX5_undo_X5_finding
set_option maxRecDepth 20000 in
theorem ggX5_undo_X4_copyFrom : GoodIn wsX5_undo wsX4_copyFrom := goodIn_r _ [17, 18, 19, 20, 21, 22, 23, 24, 25, 26, 27, 28, 29, 30, 31, 32, 33, 34, 35, 36, 37, 38, 39, 40, 41, 42, 43, 44, 45, 46, 47, 48, 49, 50, 58, 59, 60, 61, 62, 63, 64, 65, 66, 67, 68, 69, 70, 71, 72, 73, 74] (by decide +kernel) (by decide +kernel)
set_option maxRecDepth 20000 in
theorem gX5_undo_X4_copyFrom : GoodIn wsX5_undo (wsV RX5 256 RX4 yX4_copyFrom wsX4_copyFrom) := goodIn_app (goodIn_of _ (by decide +kernel)) ggX5_undo_X4_copyFrom
theorem dX5_undo_0 : decode cX5_undo 0 = .ok (.aload_n 0, 1) := by decide +kernel
theorem dX5_undo_1 : decode cX5_undo 1 = .ok (.getfield 19, 3) := by decide +kernel
theorem dX5_undo_4 : decode cX5_undo 4 = .ok (.ifCond .ne 9, 3) := by decide +kernel
theorem dX5_undo_7 : decode cX5_undo 7 = .ok (.aload_n 0, 1) := by decide +kernel
theorem dX5_undo_8 : decode cX5_undo 8 = .ok (.iconst 3, 1) := by decide +kernel
theorem dX5_undo_9 : decode cX5_undo 9 = .ok (.invokevirtual 55, 3) := by decide +kernel
theorem dX5_undo_12 : decode cX5_undo 12 = .ok (.ireturn, 1) := by decide +kernel
theorem dX5_undo_13 : decode cX5_undo 13 = .ok (.aload_n 0, 1) := by decide +kernel
theorem dX5_undo_14 : decode cX5_undo 14 = .ok (.getfield 10, 3) := by decide +kernel
theorem dX5_undo_17 : decode cX5_undo 17 = .ok (.aload_n 0, 1) := by decide +kernel
theorem dX5_undo_18 : decode cX5_undo 18 = .ok (.getfield 16, 3) := by decide +kernel
theorem dX5_undo_21 : decode cX5_undo 21 = .ok (.invokevirtual 256, 3) := by decide +kernel
theorem dX5_undo_24 : decode cX5_undo 24 = .ok (.aload_n 0, 1) := by decide +kernel
theorem dX5_undo_25 : decode cX5_undo 25 = .ok (.getfield 10, 3) := by decide +kernel
theorem dX5_undo_28 : decode cX5_undo 28 = .ok (.getfield 59, 3) := by decide +kernel
theorem dX5_undo_31 : decode cX5_undo 31 = .ok (.getfield 142, 3) := by decide +kernel
theorem dX5_undo_34 : decode cX5_undo 34 = .ok (.ireturn, 1) := by decide +kernel
theorem dX5_tear_0 : decode cX5_tear 0 = .ok (.aload_n 0, 1) := by decide +kernel
theorem dX5_tear_1 : decode cX5_tear 1 = .ok (.getfield 19, 3) := by decide +kernel
theorem dX5_tear_4 : decode cX5_tear 4 = .ok (.ifCond .eq 7, 3) := by decide +kernel
theorem dX5_tear_7 : decode cX5_tear 7 = .ok (.iconst 1, 1) := by decide +kernel
theorem dX5_tear_8 : decode cX5_tear 8 = .ok (.goto 4, 3) := by decide +kernel
theorem dX5_tear_11 : decode cX5_tear 11 = .ok (.iconst 0, 1) := by decide +kernel
theorem dX5_tear_12 : decode cX5_tear 12 = .ok (.istore_n 1, 1) := by decide +kernel
theorem dX5_tear_13 : decode cX5_tear 13 = .ok (.aload_n 0, 1) := by decide +kernel
theorem dX5_tear_14 : decode cX5_tear 14 = .ok (.iconst 0, 1) := by decide +kernel
theorem dX5_tear_15 : decode cX5_tear 15 = .ok (.putfield 19, 3) := by decide +kernel
theorem dX5_tear_18 : decode cX5_tear 18 = .ok (.iload_n 1, 1) := by decide +kernel
theorem dX5_tear_19 : decode cX5_tear 19 = .ok (.ireturn, 1) := by decide +kernel
set_option maxRecDepth 20000 in
theorem ggX5_count_X1_heapCount : GoodIn wsX5_count wsX1_heapCount := goodIn_r _ [14, 15, 40, 41, 42, 43, 44, 45, 46, 47, 48, 49] (by decide +kernel) (by decide +kernel)
set_option maxRecDepth 20000 in
theorem gX5_count_X1_heapCount : GoodIn wsX5_count (wsV RX5 121 RX1 yX1_heapCount wsX1_heapCount) := goodIn_app (goodIn_of _ (by decide +kernel)) ggX5_count_X1_heapCount
set_option maxRecDepth 20000 in
theorem ggX5_count_X4_spotsInUse : GoodIn wsX5_count wsX4_spotsInUse := goodIn_r _ [20, 21, 36, 37, 38, 39] (by decide +kernel) (by decide +kernel)
set_option maxRecDepth 20000 in
theorem gX5_count_X4_spotsInUse : GoodIn wsX5_count (wsV RX5 259 RX4 yX4_spotsInUse wsX4_spotsInUse) := goodIn_app (goodIn_of _ (by decide +kernel)) ggX5_count_X4_spotsInUse
set_option maxRecDepth 20000 in
theorem ggX5_count_X5_finding : GoodIn wsX5_count wsX5_finding := goodIn_r _ [26, 27, 28, 29, 30, 31, 32, 33, 34, 35] (by decide +kernel) (by decide +kernel)
set_option maxRecDepth 20000 in
theorem gX5_count_X5_finding : GoodIn wsX5_count (wsV RX5 55 RX5 yX5_finding wsX5_finding) := goodIn_app (goodIn_of _ (by decide +kernel)) ggX5_count_X5_finding
theorem dX5_count_0 : decode cX5_count 0 = .ok (.aload_n 0, 1) := by decide +kernel
theorem dX5_count_1 : decode cX5_count 1 = .ok (.getfield 10, 3) := by decide +kernel
theorem dX5_count_4 : decode cX5_count 4 = .ok (.getfield 59, 3) := by decide +kernel
theorem dX5_count_7 : decode cX5_count 7 = .ok (.astore_n 2, 1) := by decide +kernel
theorem dX5_count_8 : decode cX5_count 8 = .ok (.iload_n 1, 1) := by decide +kernel
theorem dX5_count_9 : decode cX5_count 9 = .ok (.tableswitch 112 0 7 #[47, 52, 57, 69, 83, 88, 96, 104], 47) := by decide +kernel
theorem dX5_count_56 : decode cX5_count 56 = .ok (.aload_n 2, 1) := by decide +kernel
theorem dX5_count_57 : decode cX5_count 57 = .ok (.getfield 142, 3) := by decide +kernel
theorem dX5_count_60 : decode cX5_count 60 = .ok (.ireturn, 1) := by decide +kernel
theorem dX5_count_61 : decode cX5_count 61 = .ok (.aload_n 2, 1) := by decide +kernel
theorem dX5_count_62 : decode cX5_count 62 = .ok (.getfield 158, 3) := by decide +kernel
theorem dX5_count_65 : decode cX5_count 65 = .ok (.ireturn, 1) := by decide +kernel
theorem dX5_count_66 : decode cX5_count 66 = .ok (.aload_n 2, 1) := by decide +kernel
theorem dX5_count_67 : decode cX5_count 67 = .ok (.iconst 0, 1) := by decide +kernel
theorem dX5_count_68 : decode cX5_count 68 = .ok (.invokevirtual 121, 3) := by decide +kernel
theorem dX5_count_71 : decode cX5_count 71 = .ok (.aload_n 2, 1) := by decide +kernel
theorem dX5_count_72 : decode cX5_count 72 = .ok (.iconst 1, 1) := by decide +kernel
theorem dX5_count_73 : decode cX5_count 73 = .ok (.invokevirtual 121, 3) := by decide +kernel
theorem dX5_count_76 : decode cX5_count 76 = .ok (.iadd, 1) := by decide +kernel
theorem dX5_count_77 : decode cX5_count 77 = .ok (.ireturn, 1) := by decide +kernel
theorem dX5_count_78 : decode cX5_count 78 = .ok (.aload_n 2, 1) := by decide +kernel
theorem dX5_count_79 : decode cX5_count 79 = .ok (.getfield 82, 3) := by decide +kernel
theorem dX5_count_82 : decode cX5_count 82 = .ok (.iconst 0, 1) := by decide +kernel
theorem dX5_count_83 : decode cX5_count 83 = .ok (.iaload, 1) := by decide +kernel
theorem dX5_count_84 : decode cX5_count 84 = .ok (.aload_n 2, 1) := by decide +kernel
theorem dX5_count_85 : decode cX5_count 85 = .ok (.getfield 82, 3) := by decide +kernel
theorem dX5_count_88 : decode cX5_count 88 = .ok (.iconst 1, 1) := by decide +kernel
theorem dX5_count_89 : decode cX5_count 89 = .ok (.iaload, 1) := by decide +kernel
theorem dX5_count_90 : decode cX5_count 90 = .ok (.iadd, 1) := by decide +kernel
theorem dX5_count_91 : decode cX5_count 91 = .ok (.ireturn, 1) := by decide +kernel
theorem dX5_count_92 : decode cX5_count 92 = .ok (.aload_n 2, 1) := by decide +kernel
theorem dX5_count_93 : decode cX5_count 93 = .ok (.getfield 168, 3) := by decide +kernel
theorem dX5_count_96 : decode cX5_count 96 = .ok (.ireturn, 1) := by decide +kernel
theorem dX5_count_97 : decode cX5_count 97 = .ok (.aload_n 0, 1) := by decide +kernel
theorem dX5_count_98 : decode cX5_count 98 = .ok (.getfield 33, 3) := by decide +kernel
theorem dX5_count_101 : decode cX5_count 101 = .ok (.getfield 204, 3) := by decide +kernel
theorem dX5_count_104 : decode cX5_count 104 = .ok (.ireturn, 1) := by decide +kernel
theorem dX5_count_105 : decode cX5_count 105 = .ok (.aload_n 0, 1) := by decide +kernel
theorem dX5_count_106 : decode cX5_count 106 = .ok (.getfield 10, 3) := by decide +kernel
theorem dX5_count_109 : decode cX5_count 109 = .ok (.getfield 201, 3) := by decide +kernel
theorem dX5_count_112 : decode cX5_count 112 = .ok (.ireturn, 1) := by decide +kernel
theorem dX5_count_113 : decode cX5_count 113 = .ok (.aload_n 0, 1) := by decide +kernel
theorem dX5_count_114 : decode cX5_count 114 = .ok (.getfield 10, 3) := by decide +kernel
theorem dX5_count_117 : decode cX5_count 117 = .ok (.invokevirtual 259, 3) := by decide +kernel
theorem dX5_count_120 : decode cX5_count 120 = .ok (.ireturn, 1) := by decide +kernel
theorem dX5_count_121 : decode cX5_count 121 = .ok (.aload_n 0, 1) := by decide +kernel
theorem dX5_count_122 : decode cX5_count 122 = .ok (.iconst 0, 1) := by decide +kernel
theorem dX5_count_123 : decode cX5_count 123 = .ok (.invokevirtual 55, 3) := by decide +kernel
theorem dX5_count_126 : decode cX5_count 126 = .ok (.ireturn, 1) := by decide +kernel
set_option maxRecDepth 20000 in
theorem ggX5_status_X5_isIn : GoodIn wsX5_status wsX5_isIn := goodIn_r _ [5] (by decide +kernel) (by decide +kernel)
set_option maxRecDepth 20000 in
theorem gX5_status_X5_isIn : GoodIn wsX5_status (va_wsS RX5 68 yX5_isIn wsX5_isIn) := goodIn_app (goodIn_of _ (by decide +kernel)) ggX5_status_X5_isIn
set_option maxRecDepth 20000 in
theorem ggX5_status_X5_finding : GoodIn wsX5_status wsX5_finding := goodIn_r _ [9, 1, 10, 11, 12, 13, 14, 15, 16, 17] (by decide +kernel) (by decide +kernel)
set_option maxRecDepth 20000 in
theorem gX5_status_X5_finding : GoodIn wsX5_status (wsV RX5 55 RX5 yX5_finding wsX5_finding) := goodIn_app (goodIn_of _ (by decide +kernel)) ggX5_status_X5_finding
theorem dX5_status_0 : decode cX5_status 0 = .ok (.iload_n 1, 1) := by decide +kernel
theorem dX5_status_1 : decode cX5_status 1 = .ok (.iconst (-1), 1) := by decide +kernel
theorem dX5_status_2 : decode cX5_status 2 = .ok (.bipush 6, 2) := by decide +kernel
theorem dX5_status_4 : decode cX5_status 4 = .ok (.invokestatic 68, 3) := by decide +kernel
theorem dX5_status_7 : decode cX5_status 7 = .ok (.ifCond .ne 9, 3) := by decide +kernel
theorem dX5_status_10 : decode cX5_status 10 = .ok (.aload_n 0, 1) := by decide +kernel
theorem dX5_status_11 : decode cX5_status 11 = .ok (.iconst 0, 1) := by decide +kernel
theorem dX5_status_12 : decode cX5_status 12 = .ok (.invokevirtual 55, 3) := by decide +kernel
theorem dX5_status_15 : decode cX5_status 15 = .ok (.ireturn, 1) := by decide +kernel
theorem dX5_status_16 : decode cX5_status 16 = .ok (.iload_n 1, 1) := by decide +kernel
theorem dX5_status_17 : decode cX5_status 17 = .ok (.ifCond .lt 10, 3) := by decide +kernel
theorem dX5_status_20 : decode cX5_status 20 = .ok (.aload_n 0, 1) := by decide +kernel
theorem dX5_status_21 : decode cX5_status 21 = .ok (.getfield 43, 3) := by decide +kernel
theorem dX5_status_24 : decode cX5_status 24 = .ok (.iload_n 1, 1) := by decide +kernel
theorem dX5_status_25 : decode cX5_status 25 = .ok (.iaload, 1) := by decide +kernel
theorem dX5_status_26 : decode cX5_status 26 = .ok (.ireturn, 1) := by decide +kernel
theorem dX5_status_27 : decode cX5_status 27 = .ok (.iconst 0, 1) := by decide +kernel
theorem dX5_status_28 : decode cX5_status 28 = .ok (.istore_n 2, 1) := by decide +kernel
theorem dX5_status_29 : decode cX5_status 29 = .ok (.iconst 0, 1) := by decide +kernel
theorem dX5_status_30 : decode cX5_status 30 = .ok (.istore_n 3, 1) := by decide +kernel
theorem dX5_status_31 : decode cX5_status 31 = .ok (.iload_n 3, 1) := by decide +kernel
theorem dX5_status_32 : decode cX5_status 32 = .ok (.bipush 7, 2) := by decide +kernel
theorem dX5_status_34 : decode cX5_status 34 = .ok (.if_icmp .ge 18, 3) := by decide +kernel
theorem dX5_status_37 : decode cX5_status 37 = .ok (.iload_n 2, 1) := by decide +kernel
theorem dX5_status_38 : decode cX5_status 38 = .ok (.aload_n 0, 1) := by decide +kernel
theorem dX5_status_39 : decode cX5_status 39 = .ok (.getfield 43, 3) := by decide +kernel
theorem dX5_status_42 : decode cX5_status 42 = .ok (.iload_n 3, 1) := by decide +kernel
theorem dX5_status_43 : decode cX5_status 43 = .ok (.iaload, 1) := by decide +kernel
theorem dX5_status_44 : decode cX5_status 44 = .ok (.iadd, 1) := by decide +kernel
theorem dX5_status_45 : decode cX5_status 45 = .ok (.istore_n 2, 1) := by decide +kernel
theorem dX5_status_46 : decode cX5_status 46 = .ok (.iinc 3 1, 3) := by decide +kernel
theorem dX5_status_49 : decode cX5_status 49 = .ok (.goto (-18), 3) := by decide +kernel
theorem dX5_status_52 : decode cX5_status 52 = .ok (.iload_n 2, 1) := by decide +kernel
theorem dX5_status_53 : decode cX5_status 53 = .ok (.ireturn, 1) := by decide +kernel
theorem dX5_finding_0 : decode cX5_finding 0 = .ok (.aload_n 0, 1) := by decide +kernel
theorem dX5_finding_1 : decode cX5_finding 1 = .ok (.getfield 43, 3) := by decide +kernel
theorem dX5_finding_4 : decode cX5_finding 4 = .ok (.iload_n 1, 1) := by decide +kernel
theorem dX5_finding_5 : decode cX5_finding 5 = .ok (.dup2, 1) := by decide +kernel
theorem dX5_finding_6 : decode cX5_finding 6 = .ok (.iaload, 1) := by decide +kernel
theorem dX5_finding_7 : decode cX5_finding 7 = .ok (.iconst 1, 1) := by decide +kernel
theorem dX5_finding_8 : decode cX5_finding 8 = .ok (.iadd, 1) := by decide +kernel
theorem dX5_finding_9 : decode cX5_finding 9 = .ok (.iastore, 1) := by decide +kernel
theorem dX5_finding_10 : decode cX5_finding 10 = .ok (.ldc_w 262, 3) := by decide +kernel
theorem dX5_finding_13 : decode cX5_finding 13 = .ok (.iload_n 1, 1) := by decide +kernel
theorem dX5_finding_14 : decode cX5_finding 14 = .ok (.isub, 1) := by decide +kernel
theorem dX5_finding_15 : decode cX5_finding 15 = .ok (.ireturn, 1) := by decide +kernel
theorem dX5_isIn_0 : decode cX5_isIn 0 = .ok (.iload_n 0, 1) := by decide +kernel
theorem dX5_isIn_1 : decode cX5_isIn 1 = .ok (.iload_n 1, 1) := by decide +kernel
theorem dX5_isIn_2 : decode cX5_isIn 2 = .ok (.if_icmp .lt 12, 3) := by decide +kernel
theorem dX5_isIn_5 : decode cX5_isIn 5 = .ok (.iload_n 0, 1) := by decide +kernel
theorem dX5_isIn_6 : decode cX5_isIn 6 = .ok (.iload_n 2, 1) := by decide +kernel
theorem dX5_isIn_7 : decode cX5_isIn 7 = .ok (.if_icmp .gt 7, 3) := by decide +kernel
theorem dX5_isIn_10 : decode cX5_isIn 10 = .ok (.iconst 1, 1) := by decide +kernel
theorem dX5_isIn_11 : decode cX5_isIn 11 = .ok (.goto 4, 3) := by decide +kernel
theorem dX5_isIn_14 : decode cX5_isIn 14 = .ok (.iconst 0, 1) := by decide +kernel
theorem dX5_isIn_15 : decode cX5_isIn 15 = .ok (.ireturn, 1) := by decide +kernel
set_option maxRecDepth 20000 in
theorem ggX5_isSide_X5_isIn : GoodIn wsX5_isSide wsX5_isIn := goodIn_r _ [4] (by decide +kernel) (by decide +kernel)
set_option maxRecDepth 20000 in
theorem gX5_isSide_X5_isIn : GoodIn wsX5_isSide (va_wsS RX5 68 yX5_isIn wsX5_isIn) := goodIn_app (goodIn_of _ (by decide +kernel)) ggX5_isSide_X5_isIn
theorem dX5_isSide_0 : decode cX5_isSide 0 = .ok (.iload_n 0, 1) := by decide +kernel
theorem dX5_isSide_1 : decode cX5_isSide 1 = .ok (.iconst 0, 1) := by decide +kernel
theorem dX5_isSide_2 : decode cX5_isSide 2 = .ok (.iconst 1, 1) := by decide +kernel
theorem dX5_isSide_3 : decode cX5_isSide 3 = .ok (.invokestatic 68, 3) := by decide +kernel
theorem dX5_isSide_6 : decode cX5_isSide 6 = .ok (.ireturn, 1) := by decide +kernel
set_option maxRecDepth 20000 in
theorem ggX5_isThing_X5_isIn : GoodIn wsX5_isThing wsX5_isIn := goodIn_r _ [4] (by decide +kernel) (by decide +kernel)
set_option maxRecDepth 20000 in
theorem gX5_isThing_X5_isIn : GoodIn wsX5_isThing (va_wsS RX5 68 yX5_isIn wsX5_isIn) := goodIn_app (goodIn_of _ (by decide +kernel)) ggX5_isThing_X5_isIn
theorem dX5_isThing_0 : decode cX5_isThing 0 = .ok (.iload_n 0, 1) := by decide +kernel
theorem dX5_isThing_1 : decode cX5_isThing 1 = .ok (.iconst 0, 1) := by decide +kernel
theorem dX5_isThing_2 : decode cX5_isThing 2 = .ok (.iconst 4, 1) := by decide +kernel
theorem dX5_isThing_3 : decode cX5_isThing 3 = .ok (.invokestatic 68, 3) := by decide +kernel
theorem dX5_isThing_6 : decode cX5_isThing 6 = .ok (.ireturn, 1) := by decide +kernel
set_option maxRecDepth 20000 in
theorem ggX5_isKind_X5_isIn : GoodIn wsX5_isKind wsX5_isIn := goodIn_r _ [4] (by decide +kernel) (by decide +kernel)
set_option maxRecDepth 20000 in
theorem gX5_isKind_X5_isIn : GoodIn wsX5_isKind (va_wsS RX5 68 yX5_isIn wsX5_isIn) := goodIn_app (goodIn_of _ (by decide +kernel)) ggX5_isKind_X5_isIn
theorem dX5_isKind_0 : decode cX5_isKind 0 = .ok (.iload_n 0, 1) := by decide +kernel
theorem dX5_isKind_1 : decode cX5_isKind 1 = .ok (.iconst 0, 1) := by decide +kernel
theorem dX5_isKind_2 : decode cX5_isKind 2 = .ok (.bipush 6, 2) := by decide +kernel
theorem dX5_isKind_4 : decode cX5_isKind 4 = .ok (.invokestatic 68, 3) := by decide +kernel
theorem dX5_isKind_7 : decode cX5_isKind 7 = .ok (.ireturn, 1) := by decide +kernel
set_option maxRecDepth 20000 in
theorem ggX5_isSheet_X5_isIn : GoodIn wsX5_isSheet wsX5_isIn := goodIn_r _ [4] (by decide +kernel) (by decide +kernel)
set_option maxRecDepth 20000 in
theorem gX5_isSheet_X5_isIn : GoodIn wsX5_isSheet (va_wsS RX5 68 yX5_isIn wsX5_isIn) := goodIn_app (goodIn_of _ (by decide +kernel)) ggX5_isSheet_X5_isIn
theorem dX5_isSheet_0 : decode cX5_isSheet 0 = .ok (.iload_n 0, 1) := by decide +kernel
theorem dX5_isSheet_1 : decode cX5_isSheet 1 = .ok (.iconst 0, 1) := by decide +kernel
theorem dX5_isSheet_2 : decode cX5_isSheet 2 = .ok (.iconst 3, 1) := by decide +kernel
theorem dX5_isSheet_3 : decode cX5_isSheet 3 = .ok (.invokestatic 68, 3) := by decide +kernel
theorem dX5_isSheet_6 : decode cX5_isSheet 6 = .ok (.ireturn, 1) := by decide +kernel
theorem dX5_mostOf_0 : decode cX5_mostOf 0 = .ok (.iload_n 0, 1) := by decide +kernel
theorem dX5_mostOf_1 : decode cX5_mostOf 1 = .ok (.iconst 2, 1) := by decide +kernel
theorem dX5_mostOf_2 : decode cX5_mostOf 2 = .ok (.if_icmp .ne 8, 3) := by decide +kernel
theorem dX5_mostOf_5 : decode cX5_mostOf 5 = .ok (.bipush 20, 2) := by decide +kernel
theorem dX5_mostOf_7 : decode cX5_mostOf 7 = .ok (.goto 5, 3) := by decide +kernel
theorem dX5_mostOf_10 : decode cX5_mostOf 10 = .ok (.bipush 99, 2) := by decide +kernel
theorem dX5_mostOf_12 : decode cX5_mostOf 12 = .ok (.ireturn, 1) := by decide +kernel
set_option maxRecDepth 20000 in
theorem ggX5_isUnder_X5_isKind : GoodIn wsX5_isUnder wsX5_isKind := goodIn_r _ [5, 6, 7, 4, 8] (by decide +kernel) (by decide +kernel)
set_option maxRecDepth 20000 in
theorem gX5_isUnder_X5_isKind : GoodIn wsX5_isUnder (va_wsS RX5 52 yX5_isKind wsX5_isKind) := goodIn_app (goodIn_of _ (by decide +kernel)) ggX5_isUnder_X5_isKind
theorem dX5_isUnder_0 : decode cX5_isUnder 0 = .ok (.iload_n 0, 1) := by decide +kernel
theorem dX5_isUnder_1 : decode cX5_isUnder 1 = .ok (.istore_n 2, 1) := by decide +kernel
theorem dX5_isUnder_2 : decode cX5_isUnder 2 = .ok (.iconst 0, 1) := by decide +kernel
theorem dX5_isUnder_3 : decode cX5_isUnder 3 = .ok (.istore_n 3, 1) := by decide +kernel
theorem dX5_isUnder_4 : decode cX5_isUnder 4 = .ok (.iload_n 3, 1) := by decide +kernel
theorem dX5_isUnder_5 : decode cX5_isUnder 5 = .ok (.bipush 7, 2) := by decide +kernel
theorem dX5_isUnder_7 : decode cX5_isUnder 7 = .ok (.if_icmp .ge 29, 3) := by decide +kernel
theorem dX5_isUnder_10 : decode cX5_isUnder 10 = .ok (.iload_n 2, 1) := by decide +kernel
theorem dX5_isUnder_11 : decode cX5_isUnder 11 = .ok (.invokestatic 52, 3) := by decide +kernel
theorem dX5_isUnder_14 : decode cX5_isUnder 14 = .ok (.ifCond .eq 22, 3) := by decide +kernel
theorem dX5_isUnder_17 : decode cX5_isUnder 17 = .ok (.iload_n 2, 1) := by decide +kernel
theorem dX5_isUnder_18 : decode cX5_isUnder 18 = .ok (.iload_n 1, 1) := by decide +kernel
theorem dX5_isUnder_19 : decode cX5_isUnder 19 = .ok (.if_icmp .ne 5, 3) := by decide +kernel
theorem dX5_isUnder_22 : decode cX5_isUnder 22 = .ok (.iconst 1, 1) := by decide +kernel
theorem dX5_isUnder_23 : decode cX5_isUnder 23 = .ok (.ireturn, 1) := by decide +kernel
theorem dX5_isUnder_24 : decode cX5_isUnder 24 = .ok (.getstatic 263, 3) := by decide +kernel
theorem dX5_isUnder_27 : decode cX5_isUnder 27 = .ok (.iload_n 2, 1) := by decide +kernel
theorem dX5_isUnder_28 : decode cX5_isUnder 28 = .ok (.iaload, 1) := by decide +kernel
theorem dX5_isUnder_29 : decode cX5_isUnder 29 = .ok (.istore_n 2, 1) := by decide +kernel
theorem dX5_isUnder_30 : decode cX5_isUnder 30 = .ok (.iinc 3 1, 3) := by decide +kernel
theorem dX5_isUnder_33 : decode cX5_isUnder 33 = .ok (.goto (-29), 3) := by decide +kernel
theorem dX5_isUnder_36 : decode cX5_isUnder 36 = .ok (.iconst 0, 1) := by decide +kernel
theorem dX5_isUnder_37 : decode cX5_isUnder 37 = .ok (.ireturn, 1) := by decide +kernel
theorem dX5_isTooLate_0 : decode cX5_isTooLate 0 = .ok (.aload_n 0, 1) := by decide +kernel
theorem dX5_isTooLate_1 : decode cX5_isTooLate 1 = .ok (.getfield 10, 3) := by decide +kernel
theorem dX5_isTooLate_4 : decode cX5_isTooLate 4 = .ok (.getfield 59, 3) := by decide +kernel
theorem dX5_isTooLate_7 : decode cX5_isTooLate 7 = .ok (.getfield 142, 3) := by decide +kernel
theorem dX5_isTooLate_10 : decode cX5_isTooLate 10 = .ok (.iload_n 1, 1) := by decide +kernel
theorem dX5_isTooLate_11 : decode cX5_isTooLate 11 = .ok (.iadd, 1) := by decide +kernel
theorem dX5_isTooLate_12 : decode cX5_isTooLate 12 = .ok (.sipush 9999, 3) := by decide +kernel
theorem dX5_isTooLate_15 : decode cX5_isTooLate 15 = .ok (.if_icmp .le 7, 3) := by decide +kernel
theorem dX5_isTooLate_18 : decode cX5_isTooLate 18 = .ok (.iconst 1, 1) := by decide +kernel
theorem dX5_isTooLate_19 : decode cX5_isTooLate 19 = .ok (.goto 4, 3) := by decide +kernel
theorem dX5_isTooLate_22 : decode cX5_isTooLate 22 = .ok (.iconst 0, 1) := by decide +kernel
theorem dX5_isTooLate_23 : decode cX5_isTooLate 23 = .ok (.ireturn, 1) := by decide +kernel
set_option maxRecDepth 20000 in
theorem ggX5_goNights_X1_turn : GoodIn wsX5_goNights wsX1_turn := goodIn_r _ [8, 9, 106, 107, 108, 109, 110, 111, 112, 113, 114, 115] (by decide +kernel) (by decide +kernel)
set_option maxRecDepth 20000 in
theorem gX5_goNights_X1_turn : GoodIn wsX5_goNights (wsV RX5 250 RX1 yX1_turn wsX1_turn) := goodIn_app (goodIn_of _ (by decide +kernel)) ggX5_goNights_X1_turn
set_option maxRecDepth 20000 in
theorem ggX5_goNights_X1_deedOf : GoodIn wsX5_goNights wsX1_deedOf := goodIn_r _ [13, 14, 15, 16, 17, 7, 18, 19, 20, 21, 22, 23, 24, 25, 26, 27, 28, 29, 30, 31, 32, 33, 34, 35, 106, 107, 108, 109, 110, 111, 112, 113, 114, 115] (by decide +kernel) (by decide +kernel)
set_option maxRecDepth 20000 in
theorem gX5_goNights_X1_deedOf : GoodIn wsX5_goNights (wsV RX5 115 RX1 yX1_deedOf wsX1_deedOf) := goodIn_app (goodIn_of _ (by decide +kernel)) ggX5_goNights_X1_deedOf
set_option maxRecDepth 20000 in
theorem ggX5_goNights_X0_note : GoodIn wsX5_goNights wsX0_note := goodIn_r _ [40, 41, 42, 43, 44, 45, 46, 47, 48, 49, 50, 51, 52, 53, 54, 116, 117, 118, 106, 107, 108, 109, 110, 111, 112, 113, 114, 115] (by decide +kernel) (by decide +kernel)
set_option maxRecDepth 20000 in
theorem gX5_goNights_X0_note : GoodIn wsX5_goNights (wsV RX5 266 RX0 yX0_note wsX0_note) := goodIn_app (goodIn_of _ (by decide +kernel)) ggX5_goNights_X0_note
set_option maxRecDepth 20000 in
theorem ggX5_goNights_X1_carryOut : GoodIn wsX5_goNights wsX1_carryOut := goodIn_r _ [58, 9, 59, 60, 61, 7, 62, 63, 64, 65, 66, 67, 19, 68, 69, 70, 71, 72, 73, 52, 53, 54, 74, 75, 76, 77, 14, 78, 79, 80, 81, 82, 83, 84, 85, 29, 30, 31, 32, 33, 34, 35, 86, 87, 88, 89, 90, 91, 92, 93, 94, 106, 107, 108, 109, 110, 111, 112, 113, 114, 115] (by decide +kernel) (by decide +kernel)
set_option maxRecDepth 20000 in
theorem gX5_goNights_X1_carryOut : GoodIn wsX5_goNights (wsV RX5 253 RX1 yX1_carryOut wsX1_carryOut) := goodIn_app (goodIn_of _ (by decide +kernel)) ggX5_goNights_X1_carryOut
theorem dX5_goNights_0 : decode cX5_goNights 0 = .ok (.aload_n 0, 1) := by decide +kernel
theorem dX5_goNights_1 : decode cX5_goNights 1 = .ok (.getfield 10, 3) := by decide +kernel
theorem dX5_goNights_4 : decode cX5_goNights 4 = .ok (.getfield 59, 3) := by decide +kernel
theorem dX5_goNights_7 : decode cX5_goNights 7 = .ok (.astore_n 2, 1) := by decide +kernel
theorem dX5_goNights_8 : decode cX5_goNights 8 = .ok (.iconst 0, 1) := by decide +kernel
theorem dX5_goNights_9 : decode cX5_goNights 9 = .ok (.istore_n 3, 1) := by decide +kernel
theorem dX5_goNights_10 : decode cX5_goNights 10 = .ok (.iconst 0, 1) := by decide +kernel
theorem dX5_goNights_11 : decode cX5_goNights 11 = .ok (.istore 4, 2) := by decide +kernel
theorem dX5_goNights_13 : decode cX5_goNights 13 = .ok (.iload 4, 2) := by decide +kernel
theorem dX5_goNights_15 : decode cX5_goNights 15 = .ok (.iload_n 1, 1) := by decide +kernel
theorem dX5_goNights_16 : decode cX5_goNights 16 = .ok (.if_icmp .ge 55, 3) := by decide +kernel
theorem dX5_goNights_19 : decode cX5_goNights 19 = .ok (.aload_n 2, 1) := by decide +kernel
theorem dX5_goNights_20 : decode cX5_goNights 20 = .ok (.invokevirtual 250, 3) := by decide +kernel
theorem dX5_goNights_23 : decode cX5_goNights 23 = .ok (.istore 5, 2) := by decide +kernel
theorem dX5_goNights_25 : decode cX5_goNights 25 = .ok (.aload_n 2, 1) := by decide +kernel
theorem dX5_goNights_26 : decode cX5_goNights 26 = .ok (.iload 5, 2) := by decide +kernel
theorem dX5_goNights_28 : decode cX5_goNights 28 = .ok (.invokevirtual 115, 3) := by decide +kernel
theorem dX5_goNights_31 : decode cX5_goNights 31 = .ok (.istore 6, 2) := by decide +kernel
theorem dX5_goNights_33 : decode cX5_goNights 33 = .ok (.aload_n 0, 1) := by decide +kernel
theorem dX5_goNights_34 : decode cX5_goNights 34 = .ok (.getfield 10, 3) := by decide +kernel
theorem dX5_goNights_37 : decode cX5_goNights 37 = .ok (.getfield 149, 3) := by decide +kernel
theorem dX5_goNights_40 : decode cX5_goNights 40 = .ok (.aload_n 2, 1) := by decide +kernel
theorem dX5_goNights_41 : decode cX5_goNights 41 = .ok (.iload 5, 2) := by decide +kernel
theorem dX5_goNights_43 : decode cX5_goNights 43 = .ok (.iload 6, 2) := by decide +kernel
theorem dX5_goNights_45 : decode cX5_goNights 45 = .ok (.invokevirtual 266, 3) := by decide +kernel
theorem dX5_goNights_48 : decode cX5_goNights 48 = .ok (.aload_n 2, 1) := by decide +kernel
theorem dX5_goNights_49 : decode cX5_goNights 49 = .ok (.iload 5, 2) := by decide +kernel
theorem dX5_goNights_51 : decode cX5_goNights 51 = .ok (.iload 6, 2) := by decide +kernel
theorem dX5_goNights_53 : decode cX5_goNights 53 = .ok (.invokevirtual 253, 3) := by decide +kernel
theorem dX5_goNights_56 : decode cX5_goNights 56 = .ok (.iload 6, 2) := by decide +kernel
theorem dX5_goNights_58 : decode cX5_goNights 58 = .ok (.iconst 1, 1) := by decide +kernel
theorem dX5_goNights_59 : decode cX5_goNights 59 = .ok (.if_icmp .ne 6, 3) := by decide +kernel
theorem dX5_goNights_62 : decode cX5_goNights 62 = .ok (.iinc 3 1, 3) := by decide +kernel
theorem dX5_goNights_65 : decode cX5_goNights 65 = .ok (.iinc 4 1, 3) := by decide +kernel
theorem dX5_goNights_68 : decode cX5_goNights 68 = .ok (.goto (-55), 3) := by decide +kernel
theorem dX5_goNights_71 : decode cX5_goNights 71 = .ok (.iload_n 3, 1) := by decide +kernel
theorem dX5_goNights_72 : decode cX5_goNights 72 = .ok (.ireturn, 1) := by decide +kernel
set_option maxRecDepth 20000 in
theorem ggX5_bestHeap_X5_tryHeap : GoodIn wsX5_bestHeap wsX5_tryHeap := goodIn_r _ [6, 1, 7, 8, 9, 10, 11, 12, 13, 14, 15, 16, 17, 18, 19, 20, 21, 22, 23, 24, 25, 26, 27, 28, 29, 30, 31, 32, 33, 34, 35, 36, 37, 38, 39, 40, 41, 42, 43, 44, 45, 46, 47, 109, 110, 111, 112, 113, 114, 115, 116, 117, 118, 119, 120, 121, 122, 123, 124, 125, 126, 127, 128, 129] (by decide +kernel) (by decide +kernel)
set_option maxRecDepth 20000 in
theorem gX5_bestHeap_X5_tryHeap : GoodIn wsX5_bestHeap (wsV RX5 177 RX5 yX5_tryHeap wsX5_tryHeap) := goodIn_app (goodIn_of _ (by decide +kernel)) ggX5_bestHeap_X5_tryHeap
set_option maxRecDepth 20000 in
theorem ggX5_bestHeap_X1_passNights : GoodIn wsX5_bestHeap wsX1_passNights := goodIn_r _ [51, 52, 53, 54, 12, 55, 25, 56, 57, 58, 59, 23, 60, 61, 62, 63, 20, 64, 65, 66, 67, 22, 68, 69, 70, 71, 72, 73, 74, 75, 21, 14, 24, 76, 77, 78, 79, 80, 81, 82, 83, 26, 84, 29, 30, 31, 32, 33, 34, 35, 19, 36, 37, 38, 39, 85, 86, 87, 88, 89, 90, 91, 92, 93, 94, 95, 96, 97, 98, 99, 100, 27, 101, 102, 103, 104, 120, 121, 122, 123, 124, 125, 126, 127, 128, 129] (by decide +kernel) (by decide +kernel)
set_option maxRecDepth 20000 in
theorem gX5_bestHeap_X1_passNights : GoodIn wsX5_bestHeap (wsV RX5 165 RX1 yX1_passNights wsX1_passNights) := goodIn_app (goodIn_of _ (by decide +kernel)) ggX5_bestHeap_X1_passNights
set_option maxRecDepth 20000 in
theorem ggX5_bestHeap_X1_wealth : GoodIn wsX5_bestHeap wsX1_wealth := goodIn_r _ [108, 19, 20, 72, 73, 74, 12, 75, 21, 14, 24, 120, 121, 122, 123, 124, 125, 126, 127, 128, 129] (by decide +kernel) (by decide +kernel)
set_option maxRecDepth 20000 in
theorem gX5_bestHeap_X1_wealth : GoodIn wsX5_bestHeap (wsV RX5 171 RX1 yX1_wealth wsX1_wealth) := goodIn_app (goodIn_of _ (by decide +kernel)) ggX5_bestHeap_X1_wealth
theorem dX5_bestHeap_0 : decode cX5_bestHeap 0 = .ok (.iconst 0, 1) := by decide +kernel
theorem dX5_bestHeap_1 : decode cX5_bestHeap 1 = .ok (.istore_n 3, 1) := by decide +kernel
theorem dX5_bestHeap_2 : decode cX5_bestHeap 2 = .ok (.iconst 0, 1) := by decide +kernel
theorem dX5_bestHeap_3 : decode cX5_bestHeap 3 = .ok (.istore 4, 2) := by decide +kernel
theorem dX5_bestHeap_5 : decode cX5_bestHeap 5 = .ok (.iconst 0, 1) := by decide +kernel
theorem dX5_bestHeap_6 : decode cX5_bestHeap 6 = .ok (.istore 5, 2) := by decide +kernel
theorem dX5_bestHeap_8 : decode cX5_bestHeap 8 = .ok (.iload 5, 2) := by decide +kernel
theorem dX5_bestHeap_10 : decode cX5_bestHeap 10 = .ok (.bipush 64, 2) := by decide +kernel
theorem dX5_bestHeap_12 : decode cX5_bestHeap 12 = .ok (.if_icmp .ge 57, 3) := by decide +kernel
theorem dX5_bestHeap_15 : decode cX5_bestHeap 15 = .ok (.aload_n 0, 1) := by decide +kernel
theorem dX5_bestHeap_16 : decode cX5_bestHeap 16 = .ok (.iload_n 1, 1) := by decide +kernel
theorem dX5_bestHeap_17 : decode cX5_bestHeap 17 = .ok (.iload 5, 2) := by decide +kernel
theorem dX5_bestHeap_19 : decode cX5_bestHeap 19 = .ok (.invokevirtual 177, 3) := by decide +kernel
theorem dX5_bestHeap_22 : decode cX5_bestHeap 22 = .ok (.ifCond .eq 41, 3) := by decide +kernel
theorem dX5_bestHeap_25 : decode cX5_bestHeap 25 = .ok (.aload_n 0, 1) := by decide +kernel
theorem dX5_bestHeap_26 : decode cX5_bestHeap 26 = .ok (.getfield 26, 3) := by decide +kernel
theorem dX5_bestHeap_29 : decode cX5_bestHeap 29 = .ok (.iload_n 2, 1) := by decide +kernel
theorem dX5_bestHeap_30 : decode cX5_bestHeap 30 = .ok (.invokevirtual 165, 3) := by decide +kernel
theorem dX5_bestHeap_33 : decode cX5_bestHeap 33 = .ok (.pop, 1) := by decide +kernel
theorem dX5_bestHeap_34 : decode cX5_bestHeap 34 = .ok (.aload_n 0, 1) := by decide +kernel
theorem dX5_bestHeap_35 : decode cX5_bestHeap 35 = .ok (.getfield 26, 3) := by decide +kernel
theorem dX5_bestHeap_38 : decode cX5_bestHeap 38 = .ok (.iload_n 1, 1) := by decide +kernel
theorem dX5_bestHeap_39 : decode cX5_bestHeap 39 = .ok (.invokevirtual 171, 3) := by decide +kernel
theorem dX5_bestHeap_42 : decode cX5_bestHeap 42 = .ok (.istore 6, 2) := by decide +kernel
theorem dX5_bestHeap_44 : decode cX5_bestHeap 44 = .ok (.iload 5, 2) := by decide +kernel
theorem dX5_bestHeap_46 : decode cX5_bestHeap 46 = .ok (.ifCond .eq 10, 3) := by decide +kernel
theorem dX5_bestHeap_49 : decode cX5_bestHeap 49 = .ok (.iload 6, 2) := by decide +kernel
theorem dX5_bestHeap_51 : decode cX5_bestHeap 51 = .ok (.iload 4, 2) := by decide +kernel
theorem dX5_bestHeap_53 : decode cX5_bestHeap 53 = .ok (.if_icmp .le 10, 3) := by decide +kernel
theorem dX5_bestHeap_56 : decode cX5_bestHeap 56 = .ok (.iload 5, 2) := by decide +kernel
theorem dX5_bestHeap_58 : decode cX5_bestHeap 58 = .ok (.istore_n 3, 1) := by decide +kernel
theorem dX5_bestHeap_59 : decode cX5_bestHeap 59 = .ok (.iload 6, 2) := by decide +kernel
theorem dX5_bestHeap_61 : decode cX5_bestHeap 61 = .ok (.istore 4, 2) := by decide +kernel
theorem dX5_bestHeap_63 : decode cX5_bestHeap 63 = .ok (.iinc 5 1, 3) := by decide +kernel
theorem dX5_bestHeap_66 : decode cX5_bestHeap 66 = .ok (.goto (-58), 3) := by decide +kernel
theorem dX5_bestHeap_69 : decode cX5_bestHeap 69 = .ok (.iload_n 3, 1) := by decide +kernel
theorem dX5_bestHeap_70 : decode cX5_bestHeap 70 = .ok (.ireturn, 1) := by decide +kernel
set_option maxRecDepth 20000 in
theorem ggX5_tryHeap_X1_copyFrom : GoodIn wsX5_tryHeap wsX1_copyFrom := goodIn_r _ [8, 9, 10, 11, 12, 13, 14, 15, 16, 17, 18, 19, 20, 21, 22, 54, 55, 56, 57, 58, 59, 60, 61, 62, 63] (by decide +kernel) (by decide +kernel)
set_option maxRecDepth 20000 in
theorem gX5_tryHeap_X1_copyFrom : GoodIn wsX5_tryHeap (wsV RX5 161 RX1 yX1_copyFrom wsX1_copyFrom) := goodIn_app (goodIn_of _ (by decide +kernel)) ggX5_tryHeap_X1_copyFrom
set_option maxRecDepth 20000 in
theorem ggX5_tryHeap_X1_bringHome : GoodIn wsX5_tryHeap wsX1_bringHome := goodIn_r _ [26, 15, 27, 28, 29, 7, 30, 14, 31, 32, 33, 34, 54, 55, 56, 57, 58, 59, 60, 61, 62, 63] (by decide +kernel) (by decide +kernel)
set_option maxRecDepth 20000 in
theorem gX5_tryHeap_X1_bringHome : GoodIn wsX5_tryHeap (wsV RX5 124 RX1 yX1_bringHome wsX1_bringHome) := goodIn_app (goodIn_of _ (by decide +kernel)) ggX5_tryHeap_X1_bringHome
set_option maxRecDepth 20000 in
theorem ggX5_tryHeap_X1_mayLay : GoodIn wsX5_tryHeap wsX1_mayLay := goodIn_r _ [38, 14, 18, 15, 54, 55, 56, 57, 58, 59, 60, 61, 62, 63] (by decide +kernel) (by decide +kernel)
set_option maxRecDepth 20000 in
theorem gX5_tryHeap_X1_mayLay : GoodIn wsX5_tryHeap (wsV RX5 100 RX1 yX1_mayLay wsX1_mayLay) := goodIn_app (goodIn_of _ (by decide +kernel)) ggX5_tryHeap_X1_mayLay
set_option maxRecDepth 20000 in
theorem ggX5_tryHeap_X1_layDown : GoodIn wsX5_tryHeap wsX1_layDown := goodIn_r _ [42, 14, 15, 54, 55, 56, 57, 58, 59, 60, 61, 62, 63] (by decide +kernel) (by decide +kernel)
set_option maxRecDepth 20000 in
theorem gX5_tryHeap_X1_layDown : GoodIn wsX5_tryHeap (wsV RX5 103 RX1 yX1_layDown wsX1_layDown) := goodIn_app (goodIn_of _ (by decide +kernel)) ggX5_tryHeap_X1_layDown
theorem dX5_tryHeap_0 : decode cX5_tryHeap 0 = .ok (.aload_n 0, 1) := by decide +kernel
theorem dX5_tryHeap_1 : decode cX5_tryHeap 1 = .ok (.getfield 26, 3) := by decide +kernel
theorem dX5_tryHeap_4 : decode cX5_tryHeap 4 = .ok (.aload_n 0, 1) := by decide +kernel
theorem dX5_tryHeap_5 : decode cX5_tryHeap 5 = .ok (.getfield 10, 3) := by decide +kernel
theorem dX5_tryHeap_8 : decode cX5_tryHeap 8 = .ok (.getfield 59, 3) := by decide +kernel
theorem dX5_tryHeap_11 : decode cX5_tryHeap 11 = .ok (.invokevirtual 161, 3) := by decide +kernel
theorem dX5_tryHeap_14 : decode cX5_tryHeap 14 = .ok (.aload_n 0, 1) := by decide +kernel
theorem dX5_tryHeap_15 : decode cX5_tryHeap 15 = .ok (.getfield 26, 3) := by decide +kernel
theorem dX5_tryHeap_18 : decode cX5_tryHeap 18 = .ok (.iload_n 1, 1) := by decide +kernel
theorem dX5_tryHeap_19 : decode cX5_tryHeap 19 = .ok (.iload_n 1, 1) := by decide +kernel
theorem dX5_tryHeap_20 : decode cX5_tryHeap 20 = .ok (.invokevirtual 124, 3) := by decide +kernel
theorem dX5_tryHeap_23 : decode cX5_tryHeap 23 = .ok (.iconst 0, 1) := by decide +kernel
theorem dX5_tryHeap_24 : decode cX5_tryHeap 24 = .ok (.istore_n 3, 1) := by decide +kernel
theorem dX5_tryHeap_25 : decode cX5_tryHeap 25 = .ok (.iload_n 3, 1) := by decide +kernel
theorem dX5_tryHeap_26 : decode cX5_tryHeap 26 = .ok (.iconst 3, 1) := by decide +kernel
theorem dX5_tryHeap_27 : decode cX5_tryHeap 27 = .ok (.if_icmp .ge 46, 3) := by decide +kernel
theorem dX5_tryHeap_30 : decode cX5_tryHeap 30 = .ok (.iload_n 2, 1) := by decide +kernel
theorem dX5_tryHeap_31 : decode cX5_tryHeap 31 = .ok (.iconst 2, 1) := by decide +kernel
theorem dX5_tryHeap_32 : decode cX5_tryHeap 32 = .ok (.iload_n 3, 1) := by decide +kernel
theorem dX5_tryHeap_33 : decode cX5_tryHeap 33 = .ok (.imul, 1) := by decide +kernel
theorem dX5_tryHeap_34 : decode cX5_tryHeap 34 = .ok (.ishr, 1) := by decide +kernel
theorem dX5_tryHeap_35 : decode cX5_tryHeap 35 = .ok (.iconst 3, 1) := by decide +kernel
theorem dX5_tryHeap_36 : decode cX5_tryHeap 36 = .ok (.iand, 1) := by decide +kernel
theorem dX5_tryHeap_37 : decode cX5_tryHeap 37 = .ok (.istore 4, 2) := by decide +kernel
