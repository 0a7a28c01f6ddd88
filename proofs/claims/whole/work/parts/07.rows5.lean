set_option maxRecDepth 20000 in
theorem ggX6_empty_X6_copyRow : GoodIn wsX6_empty wsX6_copyRow := goodIn_r _ [22] (by decide +kernel) (by decide +kernel)
set_option maxRecDepth 20000 in
theorem gX6_empty_X6_copyRow : GoodIn wsX6_empty (va_wsS RX6 65 yX6_copyRow wsX6_copyRow) := goodIn_app (goodIn_of _ (by decide +kernel)) ggX6_empty_X6_copyRow
set_option maxRecDepth 20000 in
theorem ggX6_empty_X6_inHeaps : GoodIn wsX6_empty wsX6_inHeaps := goodIn_r _ [26, 27, 28, 29, 8, 30, 31, 32, 33, 34, 2, 35, 36, 37, 115, 116, 117, 118, 119, 120, 121, 122, 123, 124, 125, 126, 127, 128, 129, 130, 131, 132, 133, 134, 135, 136] (by decide +kernel) (by decide +kernel)
set_option maxRecDepth 20000 in
theorem gX6_empty_X6_inHeaps : GoodIn wsX6_empty (wsV RX6 185 RX6 yX6_inHeaps wsX6_inHeaps) := goodIn_app (goodIn_of _ (by decide +kernel)) ggX6_empty_X6_inHeaps
set_option maxRecDepth 20000 in
theorem ggX6_empty_X6_night : GoodIn wsX6_empty wsX6_night := goodIn_r _ [41, 2, 42, 43, 44, 8, 45, 31, 32, 33, 34, 35, 36, 37, 46, 47, 48, 49, 27, 28, 29, 30, 50, 51, 52, 53, 54, 55, 56, 57, 58, 59, 60, 61, 62, 63, 64, 65, 66, 67, 68, 69, 70, 71, 72, 73, 74, 75, 76, 77, 78, 79, 80, 81, 82, 83, 84, 85, 86, 87, 88, 89, 90, 91, 92, 93, 94, 95, 96, 97, 98, 99, 100, 101, 102, 103, 104, 105, 106, 107, 108, 109, 110, 115, 116, 117, 118, 119, 120, 121, 122, 123, 124, 125, 126, 127, 128, 129, 130, 131, 132, 133, 134, 135, 136] (by decide +kernel) (by decide +kernel)
set_option maxRecDepth 20000 in
theorem gX6_empty_X6_night : GoodIn wsX6_empty (wsV RX6 172 RX6 yX6_night wsX6_night) := goodIn_app (goodIn_of _ (by decide +kernel)) ggX6_empty_X6_night
set_option maxRecDepth 20000 in
theorem ggX6_empty_X6_putBack : GoodIn wsX6_empty wsX6_putBack := goodIn_r _ [114, 3, 2, 20, 21, 8, 22, 115, 116, 117, 118, 119, 120, 121, 122, 123, 124, 125, 126, 127, 128, 129, 130, 131, 132, 133, 134, 135, 136] (by decide +kernel) (by decide +kernel)
set_option maxRecDepth 20000 in
theorem gX6_empty_X6_putBack : GoodIn wsX6_empty (wsV RX6 188 RX6 yX6_putBack wsX6_putBack) := goodIn_app (goodIn_of _ (by decide +kernel)) ggX6_empty_X6_putBack
theorem dX6_empty_0 : decode cX6_empty 0 = .ok (.aload_n 0, 1) := by decide +kernel
theorem dX6_empty_1 : decode cX6_empty 1 = .ok (.invokevirtual 191, 3) := by decide +kernel
theorem dX6_empty_4 : decode cX6_empty 4 = .ok (.ifCond .eq 10, 3) := by decide +kernel
theorem dX6_empty_7 : decode cX6_empty 7 = .ok (.aload_n 0, 1) := by decide +kernel
theorem dX6_empty_8 : decode cX6_empty 8 = .ok (.ldc 134, 2) := by decide +kernel
theorem dX6_empty_10 : decode cX6_empty 10 = .ok (.invokevirtual 83, 3) := by decide +kernel
theorem dX6_empty_13 : decode cX6_empty 13 = .ok (.ireturn, 1) := by decide +kernel
theorem dX6_empty_14 : decode cX6_empty 14 = .ok (.aload_n 0, 1) := by decide +kernel
theorem dX6_empty_15 : decode cX6_empty 15 = .ok (.getfield 9, 3) := by decide +kernel
theorem dX6_empty_18 : decode cX6_empty 18 = .ok (.aload_n 0, 1) := by decide +kernel
theorem dX6_empty_19 : decode cX6_empty 19 = .ok (.getfield 16, 3) := by decide +kernel
theorem dX6_empty_22 : decode cX6_empty 22 = .ok (.invokestatic 65, 3) := by decide +kernel
theorem dX6_empty_25 : decode cX6_empty 25 = .ok (.iconst 0, 1) := by decide +kernel
theorem dX6_empty_26 : decode cX6_empty 26 = .ok (.istore_n 1, 1) := by decide +kernel
theorem dX6_empty_27 : decode cX6_empty 27 = .ok (.iload_n 1, 1) := by decide +kernel
theorem dX6_empty_28 : decode cX6_empty 28 = .ok (.bipush 60, 2) := by decide +kernel
theorem dX6_empty_30 : decode cX6_empty 30 = .ok (.if_icmp .gt 28, 3) := by decide +kernel
theorem dX6_empty_33 : decode cX6_empty 33 = .ok (.aload_n 0, 1) := by decide +kernel
theorem dX6_empty_34 : decode cX6_empty 34 = .ok (.invokevirtual 185, 3) := by decide +kernel
theorem dX6_empty_37 : decode cX6_empty 37 = .ok (.ifCond .le 21, 3) := by decide +kernel
theorem dX6_empty_40 : decode cX6_empty 40 = .ok (.iload_n 1, 1) := by decide +kernel
theorem dX6_empty_41 : decode cX6_empty 41 = .ok (.aload_n 0, 1) := by decide +kernel
theorem dX6_empty_42 : decode cX6_empty 42 = .ok (.invokevirtual 172, 3) := by decide +kernel
theorem dX6_empty_45 : decode cX6_empty 45 = .ok (.ifCond .ge 7, 3) := by decide +kernel
theorem dX6_empty_48 : decode cX6_empty 48 = .ok (.iconst 0, 1) := by decide +kernel
theorem dX6_empty_49 : decode cX6_empty 49 = .ok (.goto 4, 3) := by decide +kernel
theorem dX6_empty_52 : decode cX6_empty 52 = .ok (.iconst 1, 1) := by decide +kernel
theorem dX6_empty_53 : decode cX6_empty 53 = .ok (.iadd, 1) := by decide +kernel
theorem dX6_empty_54 : decode cX6_empty 54 = .ok (.istore_n 1, 1) := by decide +kernel
theorem dX6_empty_55 : decode cX6_empty 55 = .ok (.goto (-28), 3) := by decide +kernel
theorem dX6_empty_58 : decode cX6_empty 58 = .ok (.aload_n 0, 1) := by decide +kernel
theorem dX6_empty_59 : decode cX6_empty 59 = .ok (.iload_n 1, 1) := by decide +kernel
theorem dX6_empty_60 : decode cX6_empty 60 = .ok (.invokevirtual 188, 3) := by decide +kernel
theorem dX6_empty_63 : decode cX6_empty 63 = .ok (.bipush 60, 2) := by decide +kernel
theorem dX6_empty_65 : decode cX6_empty 65 = .ok (.if_icmp .le 12, 3) := by decide +kernel
theorem dX6_empty_68 : decode cX6_empty 68 = .ok (.aload_n 0, 1) := by decide +kernel
theorem dX6_empty_69 : decode cX6_empty 69 = .ok (.ldc 147, 2) := by decide +kernel
theorem dX6_empty_71 : decode cX6_empty 71 = .ok (.invokevirtual 83, 3) := by decide +kernel
theorem dX6_empty_74 : decode cX6_empty 74 = .ok (.goto 4, 3) := by decide +kernel
theorem dX6_empty_77 : decode cX6_empty 77 = .ok (.iload_n 1, 1) := by decide +kernel
theorem dX6_empty_78 : decode cX6_empty 78 = .ok (.ireturn, 1) := by decide +kernel
set_option maxRecDepth 20000 in
theorem ggX6_refuses_X6_within : GoodIn wsX6_refuses wsX6_within := goodIn_r _ [6] (by decide +kernel) (by decide +kernel)
set_option maxRecDepth 20000 in
theorem gX6_refuses_X6_within : GoodIn wsX6_refuses (va_wsS RX6 69 yX6_within wsX6_within) := goodIn_app (goodIn_of _ (by decide +kernel)) ggX6_refuses_X6_within
set_option maxRecDepth 20000 in
theorem ggX6_refuses_X6_isTooLate : GoodIn wsX6_refuses wsX6_isTooLate := goodIn_r _ [10, 11, 12, 13, 14, 15, 16, 17, 18, 19, 20, 21, 22, 23, 24, 25, 26, 27, 28, 29, 30, 31, 32, 33] (by decide +kernel) (by decide +kernel)
set_option maxRecDepth 20000 in
theorem gX6_refuses_X6_isTooLate : GoodIn wsX6_refuses (wsV RX6 176 RX6 yX6_isTooLate wsX6_isTooLate) := goodIn_app (goodIn_of _ (by decide +kernel)) ggX6_refuses_X6_isTooLate
theorem dX6_refuses_0 : decode cX6_refuses 0 = .ok (.iload_n 1, 1) := by decide +kernel
theorem dX6_refuses_1 : decode cX6_refuses 1 = .ok (.ifCond .eq 12, 3) := by decide +kernel
theorem dX6_refuses_4 : decode cX6_refuses 4 = .ok (.iload_n 2, 1) := by decide +kernel
theorem dX6_refuses_5 : decode cX6_refuses 5 = .ok (.iconst 1, 1) := by decide +kernel
theorem dX6_refuses_6 : decode cX6_refuses 6 = .ok (.iload_n 3, 1) := by decide +kernel
theorem dX6_refuses_7 : decode cX6_refuses 7 = .ok (.invokestatic 69, 3) := by decide +kernel
theorem dX6_refuses_10 : decode cX6_refuses 10 = .ok (.ifCond .ne 8, 3) := by decide +kernel
theorem dX6_refuses_13 : decode cX6_refuses 13 = .ok (.ldc 64, 2) := by decide +kernel
theorem dX6_refuses_15 : decode cX6_refuses 15 = .ok (.goto 17, 3) := by decide +kernel
theorem dX6_refuses_18 : decode cX6_refuses 18 = .ok (.aload_n 0, 1) := by decide +kernel
theorem dX6_refuses_19 : decode cX6_refuses 19 = .ok (.iload_n 2, 1) := by decide +kernel
theorem dX6_refuses_20 : decode cX6_refuses 20 = .ok (.invokevirtual 176, 3) := by decide +kernel
theorem dX6_refuses_23 : decode cX6_refuses 23 = .ok (.ifCond .eq 8, 3) := by decide +kernel
theorem dX6_refuses_26 : decode cX6_refuses 26 = .ok (.ldc 134, 2) := by decide +kernel
theorem dX6_refuses_28 : decode cX6_refuses 28 = .ok (.goto 4, 3) := by decide +kernel
theorem dX6_refuses_31 : decode cX6_refuses 31 = .ok (.iconst 0, 1) := by decide +kernel
theorem dX6_refuses_32 : decode cX6_refuses 32 = .ok (.ireturn, 1) := by decide +kernel
set_option maxRecDepth 20000 in
theorem ggX6_then_X6_nightsGo : GoodIn wsX6_then wsX6_nightsGo := goodIn_r _ [7, 8, 9, 10, 6, 11, 2, 12, 13, 14, 15, 16, 17, 18, 19, 20, 21, 22, 23, 24, 25, 26, 27, 28, 29, 30, 31, 32, 33, 34, 35, 36, 37, 38, 39, 40, 41, 42, 43, 44, 45, 46, 47, 48, 49, 50, 51, 52, 53, 54, 55, 56, 57, 58, 59, 60, 61, 62, 63, 64, 65, 66, 67, 68, 69, 70, 71, 72, 73, 74, 75, 76, 77, 78, 79, 80, 81, 82, 83, 84, 85, 86, 87, 88, 89, 90, 91, 99, 100, 101, 102, 103, 104, 105, 106, 107, 108, 109, 110, 111, 112, 113, 114, 115, 116, 117, 118, 119, 120] (by decide +kernel) (by decide +kernel)
set_option maxRecDepth 20000 in
theorem gX6_then_X6_nightsGo : GoodIn wsX6_then (wsV RX6 179 RX6 yX6_nightsGo wsX6_nightsGo) := goodIn_app (goodIn_of _ (by decide +kernel)) ggX6_then_X6_nightsGo
set_option maxRecDepth 20000 in
theorem ggX6_then_X6_allOf : GoodIn wsX6_then wsX6_allOf := goodIn_r _ [95, 16, 17, 18, 6, 19, 2, 20, 21, 22, 39, 40, 41, 42, 43, 44, 45, 46, 47, 48, 49, 50, 51, 52, 99, 100, 101, 102, 103, 104, 105, 106, 107, 108, 109, 110, 111, 112, 113, 114, 115, 116, 117, 118, 119, 120] (by decide +kernel) (by decide +kernel)
set_option maxRecDepth 20000 in
theorem gX6_then_X6_allOf : GoodIn wsX6_then (wsV RX6 182 RX6 yX6_allOf wsX6_allOf) := goodIn_app (goodIn_of _ (by decide +kernel)) ggX6_then_X6_allOf
set_option maxRecDepth 20000 in
theorem ggX6_then_X6_copyRow : GoodIn wsX6_then wsX6_copyRow := goodIn_r _ [98] (by decide +kernel) (by decide +kernel)
set_option maxRecDepth 20000 in
theorem gX6_then_X6_copyRow : GoodIn wsX6_then (va_wsS RX6 65 yX6_copyRow wsX6_copyRow) := goodIn_app (goodIn_of _ (by decide +kernel)) ggX6_then_X6_copyRow
theorem dX6_then_0 : decode cX6_then 0 = .ok (.aload_n 0, 1) := by decide +kernel
theorem dX6_then_1 : decode cX6_then 1 = .ok (.iload_n 2, 1) := by decide +kernel
theorem dX6_then_2 : decode cX6_then 2 = .ok (.invokevirtual 179, 3) := by decide +kernel
theorem dX6_then_5 : decode cX6_then 5 = .ok (.istore_n 3, 1) := by decide +kernel
theorem dX6_then_6 : decode cX6_then 6 = .ok (.iload_n 3, 1) := by decide +kernel
theorem dX6_then_7 : decode cX6_then 7 = .ok (.ifCond .ge 7, 3) := by decide +kernel
theorem dX6_then_10 : decode cX6_then 10 = .ok (.iconst 0, 1) := by decide +kernel
theorem dX6_then_11 : decode cX6_then 11 = .ok (.goto 8, 3) := by decide +kernel
theorem dX6_then_14 : decode cX6_then 14 = .ok (.aload_n 0, 1) := by decide +kernel
theorem dX6_then_15 : decode cX6_then 15 = .ok (.iload_n 1, 1) := by decide +kernel
theorem dX6_then_16 : decode cX6_then 16 = .ok (.invokevirtual 182, 3) := by decide +kernel
theorem dX6_then_19 : decode cX6_then 19 = .ok (.istore 4, 2) := by decide +kernel
theorem dX6_then_21 : decode cX6_then 21 = .ok (.aload_n 0, 1) := by decide +kernel
theorem dX6_then_22 : decode cX6_then 22 = .ok (.getfield 16, 3) := by decide +kernel
theorem dX6_then_25 : decode cX6_then 25 = .ok (.aload_n 0, 1) := by decide +kernel
theorem dX6_then_26 : decode cX6_then 26 = .ok (.getfield 9, 3) := by decide +kernel
theorem dX6_then_29 : decode cX6_then 29 = .ok (.invokestatic 65, 3) := by decide +kernel
theorem dX6_then_32 : decode cX6_then 32 = .ok (.iload 4, 2) := by decide +kernel
theorem dX6_then_34 : decode cX6_then 34 = .ok (.ireturn, 1) := by decide +kernel
set_option maxRecDepth 20000 in
theorem ggX6_mayHave_X6_sideIs : GoodIn wsX6_mayHave wsX6_sideIs := goodIn_r _ [5, 6, 7, 8, 4, 9, 10, 11, 12, 13, 14, 15, 16, 17, 18, 19, 20, 21, 22, 23, 24, 25, 26, 27, 28, 29, 30, 31] (by decide +kernel) (by decide +kernel)
set_option maxRecDepth 20000 in
theorem gX6_mayHave_X6_sideIs : GoodIn wsX6_mayHave (wsV RX6 93 RX6 yX6_sideIs wsX6_sideIs) := goodIn_app (goodIn_of _ (by decide +kernel)) ggX6_mayHave_X6_sideIs
theorem dX6_mayHave_0 : decode cX6_mayHave 0 = .ok (.aload_n 0, 1) := by decide +kernel
theorem dX6_mayHave_1 : decode cX6_mayHave 1 = .ok (.iload_n 1, 1) := by decide +kernel
theorem dX6_mayHave_2 : decode cX6_mayHave 2 = .ok (.iconst 2, 1) := by decide +kernel
theorem dX6_mayHave_3 : decode cX6_mayHave 3 = .ok (.invokevirtual 93, 3) := by decide +kernel
theorem dX6_mayHave_6 : decode cX6_mayHave 6 = .ok (.iload_n 2, 1) := by decide +kernel
theorem dX6_mayHave_7 : decode cX6_mayHave 7 = .ok (.iconst 4, 1) := by decide +kernel
theorem dX6_mayHave_8 : decode cX6_mayHave 8 = .ok (.irem, 1) := by decide +kernel
theorem dX6_mayHave_9 : decode cX6_mayHave 9 = .ok (.if_icmp .lt 34, 3) := by decide +kernel
theorem dX6_mayHave_12 : decode cX6_mayHave 12 = .ok (.aload_n 0, 1) := by decide +kernel
theorem dX6_mayHave_13 : decode cX6_mayHave 13 = .ok (.iload_n 1, 1) := by decide +kernel
theorem dX6_mayHave_14 : decode cX6_mayHave 14 = .ok (.iconst 3, 1) := by decide +kernel
theorem dX6_mayHave_15 : decode cX6_mayHave 15 = .ok (.invokevirtual 93, 3) := by decide +kernel
theorem dX6_mayHave_18 : decode cX6_mayHave 18 = .ok (.iload_n 2, 1) := by decide +kernel
theorem dX6_mayHave_19 : decode cX6_mayHave 19 = .ok (.iconst 4, 1) := by decide +kernel
theorem dX6_mayHave_20 : decode cX6_mayHave 20 = .ok (.idiv, 1) := by decide +kernel
theorem dX6_mayHave_21 : decode cX6_mayHave 21 = .ok (.iconst 4, 1) := by decide +kernel
theorem dX6_mayHave_22 : decode cX6_mayHave 22 = .ok (.irem, 1) := by decide +kernel
theorem dX6_mayHave_23 : decode cX6_mayHave 23 = .ok (.if_icmp .lt 20, 3) := by decide +kernel
theorem dX6_mayHave_26 : decode cX6_mayHave 26 = .ok (.aload_n 0, 1) := by decide +kernel
theorem dX6_mayHave_27 : decode cX6_mayHave 27 = .ok (.iload_n 1, 1) := by decide +kernel
theorem dX6_mayHave_28 : decode cX6_mayHave 28 = .ok (.iconst 4, 1) := by decide +kernel
theorem dX6_mayHave_29 : decode cX6_mayHave 29 = .ok (.invokevirtual 93, 3) := by decide +kernel
theorem dX6_mayHave_32 : decode cX6_mayHave 32 = .ok (.iload_n 2, 1) := by decide +kernel
theorem dX6_mayHave_33 : decode cX6_mayHave 33 = .ok (.bipush 16, 2) := by decide +kernel
theorem dX6_mayHave_35 : decode cX6_mayHave 35 = .ok (.idiv, 1) := by decide +kernel
theorem dX6_mayHave_36 : decode cX6_mayHave 36 = .ok (.if_icmp .lt 7, 3) := by decide +kernel
theorem dX6_mayHave_39 : decode cX6_mayHave 39 = .ok (.iconst 1, 1) := by decide +kernel
theorem dX6_mayHave_40 : decode cX6_mayHave 40 = .ok (.goto 4, 3) := by decide +kernel
theorem dX6_mayHave_43 : decode cX6_mayHave 43 = .ok (.iconst 0, 1) := by decide +kernel
theorem dX6_mayHave_44 : decode cX6_mayHave 44 = .ok (.ireturn, 1) := by decide +kernel
set_option maxRecDepth 20000 in
theorem ggX6_findBest_X6_copyRow : GoodIn wsX6_findBest wsX6_copyRow := goodIn_r _ [8] (by decide +kernel) (by decide +kernel)
set_option maxRecDepth 20000 in
theorem gX6_findBest_X6_copyRow : GoodIn wsX6_findBest (va_wsS RX6 65 yX6_copyRow wsX6_copyRow) := goodIn_app (goodIn_of _ (by decide +kernel)) ggX6_findBest_X6_copyRow
set_option maxRecDepth 20000 in
theorem ggX6_findBest_X6_goesHome : GoodIn wsX6_findBest wsX6_goesHome := goodIn_r _ [12, 13, 14, 7, 15, 16, 17, 18, 19, 1, 20, 21, 22, 23, 24, 25, 26, 27, 28, 29, 30, 31, 113, 114, 115, 116, 117, 118, 119, 120, 121, 122, 123, 124, 125, 126, 127, 128, 129, 130, 131, 132, 133, 134] (by decide +kernel) (by decide +kernel)
set_option maxRecDepth 20000 in
theorem gX6_findBest_X6_goesHome : GoodIn wsX6_findBest (wsV RX6 152 RX6 yX6_goesHome wsX6_goesHome) := goodIn_app (goodIn_of _ (by decide +kernel)) ggX6_findBest_X6_goesHome
set_option maxRecDepth 20000 in
theorem ggX6_findBest_X6_mayHave : GoodIn wsX6_findBest wsX6_mayHave := goodIn_r _ [35, 28, 29, 30, 7, 31, 1, 13, 14, 15, 113, 114, 115, 116, 117, 118, 119, 120, 121, 122, 123, 124, 125, 126, 127, 128, 129, 130, 131, 132, 133, 134] (by decide +kernel) (by decide +kernel)
set_option maxRecDepth 20000 in
theorem gX6_findBest_X6_mayHave : GoodIn wsX6_findBest (wsV RX6 199 RX6 yX6_mayHave wsX6_mayHave) := goodIn_app (goodIn_of _ (by decide +kernel)) ggX6_findBest_X6_mayHave
set_option maxRecDepth 20000 in
theorem ggX6_findBest_X6_laid : GoodIn wsX6_findBest wsX6_laid := goodIn_r _ [39, 1, 13, 14, 7, 15, 28, 29, 30, 31, 113, 114, 115, 116, 117, 118, 119, 120, 121, 122, 123, 124, 125, 126, 127, 128, 129, 130, 131, 132, 133, 134] (by decide +kernel) (by decide +kernel)
set_option maxRecDepth 20000 in
theorem gX6_findBest_X6_laid : GoodIn wsX6_findBest (wsV RX6 131 RX6 yX6_laid wsX6_laid) := goodIn_app (goodIn_of _ (by decide +kernel)) ggX6_findBest_X6_laid
set_option maxRecDepth 20000 in
theorem ggX6_findBest_X6_then : GoodIn wsX6_findBest wsX6_then := goodIn_r _ [43, 2, 1, 44, 45, 46, 7, 47, 48, 49, 50, 51, 52, 53, 54, 55, 28, 29, 30, 31, 13, 14, 15, 56, 57, 58, 59, 60, 61, 62, 63, 64, 65, 66, 67, 68, 69, 70, 71, 72, 73, 74, 75, 76, 77, 78, 79, 80, 81, 82, 83, 84, 85, 86, 87, 88, 89, 90, 91, 92, 9, 10, 11, 12, 16, 17, 18, 19, 20, 21, 22, 23, 24, 25, 26, 27, 93, 94, 95, 96, 97, 98, 99, 100, 101, 102, 103, 104, 105, 106, 107, 108, 109, 110, 111, 112, 5, 6, 8, 113, 114, 115, 116, 117, 118, 119, 120, 121, 122, 123, 124, 125, 126, 127, 128, 129, 130, 131, 132, 133, 134] (by decide +kernel) (by decide +kernel)
set_option maxRecDepth 20000 in
theorem gX6_findBest_X6_then : GoodIn wsX6_findBest (wsV RX6 202 RX6 yX6_then wsX6_then) := goodIn_app (goodIn_of _ (by decide +kernel)) ggX6_findBest_X6_then
theorem dX6_findBest_0 : decode cX6_findBest 0 = .ok (.aload_n 0, 1) := by decide +kernel
theorem dX6_findBest_1 : decode cX6_findBest 1 = .ok (.getfield 9, 3) := by decide +kernel
theorem dX6_findBest_4 : decode cX6_findBest 4 = .ok (.aload_n 0, 1) := by decide +kernel
theorem dX6_findBest_5 : decode cX6_findBest 5 = .ok (.getfield 16, 3) := by decide +kernel
theorem dX6_findBest_8 : decode cX6_findBest 8 = .ok (.invokestatic 65, 3) := by decide +kernel
theorem dX6_findBest_11 : decode cX6_findBest 11 = .ok (.aload_n 0, 1) := by decide +kernel
theorem dX6_findBest_12 : decode cX6_findBest 12 = .ok (.iconst (-1), 1) := by decide +kernel
theorem dX6_findBest_13 : decode cX6_findBest 13 = .ok (.putfield 195, 3) := by decide +kernel
theorem dX6_findBest_16 : decode cX6_findBest 16 = .ok (.iconst 0, 1) := by decide +kernel
theorem dX6_findBest_17 : decode cX6_findBest 17 = .ok (.istore_n 3, 1) := by decide +kernel
theorem dX6_findBest_18 : decode cX6_findBest 18 = .ok (.iload_n 3, 1) := by decide +kernel
theorem dX6_findBest_19 : decode cX6_findBest 19 = .ok (.bipush 64, 2) := by decide +kernel
theorem dX6_findBest_21 : decode cX6_findBest 21 = .ok (.if_icmp .ge 104, 3) := by decide +kernel
theorem dX6_findBest_24 : decode cX6_findBest 24 = .ok (.aload_n 0, 1) := by decide +kernel
theorem dX6_findBest_25 : decode cX6_findBest 25 = .ok (.iload_n 1, 1) := by decide +kernel
theorem dX6_findBest_26 : decode cX6_findBest 26 = .ok (.iload_n 1, 1) := by decide +kernel
theorem dX6_findBest_27 : decode cX6_findBest 27 = .ok (.invokevirtual 152, 3) := by decide +kernel
theorem dX6_findBest_30 : decode cX6_findBest 30 = .ok (.aload_n 0, 1) := by decide +kernel
theorem dX6_findBest_31 : decode cX6_findBest 31 = .ok (.iload_n 1, 1) := by decide +kernel
theorem dX6_findBest_32 : decode cX6_findBest 32 = .ok (.iload_n 3, 1) := by decide +kernel
theorem dX6_findBest_33 : decode cX6_findBest 33 = .ok (.invokevirtual 199, 3) := by decide +kernel
theorem dX6_findBest_36 : decode cX6_findBest 36 = .ok (.istore 4, 2) := by decide +kernel
theorem dX6_findBest_38 : decode cX6_findBest 38 = .ok (.iload_n 3, 1) := by decide +kernel
theorem dX6_findBest_39 : decode cX6_findBest 39 = .ok (.istore 5, 2) := by decide +kernel
theorem dX6_findBest_41 : decode cX6_findBest 41 = .ok (.iconst 0, 1) := by decide +kernel
theorem dX6_findBest_42 : decode cX6_findBest 42 = .ok (.istore 6, 2) := by decide +kernel
theorem dX6_findBest_44 : decode cX6_findBest 44 = .ok (.iload 6, 2) := by decide +kernel
theorem dX6_findBest_46 : decode cX6_findBest 46 = .ok (.iconst 3, 1) := by decide +kernel
theorem dX6_findBest_47 : decode cX6_findBest 47 = .ok (.if_icmp .ge 32, 3) := by decide +kernel
theorem dX6_findBest_50 : decode cX6_findBest 50 = .ok (.iload 4, 2) := by decide +kernel
theorem dX6_findBest_52 : decode cX6_findBest 52 = .ok (.ifCond .eq 27, 3) := by decide +kernel
theorem dX6_findBest_55 : decode cX6_findBest 55 = .ok (.aload_n 0, 1) := by decide +kernel
theorem dX6_findBest_56 : decode cX6_findBest 56 = .ok (.iload_n 1, 1) := by decide +kernel
theorem dX6_findBest_57 : decode cX6_findBest 57 = .ok (.iload 6, 2) := by decide +kernel
theorem dX6_findBest_59 : decode cX6_findBest 59 = .ok (.iload 5, 2) := by decide +kernel
theorem dX6_findBest_61 : decode cX6_findBest 61 = .ok (.iconst 4, 1) := by decide +kernel
theorem dX6_findBest_62 : decode cX6_findBest 62 = .ok (.irem, 1) := by decide +kernel
theorem dX6_findBest_63 : decode cX6_findBest 63 = .ok (.invokevirtual 131, 3) := by decide +kernel
theorem dX6_findBest_66 : decode cX6_findBest 66 = .ok (.pop, 1) := by decide +kernel
theorem dX6_findBest_67 : decode cX6_findBest 67 = .ok (.iload 5, 2) := by decide +kernel
theorem dX6_findBest_69 : decode cX6_findBest 69 = .ok (.iconst 4, 1) := by decide +kernel
theorem dX6_findBest_70 : decode cX6_findBest 70 = .ok (.idiv, 1) := by decide +kernel
theorem dX6_findBest_71 : decode cX6_findBest 71 = .ok (.istore 5, 2) := by decide +kernel
theorem dX6_findBest_73 : decode cX6_findBest 73 = .ok (.iinc 6 1, 3) := by decide +kernel
theorem dX6_findBest_76 : decode cX6_findBest 76 = .ok (.goto (-32), 3) := by decide +kernel
theorem dX6_findBest_79 : decode cX6_findBest 79 = .ok (.aload_n 0, 1) := by decide +kernel
theorem dX6_findBest_80 : decode cX6_findBest 80 = .ok (.iload_n 1, 1) := by decide +kernel
theorem dX6_findBest_81 : decode cX6_findBest 81 = .ok (.iload_n 2, 1) := by decide +kernel
theorem dX6_findBest_82 : decode cX6_findBest 82 = .ok (.invokevirtual 202, 3) := by decide +kernel
theorem dX6_findBest_85 : decode cX6_findBest 85 = .ok (.istore 6, 2) := by decide +kernel
theorem dX6_findBest_87 : decode cX6_findBest 87 = .ok (.iload 4, 2) := by decide +kernel
theorem dX6_findBest_89 : decode cX6_findBest 89 = .ok (.ifCond .eq 30, 3) := by decide +kernel
theorem dX6_findBest_92 : decode cX6_findBest 92 = .ok (.aload_n 0, 1) := by decide +kernel
theorem dX6_findBest_93 : decode cX6_findBest 93 = .ok (.getfield 195, 3) := by decide +kernel
theorem dX6_findBest_96 : decode cX6_findBest 96 = .ok (.ifCond .lt 12, 3) := by decide +kernel
theorem dX6_findBest_99 : decode cX6_findBest 99 = .ok (.iload 6, 2) := by decide +kernel
theorem dX6_findBest_101 : decode cX6_findBest 101 = .ok (.aload_n 0, 1) := by decide +kernel
theorem dX6_findBest_102 : decode cX6_findBest 102 = .ok (.getfield 205, 3) := by decide +kernel
theorem dX6_findBest_105 : decode cX6_findBest 105 = .ok (.if_icmp .le 14, 3) := by decide +kernel
theorem dX6_findBest_108 : decode cX6_findBest 108 = .ok (.aload_n 0, 1) := by decide +kernel
theorem dX6_findBest_109 : decode cX6_findBest 109 = .ok (.iload_n 3, 1) := by decide +kernel
theorem dX6_findBest_110 : decode cX6_findBest 110 = .ok (.putfield 195, 3) := by decide +kernel
theorem dX6_findBest_113 : decode cX6_findBest 113 = .ok (.aload_n 0, 1) := by decide +kernel
theorem dX6_findBest_114 : decode cX6_findBest 114 = .ok (.iload 6, 2) := by decide +kernel
theorem dX6_findBest_116 : decode cX6_findBest 116 = .ok (.putfield 205, 3) := by decide +kernel
theorem dX6_findBest_119 : decode cX6_findBest 119 = .ok (.iinc 3 1, 3) := by decide +kernel
theorem dX6_findBest_122 : decode cX6_findBest 122 = .ok (.goto (-104), 3) := by decide +kernel
theorem dX6_findBest_125 : decode cX6_findBest 125 = .ok (.return_, 1) := by decide +kernel
set_option maxRecDepth 20000 in
theorem ggX6_refusesBest_X6_isSide : GoodIn wsX6_refusesBest wsX6_isSide := goodIn_r _ [5, 6, 7, 4, 8] (by decide +kernel) (by decide +kernel)
set_option maxRecDepth 20000 in
theorem gX6_refusesBest_X6_isSide : GoodIn wsX6_refusesBest (va_wsS RX6 87 yX6_isSide wsX6_isSide) := goodIn_app (goodIn_of _ (by decide +kernel)) ggX6_refusesBest_X6_isSide
set_option maxRecDepth 20000 in
theorem ggX6_refusesBest_X6_refuses : GoodIn wsX6_refusesBest wsX6_refuses := goodIn_r _ [12, 13, 1, 6, 7, 4, 8, 14, 15, 16, 17, 18, 26, 27, 28, 29, 30, 31, 32, 33, 34, 35, 36, 37, 38, 39, 40, 41, 42, 43, 44, 45, 46, 47] (by decide +kernel) (by decide +kernel)
set_option maxRecDepth 20000 in
theorem gX6_refusesBest_X6_refuses : GoodIn wsX6_refusesBest (wsV RX6 208 RX6 yX6_refuses wsX6_refuses) := goodIn_app (goodIn_of _ (by decide +kernel)) ggX6_refusesBest_X6_refuses
set_option maxRecDepth 20000 in
theorem ggX6_refusesBest_X6_sideIs : GoodIn wsX6_refusesBest wsX6_sideIs := goodIn_r _ [22, 18, 23, 24, 4, 25, 26, 27, 28, 29, 30, 31, 32, 33, 34, 35, 36, 37, 38, 39, 40, 41, 42, 43, 44, 45, 46, 47] (by decide +kernel) (by decide +kernel)
set_option maxRecDepth 20000 in
theorem gX6_refusesBest_X6_sideIs : GoodIn wsX6_refusesBest (wsV RX6 93 RX6 yX6_sideIs wsX6_sideIs) := goodIn_app (goodIn_of _ (by decide +kernel)) ggX6_refusesBest_X6_sideIs
theorem dX6_refusesBest_0 : decode cX6_refusesBest 0 = .ok (.aload_n 0, 1) := by decide +kernel
theorem dX6_refusesBest_1 : decode cX6_refusesBest 1 = .ok (.iload_n 1, 1) := by decide +kernel
theorem dX6_refusesBest_2 : decode cX6_refusesBest 2 = .ok (.invokestatic 87, 3) := by decide +kernel
theorem dX6_refusesBest_5 : decode cX6_refusesBest 5 = .ok (.iload_n 2, 1) := by decide +kernel
theorem dX6_refusesBest_6 : decode cX6_refusesBest 6 = .ok (.bipush 30, 2) := by decide +kernel
theorem dX6_refusesBest_8 : decode cX6_refusesBest 8 = .ok (.invokevirtual 208, 3) := by decide +kernel
theorem dX6_refusesBest_11 : decode cX6_refusesBest 11 = .ok (.istore_n 3, 1) := by decide +kernel
theorem dX6_refusesBest_12 : decode cX6_refusesBest 12 = .ok (.iload_n 3, 1) := by decide +kernel
theorem dX6_refusesBest_13 : decode cX6_refusesBest 13 = .ok (.ifCond .ne 17, 3) := by decide +kernel
theorem dX6_refusesBest_16 : decode cX6_refusesBest 16 = .ok (.aload_n 0, 1) := by decide +kernel
theorem dX6_refusesBest_17 : decode cX6_refusesBest 17 = .ok (.iload_n 1, 1) := by decide +kernel
theorem dX6_refusesBest_18 : decode cX6_refusesBest 18 = .ok (.iconst 1, 1) := by decide +kernel
theorem dX6_refusesBest_19 : decode cX6_refusesBest 19 = .ok (.invokevirtual 93, 3) := by decide +kernel
theorem dX6_refusesBest_22 : decode cX6_refusesBest 22 = .ok (.ifCond .ne 8, 3) := by decide +kernel
theorem dX6_refusesBest_25 : decode cX6_refusesBest 25 = .ok (.ldc 134, 2) := by decide +kernel
theorem dX6_refusesBest_27 : decode cX6_refusesBest 27 = .ok (.goto 4, 3) := by decide +kernel
theorem dX6_refusesBest_30 : decode cX6_refusesBest 30 = .ok (.iload_n 3, 1) := by decide +kernel
theorem dX6_refusesBest_31 : decode cX6_refusesBest 31 = .ok (.ireturn, 1) := by decide +kernel
set_option maxRecDepth 20000 in
theorem ggX6_best_X6_refusesBest : GoodIn wsX6_best wsX6_refusesBest := goodIn_r _ [6, 7, 8, 9, 5, 10, 11, 12, 13, 14, 15, 16, 17, 18, 19, 20, 21, 22, 23, 24, 25, 26, 27, 28, 29, 30, 142, 143, 144, 145, 146, 147, 148, 149, 150, 151, 152, 153, 154, 155, 156, 157, 158, 159, 160, 161, 162, 163] (by decide +kernel) (by decide +kernel)
set_option maxRecDepth 20000 in
theorem gX6_best_X6_refusesBest : GoodIn wsX6_best (wsV RX6 212 RX6 yX6_refusesBest wsX6_refusesBest) := goodIn_app (goodIn_of _ (by decide +kernel)) ggX6_best_X6_refusesBest
set_option maxRecDepth 20000 in
theorem ggX6_best_X6_finding : GoodIn wsX6_best wsX6_finding := goodIn_r _ [34, 35, 18, 142, 143, 144, 145, 146, 147, 148, 149, 150, 151, 152, 153, 154, 155, 156, 157, 158, 159, 160, 161, 162, 163] (by decide +kernel) (by decide +kernel)
set_option maxRecDepth 20000 in
theorem gX6_best_X6_finding : GoodIn wsX6_best (wsV RX6 83 RX6 yX6_finding wsX6_finding) := goodIn_app (goodIn_of _ (by decide +kernel)) ggX6_best_X6_finding
set_option maxRecDepth 20000 in
theorem ggX6_best_X6_findBest : GoodIn wsX6_best wsX6_findBest := goodIn_r _ [39, 23, 40, 1, 41, 42, 43, 5, 44, 45, 46, 47, 48, 28, 29, 30, 49, 50, 51, 52, 53, 54, 55, 56, 57, 58, 59, 60, 24, 25, 26, 27, 61, 62, 63, 64, 65, 66, 67, 68, 69, 70, 71, 72, 73, 74, 75, 76, 77, 78, 79, 80, 81, 82, 83, 84, 85, 86, 87, 88, 89, 90, 91, 92, 93, 94, 95, 96, 97, 98, 99, 100, 101, 102, 103, 104, 105, 106, 107, 108, 109, 110, 111, 112, 113, 114, 115, 116, 117, 118, 119, 120, 121, 122, 123, 124, 125, 126, 127, 128, 129, 130, 131, 132, 133, 134, 135, 136, 137, 138, 139, 140, 141, 142, 143, 144, 145, 146, 147, 148, 149, 150, 151, 152, 153, 154, 155, 156, 157, 158, 159, 160, 161, 162, 163] (by decide +kernel) (by decide +kernel)
set_option maxRecDepth 20000 in
theorem gX6_best_X6_findBest : GoodIn wsX6_best (wsV RX6 215 RX6 yX6_findBest wsX6_findBest) := goodIn_app (goodIn_of _ (by decide +kernel)) ggX6_best_X6_findBest
theorem dX6_best_0 : decode cX6_best 0 = .ok (.aload_n 0, 1) := by decide +kernel
theorem dX6_best_1 : decode cX6_best 1 = .ok (.iload_n 1, 1) := by decide +kernel
theorem dX6_best_2 : decode cX6_best 2 = .ok (.iload_n 2, 1) := by decide +kernel
theorem dX6_best_3 : decode cX6_best 3 = .ok (.invokevirtual 212, 3) := by decide +kernel
theorem dX6_best_6 : decode cX6_best 6 = .ok (.istore_n 3, 1) := by decide +kernel
theorem dX6_best_7 : decode cX6_best 7 = .ok (.iload_n 3, 1) := by decide +kernel
theorem dX6_best_8 : decode cX6_best 8 = .ok (.ifCond .eq 9, 3) := by decide +kernel
theorem dX6_best_11 : decode cX6_best 11 = .ok (.aload_n 0, 1) := by decide +kernel
theorem dX6_best_12 : decode cX6_best 12 = .ok (.iload_n 3, 1) := by decide +kernel
theorem dX6_best_13 : decode cX6_best 13 = .ok (.invokevirtual 83, 3) := by decide +kernel
theorem dX6_best_16 : decode cX6_best 16 = .ok (.ireturn, 1) := by decide +kernel
theorem dX6_best_17 : decode cX6_best 17 = .ok (.aload_n 0, 1) := by decide +kernel
theorem dX6_best_18 : decode cX6_best 18 = .ok (.iload_n 1, 1) := by decide +kernel
theorem dX6_best_19 : decode cX6_best 19 = .ok (.iload_n 2, 1) := by decide +kernel
theorem dX6_best_20 : decode cX6_best 20 = .ok (.invokevirtual 215, 3) := by decide +kernel
theorem dX6_best_23 : decode cX6_best 23 = .ok (.aload_n 0, 1) := by decide +kernel
theorem dX6_best_24 : decode cX6_best 24 = .ok (.getfield 195, 3) := by decide +kernel
theorem dX6_best_27 : decode cX6_best 27 = .ok (.ireturn, 1) := by decide +kernel
set_option maxRecDepth 20000 in
theorem ggX6_gain_X6_refusesBest : GoodIn wsX6_gain wsX6_refusesBest := goodIn_r _ [6, 7, 8, 9, 5, 10, 11, 12, 13, 14, 15, 16, 17, 18, 19, 20, 21, 22, 23, 24, 25, 26, 27, 28, 29, 30, 142, 143, 144, 145, 146, 147, 148, 149, 150, 151, 152, 153, 154, 155, 156, 157, 158, 159, 160, 161, 162, 163] (by decide +kernel) (by decide +kernel)
set_option maxRecDepth 20000 in
theorem gX6_gain_X6_refusesBest : GoodIn wsX6_gain (wsV RX6 212 RX6 yX6_refusesBest wsX6_refusesBest) := goodIn_app (goodIn_of _ (by decide +kernel)) ggX6_gain_X6_refusesBest
set_option maxRecDepth 20000 in
theorem ggX6_gain_X6_finding : GoodIn wsX6_gain wsX6_finding := goodIn_r _ [34, 35, 18, 142, 143, 144, 145, 146, 147, 148, 149, 150, 151, 152, 153, 154, 155, 156, 157, 158, 159, 160, 161, 162, 163] (by decide +kernel) (by decide +kernel)
set_option maxRecDepth 20000 in
theorem gX6_gain_X6_finding : GoodIn wsX6_gain (wsV RX6 83 RX6 yX6_finding wsX6_finding) := goodIn_app (goodIn_of _ (by decide +kernel)) ggX6_gain_X6_finding
set_option maxRecDepth 20000 in
theorem ggX6_gain_X6_findBest : GoodIn wsX6_gain wsX6_findBest := goodIn_r _ [39, 23, 40, 41, 1, 42, 43, 5, 44, 45, 46, 47, 48, 28, 29, 30, 49, 50, 51, 52, 53, 54, 55, 56, 57, 58, 59, 60, 24, 25, 26, 27, 61, 62, 63, 64, 65, 66, 67, 68, 69, 70, 71, 72, 73, 74, 75, 76, 77, 78, 79, 80, 81, 82, 83, 84, 85, 86, 87, 88, 89, 90, 91, 92, 93, 94, 95, 96, 97, 98, 99, 100, 101, 102, 103, 104, 105, 106, 107, 108, 109, 110, 111, 112, 113, 114, 115, 116, 117, 118, 119, 120, 121, 122, 123, 124, 125, 126, 127, 128, 129, 130, 131, 132, 133, 134, 135, 136, 137, 138, 139, 140, 141, 142, 143, 144, 145, 146, 147, 148, 149, 150, 151, 152, 153, 154, 155, 156, 157, 158, 159, 160, 161, 162, 163] (by decide +kernel) (by decide +kernel)
set_option maxRecDepth 20000 in
theorem gX6_gain_X6_findBest : GoodIn wsX6_gain (wsV RX6 215 RX6 yX6_findBest wsX6_findBest) := goodIn_app (goodIn_of _ (by decide +kernel)) ggX6_gain_X6_findBest
set_option maxRecDepth 20000 in
theorem ggX6_gain_X6_allOf : GoodIn wsX6_gain wsX6_allOf := goodIn_r _ [141, 24, 25, 26, 5, 27, 23, 28, 29, 30, 101, 102, 103, 104, 105, 106, 107, 108, 109, 110, 111, 112, 113, 114, 142, 143, 144, 145, 146, 147, 148, 149, 150, 151, 152, 153, 154, 155, 156, 157, 158, 159, 160, 161, 162, 163] (by decide +kernel) (by decide +kernel)
set_option maxRecDepth 20000 in
theorem gX6_gain_X6_allOf : GoodIn wsX6_gain (wsV RX6 182 RX6 yX6_allOf wsX6_allOf) := goodIn_app (goodIn_of _ (by decide +kernel)) ggX6_gain_X6_allOf
theorem dX6_gain_0 : decode cX6_gain 0 = .ok (.aload_n 0, 1) := by decide +kernel
theorem dX6_gain_1 : decode cX6_gain 1 = .ok (.iload_n 1, 1) := by decide +kernel
theorem dX6_gain_2 : decode cX6_gain 2 = .ok (.iload_n 2, 1) := by decide +kernel
theorem dX6_gain_3 : decode cX6_gain 3 = .ok (.invokevirtual 212, 3) := by decide +kernel
theorem dX6_gain_6 : decode cX6_gain 6 = .ok (.istore_n 3, 1) := by decide +kernel
theorem dX6_gain_7 : decode cX6_gain 7 = .ok (.iload_n 3, 1) := by decide +kernel
theorem dX6_gain_8 : decode cX6_gain 8 = .ok (.ifCond .eq 9, 3) := by decide +kernel
theorem dX6_gain_11 : decode cX6_gain 11 = .ok (.aload_n 0, 1) := by decide +kernel
theorem dX6_gain_12 : decode cX6_gain 12 = .ok (.iload_n 3, 1) := by decide +kernel
theorem dX6_gain_13 : decode cX6_gain 13 = .ok (.invokevirtual 83, 3) := by decide +kernel
theorem dX6_gain_16 : decode cX6_gain 16 = .ok (.ireturn, 1) := by decide +kernel
theorem dX6_gain_17 : decode cX6_gain 17 = .ok (.aload_n 0, 1) := by decide +kernel
theorem dX6_gain_18 : decode cX6_gain 18 = .ok (.iload_n 1, 1) := by decide +kernel
theorem dX6_gain_19 : decode cX6_gain 19 = .ok (.iload_n 2, 1) := by decide +kernel
theorem dX6_gain_20 : decode cX6_gain 20 = .ok (.invokevirtual 215, 3) := by decide +kernel
theorem dX6_gain_23 : decode cX6_gain 23 = .ok (.aload_n 0, 1) := by decide +kernel
theorem dX6_gain_24 : decode cX6_gain 24 = .ok (.getfield 205, 3) := by decide +kernel
theorem dX6_gain_27 : decode cX6_gain 27 = .ok (.aload_n 0, 1) := by decide +kernel
theorem dX6_gain_28 : decode cX6_gain 28 = .ok (.iload_n 1, 1) := by decide +kernel
theorem dX6_gain_29 : decode cX6_gain 29 = .ok (.invokevirtual 182, 3) := by decide +kernel
theorem dX6_gain_32 : decode cX6_gain 32 = .ok (.isub, 1) := by decide +kernel
theorem dX6_gain_33 : decode cX6_gain 33 = .ok (.ireturn, 1) := by decide +kernel
set_option maxRecDepth 20000 in
theorem ggX6_greed_X6_isSide : GoodIn wsX6_greed wsX6_isSide := goodIn_r _ [10, 11, 12, 9, 13] (by decide +kernel) (by decide +kernel)
set_option maxRecDepth 20000 in
theorem gX6_greed_X6_isSide : GoodIn wsX6_greed (va_wsS RX6 87 yX6_isSide wsX6_isSide) := goodIn_app (goodIn_of _ (by decide +kernel)) ggX6_greed_X6_isSide
set_option maxRecDepth 20000 in
theorem ggX6_greed_X6_refuses : GoodIn wsX6_greed wsX6_refuses := goodIn_r _ [17, 18, 19, 11, 12, 9, 13, 20, 21, 22, 23, 1, 127, 128, 129, 130, 131, 132, 133, 134, 135, 136, 137, 138, 139, 140, 141, 142, 143, 144, 145, 146, 147, 148] (by decide +kernel) (by decide +kernel)
set_option maxRecDepth 20000 in
theorem gX6_greed_X6_refuses : GoodIn wsX6_greed (wsV RX6 208 RX6 yX6_refuses wsX6_refuses) := goodIn_app (goodIn_of _ (by decide +kernel)) ggX6_greed_X6_refuses
set_option maxRecDepth 20000 in
theorem ggX6_greed_X6_finding : GoodIn wsX6_greed wsX6_finding := goodIn_r _ [27, 28, 18, 127, 128, 129, 130, 131, 132, 133, 134, 135, 136, 137, 138, 139, 140, 141, 142, 143, 144, 145, 146, 147, 148] (by decide +kernel) (by decide +kernel)
set_option maxRecDepth 20000 in
theorem gX6_greed_X6_finding : GoodIn wsX6_greed (wsV RX6 83 RX6 yX6_finding wsX6_finding) := goodIn_app (goodIn_of _ (by decide +kernel)) ggX6_greed_X6_finding
set_option maxRecDepth 20000 in
theorem ggX6_greed_X6_copyRow : GoodIn wsX6_greed wsX6_copyRow := goodIn_r _ [31] (by decide +kernel) (by decide +kernel)
set_option maxRecDepth 20000 in
theorem gX6_greed_X6_copyRow : GoodIn wsX6_greed (va_wsS RX6 65 yX6_copyRow wsX6_copyRow) := goodIn_app (goodIn_of _ (by decide +kernel)) ggX6_greed_X6_copyRow
set_option maxRecDepth 20000 in
theorem ggX6_greed_X6_at : GoodIn wsX6_greed wsX6_at := goodIn_r _ [34] (by decide +kernel) (by decide +kernel)
set_option maxRecDepth 20000 in
theorem gX6_greed_X6_at : GoodIn wsX6_greed (va_wsS RX6 60 yX6_at wsX6_at) := goodIn_app (goodIn_of _ (by decide +kernel)) ggX6_greed_X6_at
set_option maxRecDepth 20000 in
theorem ggX6_greed_X6_then : GoodIn wsX6_greed wsX6_then := goodIn_r _ [38, 2, 1, 39, 40, 41, 9, 42, 43, 44, 45, 46, 47, 48, 49, 50, 51, 52, 53, 54, 32, 33, 34, 55, 56, 57, 58, 59, 60, 61, 62, 63, 64, 65, 66, 67, 68, 69, 70, 71, 72, 73, 74, 75, 76, 77, 78, 79, 80, 81, 82, 83, 84, 85, 86, 87, 88, 89, 90, 91, 92, 93, 94, 95, 96, 97, 98, 99, 100, 101, 102, 103, 104, 105, 5, 106, 107, 108, 109, 110, 111, 112, 113, 114, 115, 116, 117, 118, 119, 120, 121, 122, 123, 124, 125, 126, 29, 30, 31, 127, 128, 129, 130, 131, 132, 133, 134, 135, 136, 137, 138, 139, 140, 141, 142, 143, 144, 145, 146, 147, 148] (by decide +kernel) (by decide +kernel)
set_option maxRecDepth 20000 in
theorem gX6_greed_X6_then : GoodIn wsX6_greed (wsV RX6 202 RX6 yX6_then wsX6_then) := goodIn_app (goodIn_of _ (by decide +kernel)) ggX6_greed_X6_then
theorem dX6_greed_0 : decode cX6_greed 0 = .ok (.aload_n 0, 1) := by decide +kernel
theorem dX6_greed_1 : decode cX6_greed 1 = .ok (.iload_n 1, 1) := by decide +kernel
theorem dX6_greed_2 : decode cX6_greed 2 = .ok (.invokestatic 87, 3) := by decide +kernel
theorem dX6_greed_5 : decode cX6_greed 5 = .ok (.iload_n 2, 1) := by decide +kernel
theorem dX6_greed_6 : decode cX6_greed 6 = .ok (.bipush 30, 2) := by decide +kernel
theorem dX6_greed_8 : decode cX6_greed 8 = .ok (.invokevirtual 208, 3) := by decide +kernel
theorem dX6_greed_11 : decode cX6_greed 11 = .ok (.istore_n 3, 1) := by decide +kernel
theorem dX6_greed_12 : decode cX6_greed 12 = .ok (.iload_n 3, 1) := by decide +kernel
theorem dX6_greed_13 : decode cX6_greed 13 = .ok (.ifCond .eq 9, 3) := by decide +kernel
theorem dX6_greed_16 : decode cX6_greed 16 = .ok (.aload_n 0, 1) := by decide +kernel
theorem dX6_greed_17 : decode cX6_greed 17 = .ok (.iload_n 3, 1) := by decide +kernel
theorem dX6_greed_18 : decode cX6_greed 18 = .ok (.invokevirtual 83, 3) := by decide +kernel
theorem dX6_greed_21 : decode cX6_greed 21 = .ok (.ireturn, 1) := by decide +kernel
theorem dX6_greed_22 : decode cX6_greed 22 = .ok (.aload_n 0, 1) := by decide +kernel
theorem dX6_greed_23 : decode cX6_greed 23 = .ok (.getfield 9, 3) := by decide +kernel
theorem dX6_greed_26 : decode cX6_greed 26 = .ok (.aload_n 0, 1) := by decide +kernel
theorem dX6_greed_27 : decode cX6_greed 27 = .ok (.getfield 16, 3) := by decide +kernel
theorem dX6_greed_30 : decode cX6_greed 30 = .ok (.invokestatic 65, 3) := by decide +kernel
theorem dX6_greed_33 : decode cX6_greed 33 = .ok (.iconst (-1), 1) := by decide +kernel
theorem dX6_greed_34 : decode cX6_greed 34 = .ok (.istore 4, 2) := by decide +kernel
theorem dX6_greed_36 : decode cX6_greed 36 = .ok (.iconst (-1), 1) := by decide +kernel
theorem dX6_greed_37 : decode cX6_greed 37 = .ok (.istore 5, 2) := by decide +kernel
theorem dX6_greed_39 : decode cX6_greed 39 = .ok (.iconst 0, 1) := by decide +kernel
theorem dX6_greed_40 : decode cX6_greed 40 = .ok (.istore 6, 2) := by decide +kernel
theorem dX6_greed_42 : decode cX6_greed 42 = .ok (.iload 6, 2) := by decide +kernel
theorem dX6_greed_44 : decode cX6_greed 44 = .ok (.bipush 50, 2) := by decide +kernel
theorem dX6_greed_46 : decode cX6_greed 46 = .ok (.if_icmp .gt 54, 3) := by decide +kernel
theorem dX6_greed_49 : decode cX6_greed 49 = .ok (.aload_n 0, 1) := by decide +kernel
theorem dX6_greed_50 : decode cX6_greed 50 = .ok (.getfield 9, 3) := by decide +kernel
theorem dX6_greed_53 : decode cX6_greed 53 = .ok (.iload_n 1, 1) := by decide +kernel
theorem dX6_greed_54 : decode cX6_greed 54 = .ok (.iconst 0, 1) := by decide +kernel
theorem dX6_greed_55 : decode cX6_greed 55 = .ok (.invokestatic 60, 3) := by decide +kernel
theorem dX6_greed_58 : decode cX6_greed 58 = .ok (.iload 6, 2) := by decide +kernel
theorem dX6_greed_60 : decode cX6_greed 60 = .ok (.iastore, 1) := by decide +kernel
theorem dX6_greed_61 : decode cX6_greed 61 = .ok (.aload_n 0, 1) := by decide +kernel
theorem dX6_greed_62 : decode cX6_greed 62 = .ok (.iload_n 1, 1) := by decide +kernel
theorem dX6_greed_63 : decode cX6_greed 63 = .ok (.iload_n 2, 1) := by decide +kernel
theorem dX6_greed_64 : decode cX6_greed 64 = .ok (.invokevirtual 202, 3) := by decide +kernel
theorem dX6_greed_67 : decode cX6_greed 67 = .ok (.istore 7, 2) := by decide +kernel
theorem dX6_greed_69 : decode cX6_greed 69 = .ok (.iload 7, 2) := by decide +kernel
theorem dX6_greed_71 : decode cX6_greed 71 = .ok (.iload 5, 2) := by decide +kernel
theorem dX6_greed_73 : decode cX6_greed 73 = .ok (.if_icmp .le 8, 3) := by decide +kernel
theorem dX6_greed_76 : decode cX6_greed 76 = .ok (.iload 6, 2) := by decide +kernel
theorem dX6_greed_78 : decode cX6_greed 78 = .ok (.goto 5, 3) := by decide +kernel
theorem dX6_greed_81 : decode cX6_greed 81 = .ok (.iload 4, 2) := by decide +kernel
theorem dX6_greed_83 : decode cX6_greed 83 = .ok (.istore 4, 2) := by decide +kernel
theorem dX6_greed_85 : decode cX6_greed 85 = .ok (.iload 5, 2) := by decide +kernel
theorem dX6_greed_87 : decode cX6_greed 87 = .ok (.iload 7, 2) := by decide +kernel
theorem dX6_greed_89 : decode cX6_greed 89 = .ok (.invokestatic 218, 3) := by decide +kernel
theorem dX6_greed_92 : decode cX6_greed 92 = .ok (.istore 5, 2) := by decide +kernel
theorem dX6_greed_94 : decode cX6_greed 94 = .ok (.iinc 6 1, 3) := by decide +kernel
theorem dX6_greed_97 : decode cX6_greed 97 = .ok (.goto (-55), 3) := by decide +kernel
theorem dX6_greed_100 : decode cX6_greed 100 = .ok (.iload 4, 2) := by decide +kernel
theorem dX6_greed_102 : decode cX6_greed 102 = .ok (.ireturn, 1) := by decide +kernel
set_option maxRecDepth 20000 in
theorem ggX6_kindFor_X6_isThing : GoodIn wsX6_kindFor wsX6_isThing := goodIn_r _ [6, 7, 8, 5, 9] (by decide +kernel) (by decide +kernel)
set_option maxRecDepth 20000 in
theorem gX6_kindFor_X6_isThing : GoodIn wsX6_kindFor (va_wsS RX6 73 yX6_isThing wsX6_isThing) := goodIn_app (goodIn_of _ (by decide +kernel)) ggX6_kindFor_X6_isThing
set_option maxRecDepth 20000 in
theorem ggX6_kindFor_X6_refuses : GoodIn wsX6_kindFor wsX6_refuses := goodIn_r _ [13, 14, 15, 7, 8, 5, 9, 16, 17, 18, 19, 1, 120, 121, 122, 123, 124, 125, 126, 127, 128, 129, 130, 131, 132, 133, 134, 135, 136, 137, 138, 139, 140, 141] (by decide +kernel) (by decide +kernel)
set_option maxRecDepth 20000 in
theorem gX6_kindFor_X6_refuses : GoodIn wsX6_kindFor (wsV RX6 208 RX6 yX6_refuses wsX6_refuses) := goodIn_app (goodIn_of _ (by decide +kernel)) ggX6_kindFor_X6_refuses
set_option maxRecDepth 20000 in
theorem ggX6_kindFor_X6_finding : GoodIn wsX6_kindFor wsX6_finding := goodIn_r _ [23, 24, 14, 120, 121, 122, 123, 124, 125, 126, 127, 128, 129, 130, 131, 132, 133, 134, 135, 136, 137, 138, 139, 140, 141] (by decide +kernel) (by decide +kernel)
set_option maxRecDepth 20000 in
theorem gX6_kindFor_X6_finding : GoodIn wsX6_kindFor (wsV RX6 83 RX6 yX6_finding wsX6_finding) := goodIn_app (goodIn_of _ (by decide +kernel)) ggX6_kindFor_X6_finding
set_option maxRecDepth 20000 in
theorem ggX6_kindFor_X6_copyRow : GoodIn wsX6_kindFor wsX6_copyRow := goodIn_r _ [27] (by decide +kernel) (by decide +kernel)
set_option maxRecDepth 20000 in
theorem gX6_kindFor_X6_copyRow : GoodIn wsX6_kindFor (va_wsS RX6 65 yX6_copyRow wsX6_copyRow) := goodIn_app (goodIn_of _ (by decide +kernel)) ggX6_kindFor_X6_copyRow
set_option maxRecDepth 20000 in
theorem ggX6_kindFor_X6_allOf : GoodIn wsX6_kindFor wsX6_allOf := goodIn_r _ [31, 32, 33, 34, 5, 35, 1, 36, 37, 38, 39, 40, 41, 42, 43, 44, 45, 46, 47, 48, 49, 50, 51, 52, 120, 121, 122, 123, 124, 125, 126, 127, 128, 129, 130, 131, 132, 133, 134, 135, 136, 137, 138, 139, 140, 141] (by decide +kernel) (by decide +kernel)
set_option maxRecDepth 20000 in
theorem gX6_kindFor_X6_allOf : GoodIn wsX6_kindFor (wsV RX6 182 RX6 yX6_allOf wsX6_allOf) := goodIn_app (goodIn_of _ (by decide +kernel)) ggX6_kindFor_X6_allOf
set_option maxRecDepth 20000 in
theorem ggX6_kindFor_X6_nightsGo : GoodIn wsX6_kindFor wsX6_nightsGo := goodIn_r _ [56, 57, 58, 59, 5, 60, 1, 61, 62, 63, 64, 32, 33, 34, 35, 36, 37, 38, 65, 66, 67, 68, 69, 70, 71, 72, 73, 74, 75, 76, 77, 78, 79, 80, 39, 40, 41, 42, 43, 44, 45, 46, 47, 48, 49, 50, 51, 52, 81, 82, 83, 84, 85, 86, 87, 88, 89, 90, 91, 92, 93, 94, 95, 96, 97, 98, 99, 100, 101, 102, 103, 104, 105, 106, 107, 108, 109, 110, 111, 112, 113, 114, 115, 116, 117, 118, 119, 120, 121, 122, 123, 124, 125, 126, 127, 128, 129, 130, 131, 132, 133, 134, 135, 136, 137, 138, 139, 140, 141] (by decide +kernel) (by decide +kernel)
set_option maxRecDepth 20000 in
theorem gX6_kindFor_X6_nightsGo : GoodIn wsX6_kindFor (wsV RX6 179 RX6 yX6_nightsGo wsX6_nightsGo) := goodIn_app (goodIn_of _ (by decide +kernel)) ggX6_kindFor_X6_nightsGo
theorem dX6_kindFor_0 : decode cX6_kindFor 0 = .ok (.aload_n 0, 1) := by decide +kernel
theorem dX6_kindFor_1 : decode cX6_kindFor 1 = .ok (.iload_n 1, 1) := by decide +kernel
theorem dX6_kindFor_2 : decode cX6_kindFor 2 = .ok (.invokestatic 73, 3) := by decide +kernel
theorem dX6_kindFor_5 : decode cX6_kindFor 5 = .ok (.iload_n 2, 1) := by decide +kernel
theorem dX6_kindFor_6 : decode cX6_kindFor 6 = .ok (.bipush 30, 2) := by decide +kernel
theorem dX6_kindFor_8 : decode cX6_kindFor 8 = .ok (.invokevirtual 208, 3) := by decide +kernel
theorem dX6_kindFor_11 : decode cX6_kindFor 11 = .ok (.istore_n 3, 1) := by decide +kernel
theorem dX6_kindFor_12 : decode cX6_kindFor 12 = .ok (.iload_n 3, 1) := by decide +kernel
theorem dX6_kindFor_13 : decode cX6_kindFor 13 = .ok (.ifCond .eq 9, 3) := by decide +kernel
theorem dX6_kindFor_16 : decode cX6_kindFor 16 = .ok (.aload_n 0, 1) := by decide +kernel
theorem dX6_kindFor_17 : decode cX6_kindFor 17 = .ok (.iload_n 3, 1) := by decide +kernel
theorem dX6_kindFor_18 : decode cX6_kindFor 18 = .ok (.invokevirtual 83, 3) := by decide +kernel
theorem dX6_kindFor_21 : decode cX6_kindFor 21 = .ok (.ireturn, 1) := by decide +kernel
theorem dX6_kindFor_22 : decode cX6_kindFor 22 = .ok (.aload_n 0, 1) := by decide +kernel
theorem dX6_kindFor_23 : decode cX6_kindFor 23 = .ok (.getfield 9, 3) := by decide +kernel
theorem dX6_kindFor_26 : decode cX6_kindFor 26 = .ok (.aload_n 0, 1) := by decide +kernel
theorem dX6_kindFor_27 : decode cX6_kindFor 27 = .ok (.getfield 16, 3) := by decide +kernel
theorem dX6_kindFor_30 : decode cX6_kindFor 30 = .ok (.invokestatic 65, 3) := by decide +kernel
theorem dX6_kindFor_33 : decode cX6_kindFor 33 = .ok (.iconst (-1), 1) := by decide +kernel
theorem dX6_kindFor_34 : decode cX6_kindFor 34 = .ok (.istore 4, 2) := by decide +kernel
theorem dX6_kindFor_36 : decode cX6_kindFor 36 = .ok (.iconst 0, 1) := by decide +kernel
theorem dX6_kindFor_37 : decode cX6_kindFor 37 = .ok (.istore 5, 2) := by decide +kernel
theorem dX6_kindFor_39 : decode cX6_kindFor 39 = .ok (.iconst 0, 1) := by decide +kernel
theorem dX6_kindFor_40 : decode cX6_kindFor 40 = .ok (.istore 6, 2) := by decide +kernel
theorem dX6_kindFor_42 : decode cX6_kindFor 42 = .ok (.iload 6, 2) := by decide +kernel
theorem dX6_kindFor_44 : decode cX6_kindFor 44 = .ok (.bipush 6, 2) := by decide +kernel
theorem dX6_kindFor_46 : decode cX6_kindFor 46 = .ok (.if_icmp .gt 92, 3) := by decide +kernel
theorem dX6_kindFor_49 : decode cX6_kindFor 49 = .ok (.aload_n 0, 1) := by decide +kernel
theorem dX6_kindFor_50 : decode cX6_kindFor 50 = .ok (.getfield 9, 3) := by decide +kernel
theorem dX6_kindFor_53 : decode cX6_kindFor 53 = .ok (.bipush 15, 2) := by decide +kernel
theorem dX6_kindFor_55 : decode cX6_kindFor 55 = .ok (.iload_n 1, 1) := by decide +kernel
theorem dX6_kindFor_56 : decode cX6_kindFor 56 = .ok (.iadd, 1) := by decide +kernel
theorem dX6_kindFor_57 : decode cX6_kindFor 57 = .ok (.iload 6, 2) := by decide +kernel
theorem dX6_kindFor_59 : decode cX6_kindFor 59 = .ok (.iastore, 1) := by decide +kernel
theorem dX6_kindFor_60 : decode cX6_kindFor 60 = .ok (.aload_n 0, 1) := by decide +kernel
theorem dX6_kindFor_61 : decode cX6_kindFor 61 = .ok (.iconst 0, 1) := by decide +kernel
theorem dX6_kindFor_62 : decode cX6_kindFor 62 = .ok (.invokevirtual 182, 3) := by decide +kernel
theorem dX6_kindFor_65 : decode cX6_kindFor 65 = .ok (.aload_n 0, 1) := by decide +kernel
theorem dX6_kindFor_66 : decode cX6_kindFor 66 = .ok (.iconst 1, 1) := by decide +kernel
theorem dX6_kindFor_67 : decode cX6_kindFor 67 = .ok (.invokevirtual 182, 3) := by decide +kernel
theorem dX6_kindFor_70 : decode cX6_kindFor 70 = .ok (.iadd, 1) := by decide +kernel
theorem dX6_kindFor_71 : decode cX6_kindFor 71 = .ok (.istore 7, 2) := by decide +kernel
theorem dX6_kindFor_73 : decode cX6_kindFor 73 = .ok (.aload_n 0, 1) := by decide +kernel
theorem dX6_kindFor_74 : decode cX6_kindFor 74 = .ok (.iload_n 2, 1) := by decide +kernel
theorem dX6_kindFor_75 : decode cX6_kindFor 75 = .ok (.invokevirtual 179, 3) := by decide +kernel
theorem dX6_kindFor_78 : decode cX6_kindFor 78 = .ok (.istore 8, 2) := by decide +kernel
theorem dX6_kindFor_80 : decode cX6_kindFor 80 = .ok (.aload_n 0, 1) := by decide +kernel
theorem dX6_kindFor_81 : decode cX6_kindFor 81 = .ok (.iconst 0, 1) := by decide +kernel
theorem dX6_kindFor_82 : decode cX6_kindFor 82 = .ok (.invokevirtual 182, 3) := by decide +kernel
theorem dX6_kindFor_85 : decode cX6_kindFor 85 = .ok (.aload_n 0, 1) := by decide +kernel
theorem dX6_kindFor_86 : decode cX6_kindFor 86 = .ok (.iconst 1, 1) := by decide +kernel
theorem dX6_kindFor_87 : decode cX6_kindFor 87 = .ok (.invokevirtual 182, 3) := by decide +kernel
theorem dX6_kindFor_90 : decode cX6_kindFor 90 = .ok (.iadd, 1) := by decide +kernel
theorem dX6_kindFor_91 : decode cX6_kindFor 91 = .ok (.iload 7, 2) := by decide +kernel
theorem dX6_kindFor_93 : decode cX6_kindFor 93 = .ok (.isub, 1) := by decide +kernel
theorem dX6_kindFor_94 : decode cX6_kindFor 94 = .ok (.istore 9, 2) := by decide +kernel
theorem dX6_kindFor_96 : decode cX6_kindFor 96 = .ok (.iload 8, 2) := by decide +kernel
theorem dX6_kindFor_98 : decode cX6_kindFor 98 = .ok (.ifCond .lt 23, 3) := by decide +kernel
theorem dX6_kindFor_101 : decode cX6_kindFor 101 = .ok (.iload 4, 2) := by decide +kernel
theorem dX6_kindFor_103 : decode cX6_kindFor 103 = .ok (.ifCond .lt 10, 3) := by decide +kernel
theorem dX6_kindFor_106 : decode cX6_kindFor 106 = .ok (.iload 9, 2) := by decide +kernel
theorem dX6_kindFor_108 : decode cX6_kindFor 108 = .ok (.iload 5, 2) := by decide +kernel
theorem dX6_kindFor_110 : decode cX6_kindFor 110 = .ok (.if_icmp .le 11, 3) := by decide +kernel
theorem dX6_kindFor_113 : decode cX6_kindFor 113 = .ok (.iload 6, 2) := by decide +kernel
theorem dX6_kindFor_115 : decode cX6_kindFor 115 = .ok (.istore 4, 2) := by decide +kernel
theorem dX6_kindFor_117 : decode cX6_kindFor 117 = .ok (.iload 9, 2) := by decide +kernel
theorem dX6_kindFor_119 : decode cX6_kindFor 119 = .ok (.istore 5, 2) := by decide +kernel
theorem dX6_kindFor_121 : decode cX6_kindFor 121 = .ok (.aload_n 0, 1) := by decide +kernel
theorem dX6_kindFor_122 : decode cX6_kindFor 122 = .ok (.getfield 16, 3) := by decide +kernel
theorem dX6_kindFor_125 : decode cX6_kindFor 125 = .ok (.aload_n 0, 1) := by decide +kernel
theorem dX6_kindFor_126 : decode cX6_kindFor 126 = .ok (.getfield 9, 3) := by decide +kernel
theorem dX6_kindFor_129 : decode cX6_kindFor 129 = .ok (.invokestatic 65, 3) := by decide +kernel
theorem dX6_kindFor_132 : decode cX6_kindFor 132 = .ok (.iinc 6 1, 3) := by decide +kernel
theorem dX6_kindFor_135 : decode cX6_kindFor 135 = .ok (.goto (-93), 3) := by decide +kernel
theorem dX6_kindFor_138 : decode cX6_kindFor 138 = .ok (.iload 4, 2) := by decide +kernel
theorem dX6_kindFor_140 : decode cX6_kindFor 140 = .ok (.ireturn, 1) := by decide +kernel
set_option maxRecDepth 20000 in
theorem ggX6_temptation_X6_isSide : GoodIn wsX6_temptation wsX6_isSide := goodIn_r _ [6, 7, 8, 5, 9] (by decide +kernel) (by decide +kernel)
set_option maxRecDepth 20000 in
theorem gX6_temptation_X6_isSide : GoodIn wsX6_temptation (va_wsS RX6 87 yX6_isSide wsX6_isSide) := goodIn_app (goodIn_of _ (by decide +kernel)) ggX6_temptation_X6_isSide
set_option maxRecDepth 20000 in
theorem ggX6_temptation_X6_refuses : GoodIn wsX6_temptation wsX6_refuses := goodIn_r _ [13, 14, 15, 7, 8, 5, 9, 16, 17, 18, 19, 1, 132, 133, 134, 135, 136, 137, 138, 139, 140, 141, 142, 143, 144, 145, 146, 147, 148, 149, 150, 151, 152, 153] (by decide +kernel) (by decide +kernel)
set_option maxRecDepth 20000 in
theorem gX6_temptation_X6_refuses : GoodIn wsX6_temptation (wsV RX6 208 RX6 yX6_refuses wsX6_refuses) := goodIn_app (goodIn_of _ (by decide +kernel)) ggX6_temptation_X6_refuses
set_option maxRecDepth 20000 in
theorem ggX6_temptation_X6_finding : GoodIn wsX6_temptation wsX6_finding := goodIn_r _ [23, 24, 14, 132, 133, 134, 135, 136, 137, 138, 139, 140, 141, 142, 143, 144, 145, 146, 147, 148, 149, 150, 151, 152, 153] (by decide +kernel) (by decide +kernel)
set_option maxRecDepth 20000 in
theorem gX6_temptation_X6_finding : GoodIn wsX6_temptation (wsV RX6 83 RX6 yX6_finding wsX6_finding) := goodIn_app (goodIn_of _ (by decide +kernel)) ggX6_temptation_X6_finding
set_option maxRecDepth 20000 in
theorem ggX6_temptation_X6_copyRow : GoodIn wsX6_temptation wsX6_copyRow := goodIn_r _ [27] (by decide +kernel) (by decide +kernel)
set_option maxRecDepth 20000 in
theorem gX6_temptation_X6_copyRow : GoodIn wsX6_temptation (va_wsS RX6 65 yX6_copyRow wsX6_copyRow) := goodIn_app (goodIn_of _ (by decide +kernel)) ggX6_temptation_X6_copyRow
set_option maxRecDepth 20000 in
theorem ggX6_temptation_X6_then : GoodIn wsX6_temptation wsX6_then := goodIn_r _ [31, 2, 1, 32, 33, 34, 5, 35, 36, 37, 38, 39, 40, 41, 42, 43, 44, 45, 46, 47, 48, 49, 50, 51, 52, 53, 54, 55, 56, 57, 58, 59, 60, 61, 62, 63, 64, 65, 66, 67, 68, 69, 70, 71, 72, 73, 74, 75, 76, 77, 78, 79, 80, 81, 82, 83, 84, 85, 86, 87, 88, 89, 90, 91, 92, 93, 94, 95, 96, 97, 98, 99, 100, 101, 102, 103, 104, 105, 106, 107, 108, 109, 110, 111, 112, 113, 114, 115, 116, 117, 118, 119, 120, 121, 122, 123, 25, 26, 27, 132, 133, 134, 135, 136, 137, 138, 139, 140, 141, 142, 143, 144, 145, 146, 147, 148, 149, 150, 151, 152, 153] (by decide +kernel) (by decide +kernel)
set_option maxRecDepth 20000 in
theorem gX6_temptation_X6_then : GoodIn wsX6_temptation (wsV RX6 202 RX6 yX6_then wsX6_then) := goodIn_app (goodIn_of _ (by decide +kernel)) ggX6_temptation_X6_then
set_option maxRecDepth 20000 in
theorem ggX6_temptation_X6_stolen : GoodIn wsX6_temptation wsX6_stolen := goodIn_r _ [127, 1, 63, 64, 65, 5, 66, 44, 45, 46, 47, 48, 49, 50, 67, 68, 69, 70, 71, 72, 73, 74, 75, 76, 77, 78, 79, 80, 88, 89, 90, 91, 92, 93, 94, 95, 96, 97, 98, 99, 100, 101, 102, 103, 132, 133, 134, 135, 136, 137, 138, 139, 140, 141, 142, 143, 144, 145, 146, 147, 148, 149, 150, 151, 152, 153] (by decide +kernel) (by decide +kernel)
set_option maxRecDepth 20000 in
theorem gX6_temptation_X6_stolen : GoodIn wsX6_temptation (wsV RX6 156 RX6 yX6_stolen wsX6_stolen) := goodIn_app (goodIn_of _ (by decide +kernel)) ggX6_temptation_X6_stolen
set_option maxRecDepth 20000 in
theorem ggX6_temptation_X6_allOf : GoodIn wsX6_temptation wsX6_allOf := goodIn_r _ [123, 44, 45, 46, 5, 47, 1, 48, 49, 50, 67, 68, 69, 70, 71, 72, 73, 74, 75, 76, 77, 78, 79, 80, 132, 133, 134, 135, 136, 137, 138, 139, 140, 141, 142, 143, 144, 145, 146, 147, 148, 149, 150, 151, 152, 153] (by decide +kernel) (by decide +kernel)
set_option maxRecDepth 20000 in
theorem gX6_temptation_X6_allOf : GoodIn wsX6_temptation (wsV RX6 182 RX6 yX6_allOf wsX6_allOf) := goodIn_app (goodIn_of _ (by decide +kernel)) ggX6_temptation_X6_allOf
set_option maxRecDepth 20000 in
theorem ggX6_temptation_X6_putBack : GoodIn wsX6_temptation wsX6_putBack := goodIn_r _ [131, 2, 1, 25, 26, 5, 27, 132, 133, 134, 135, 136, 137, 138, 139, 140, 141, 142, 143, 144, 145, 146, 147, 148, 149, 150, 151, 152, 153] (by decide +kernel) (by decide +kernel)
set_option maxRecDepth 20000 in
theorem gX6_temptation_X6_putBack : GoodIn wsX6_temptation (wsV RX6 188 RX6 yX6_putBack wsX6_putBack) := goodIn_app (goodIn_of _ (by decide +kernel)) ggX6_temptation_X6_putBack
theorem dX6_temptation_0 : decode cX6_temptation 0 = .ok (.aload_n 0, 1) := by decide +kernel
theorem dX6_temptation_1 : decode cX6_temptation 1 = .ok (.iload_n 1, 1) := by decide +kernel
theorem dX6_temptation_2 : decode cX6_temptation 2 = .ok (.invokestatic 87, 3) := by decide +kernel
theorem dX6_temptation_5 : decode cX6_temptation 5 = .ok (.iload_n 2, 1) := by decide +kernel
theorem dX6_temptation_6 : decode cX6_temptation 6 = .ok (.bipush 60, 2) := by decide +kernel
theorem dX6_temptation_8 : decode cX6_temptation 8 = .ok (.invokevirtual 208, 3) := by decide +kernel
theorem dX6_temptation_11 : decode cX6_temptation 11 = .ok (.istore_n 3, 1) := by decide +kernel
theorem dX6_temptation_12 : decode cX6_temptation 12 = .ok (.iload_n 3, 1) := by decide +kernel
theorem dX6_temptation_13 : decode cX6_temptation 13 = .ok (.ifCond .eq 9, 3) := by decide +kernel
theorem dX6_temptation_16 : decode cX6_temptation 16 = .ok (.aload_n 0, 1) := by decide +kernel
theorem dX6_temptation_17 : decode cX6_temptation 17 = .ok (.iload_n 3, 1) := by decide +kernel
theorem dX6_temptation_18 : decode cX6_temptation 18 = .ok (.invokevirtual 83, 3) := by decide +kernel
theorem dX6_temptation_21 : decode cX6_temptation 21 = .ok (.ireturn, 1) := by decide +kernel
theorem dX6_temptation_22 : decode cX6_temptation 22 = .ok (.aload_n 0, 1) := by decide +kernel
theorem dX6_temptation_23 : decode cX6_temptation 23 = .ok (.getfield 9, 3) := by decide +kernel
theorem dX6_temptation_26 : decode cX6_temptation 26 = .ok (.aload_n 0, 1) := by decide +kernel
theorem dX6_temptation_27 : decode cX6_temptation 27 = .ok (.getfield 16, 3) := by decide +kernel
theorem dX6_temptation_30 : decode cX6_temptation 30 = .ok (.invokestatic 65, 3) := by decide +kernel
theorem dX6_temptation_33 : decode cX6_temptation 33 = .ok (.aload_n 0, 1) := by decide +kernel
theorem dX6_temptation_34 : decode cX6_temptation 34 = .ok (.iload_n 1, 1) := by decide +kernel
theorem dX6_temptation_35 : decode cX6_temptation 35 = .ok (.iload_n 2, 1) := by decide +kernel
theorem dX6_temptation_36 : decode cX6_temptation 36 = .ok (.invokevirtual 202, 3) := by decide +kernel
theorem dX6_temptation_39 : decode cX6_temptation 39 = .ok (.istore 4, 2) := by decide +kernel
theorem dX6_temptation_41 : decode cX6_temptation 41 = .ok (.aload_n 0, 1) := by decide +kernel
theorem dX6_temptation_42 : decode cX6_temptation 42 = .ok (.iload_n 1, 1) := by decide +kernel
theorem dX6_temptation_43 : decode cX6_temptation 43 = .ok (.invokevirtual 156, 3) := by decide +kernel
theorem dX6_temptation_46 : decode cX6_temptation 46 = .ok (.istore 5, 2) := by decide +kernel
theorem dX6_temptation_48 : decode cX6_temptation 48 = .ok (.aload_n 0, 1) := by decide +kernel
theorem dX6_temptation_49 : decode cX6_temptation 49 = .ok (.iload 5, 2) := by decide +kernel
theorem dX6_temptation_51 : decode cX6_temptation 51 = .ok (.ifCond .ge 8, 3) := by decide +kernel
theorem dX6_temptation_54 : decode cX6_temptation 54 = .ok (.iload 5, 2) := by decide +kernel
theorem dX6_temptation_56 : decode cX6_temptation 56 = .ok (.goto 11, 3) := by decide +kernel
theorem dX6_temptation_59 : decode cX6_temptation 59 = .ok (.aload_n 0, 1) := by decide +kernel
theorem dX6_temptation_60 : decode cX6_temptation 60 = .ok (.iload_n 1, 1) := by decide +kernel
theorem dX6_temptation_61 : decode cX6_temptation 61 = .ok (.invokevirtual 182, 3) := by decide +kernel
theorem dX6_temptation_64 : decode cX6_temptation 64 = .ok (.iload 4, 2) := by decide +kernel
theorem dX6_temptation_66 : decode cX6_temptation 66 = .ok (.isub, 1) := by decide +kernel
theorem dX6_temptation_67 : decode cX6_temptation 67 = .ok (.invokevirtual 188, 3) := by decide +kernel
theorem dX6_temptation_70 : decode cX6_temptation 70 = .ok (.ireturn, 1) := by decide +kernel
set_option maxRecDepth 20000 in
theorem ggX6_bundle_X6_sideIs : GoodIn wsX6_bundle wsX6_sideIs := goodIn_r _ [6, 7, 8, 9, 5, 10, 31, 32, 33, 34, 35, 36, 37, 38, 39, 40, 41, 42, 43, 44, 45, 46, 47, 48, 49, 50, 51, 52] (by decide +kernel) (by decide +kernel)
set_option maxRecDepth 20000 in
theorem gX6_bundle_X6_sideIs : GoodIn wsX6_bundle (wsV RX6 93 RX6 yX6_sideIs wsX6_sideIs) := goodIn_app (goodIn_of _ (by decide +kernel)) ggX6_bundle_X6_sideIs
set_option maxRecDepth 20000 in
theorem ggX6_bundle_X6_priceFor : GoodIn wsX6_bundle wsX6_priceFor := goodIn_r _ [14, 7, 2, 3, 4, 5, 6, 8, 9, 10, 15, 16, 17, 18, 19, 20, 21, 22, 23, 24, 31, 32, 33, 34, 35, 36, 37, 38, 39, 40, 41, 42, 43, 44, 45, 46, 47, 48, 49, 50, 51, 52] (by decide +kernel) (by decide +kernel)
set_option maxRecDepth 20000 in
theorem gX6_bundle_X6_priceFor : GoodIn wsX6_bundle (wsV RX6 107 RX6 yX6_priceFor wsX6_priceFor) := goodIn_app (goodIn_of _ (by decide +kernel)) ggX6_bundle_X6_priceFor
set_option maxRecDepth 20000 in
theorem ggX6_bundle_X6_finding : GoodIn wsX6_bundle wsX6_finding := goodIn_r _ [28, 29, 30, 31, 32, 33, 34, 35, 36, 37, 38, 39, 40, 41, 42, 43, 44, 45, 46, 47, 48, 49, 50, 51, 52] (by decide +kernel) (by decide +kernel)
set_option maxRecDepth 20000 in
theorem gX6_bundle_X6_finding : GoodIn wsX6_bundle (wsV RX6 83 RX6 yX6_finding wsX6_finding) := goodIn_app (goodIn_of _ (by decide +kernel)) ggX6_bundle_X6_finding
theorem dX6_bundle_0 : decode cX6_bundle 0 = .ok (.iconst (-1), 1) := by decide +kernel
theorem dX6_bundle_1 : decode cX6_bundle 1 = .ok (.istore_n 1, 1) := by decide +kernel
theorem dX6_bundle_2 : decode cX6_bundle 2 = .ok (.iconst 0, 1) := by decide +kernel
theorem dX6_bundle_3 : decode cX6_bundle 3 = .ok (.istore_n 2, 1) := by decide +kernel
theorem dX6_bundle_4 : decode cX6_bundle 4 = .ok (.iconst 0, 1) := by decide +kernel
theorem dX6_bundle_5 : decode cX6_bundle 5 = .ok (.istore_n 3, 1) := by decide +kernel
theorem dX6_bundle_6 : decode cX6_bundle 6 = .ok (.iload_n 3, 1) := by decide +kernel
theorem dX6_bundle_7 : decode cX6_bundle 7 = .ok (.iconst 5, 1) := by decide +kernel
theorem dX6_bundle_8 : decode cX6_bundle 8 = .ok (.if_icmp .ge 134, 3) := by decide +kernel
theorem dX6_bundle_11 : decode cX6_bundle 11 = .ok (.iconst 0, 1) := by decide +kernel
theorem dX6_bundle_12 : decode cX6_bundle 12 = .ok (.istore 4, 2) := by decide +kernel
theorem dX6_bundle_14 : decode cX6_bundle 14 = .ok (.iload 4, 2) := by decide +kernel
theorem dX6_bundle_16 : decode cX6_bundle 16 = .ok (.iconst 5, 1) := by decide +kernel
theorem dX6_bundle_17 : decode cX6_bundle 17 = .ok (.if_icmp .ge 119, 3) := by decide +kernel
theorem dX6_bundle_20 : decode cX6_bundle 20 = .ok (.iload_n 3, 1) := by decide +kernel
theorem dX6_bundle_21 : decode cX6_bundle 21 = .ok (.iload 4, 2) := by decide +kernel
theorem dX6_bundle_23 : decode cX6_bundle 23 = .ok (.if_icmp .eq 30, 3) := by decide +kernel
theorem dX6_bundle_26 : decode cX6_bundle 26 = .ok (.aload_n 0, 1) := by decide +kernel
theorem dX6_bundle_27 : decode cX6_bundle 27 = .ok (.iconst 0, 1) := by decide +kernel
theorem dX6_bundle_28 : decode cX6_bundle 28 = .ok (.iconst 2, 1) := by decide +kernel
theorem dX6_bundle_29 : decode cX6_bundle 29 = .ok (.iload_n 3, 1) := by decide +kernel
theorem dX6_bundle_30 : decode cX6_bundle 30 = .ok (.iadd, 1) := by decide +kernel
theorem dX6_bundle_31 : decode cX6_bundle 31 = .ok (.invokevirtual 93, 3) := by decide +kernel
theorem dX6_bundle_34 : decode cX6_bundle 34 = .ok (.ifCond .le 19, 3) := by decide +kernel
theorem dX6_bundle_37 : decode cX6_bundle 37 = .ok (.aload_n 0, 1) := by decide +kernel
theorem dX6_bundle_38 : decode cX6_bundle 38 = .ok (.iconst 1, 1) := by decide +kernel
theorem dX6_bundle_39 : decode cX6_bundle 39 = .ok (.iconst 2, 1) := by decide +kernel
theorem dX6_bundle_40 : decode cX6_bundle 40 = .ok (.iload 4, 2) := by decide +kernel
theorem dX6_bundle_42 : decode cX6_bundle 42 = .ok (.iadd, 1) := by decide +kernel
theorem dX6_bundle_43 : decode cX6_bundle 43 = .ok (.invokevirtual 93, 3) := by decide +kernel
theorem dX6_bundle_46 : decode cX6_bundle 46 = .ok (.ifCond .le 7, 3) := by decide +kernel
theorem dX6_bundle_49 : decode cX6_bundle 49 = .ok (.iconst 1, 1) := by decide +kernel
theorem dX6_bundle_50 : decode cX6_bundle 50 = .ok (.goto 4, 3) := by decide +kernel
theorem dX6_bundle_53 : decode cX6_bundle 53 = .ok (.iconst 0, 1) := by decide +kernel
theorem dX6_bundle_54 : decode cX6_bundle 54 = .ok (.istore 5, 2) := by decide +kernel
theorem dX6_bundle_56 : decode cX6_bundle 56 = .ok (.aload_n 0, 1) := by decide +kernel
theorem dX6_bundle_57 : decode cX6_bundle 57 = .ok (.iconst 0, 1) := by decide +kernel
theorem dX6_bundle_58 : decode cX6_bundle 58 = .ok (.iload 4, 2) := by decide +kernel
theorem dX6_bundle_60 : decode cX6_bundle 60 = .ok (.iconst 1, 1) := by decide +kernel
theorem dX6_bundle_61 : decode cX6_bundle 61 = .ok (.invokevirtual 107, 3) := by decide +kernel
theorem dX6_bundle_64 : decode cX6_bundle 64 = .ok (.aload_n 0, 1) := by decide +kernel
theorem dX6_bundle_65 : decode cX6_bundle 65 = .ok (.iconst 0, 1) := by decide +kernel
theorem dX6_bundle_66 : decode cX6_bundle 66 = .ok (.iload_n 3, 1) := by decide +kernel
theorem dX6_bundle_67 : decode cX6_bundle 67 = .ok (.iconst 1, 1) := by decide +kernel
theorem dX6_bundle_68 : decode cX6_bundle 68 = .ok (.invokevirtual 107, 3) := by decide +kernel
theorem dX6_bundle_71 : decode cX6_bundle 71 = .ok (.isub, 1) := by decide +kernel
theorem dX6_bundle_72 : decode cX6_bundle 72 = .ok (.istore 6, 2) := by decide +kernel
theorem dX6_bundle_74 : decode cX6_bundle 74 = .ok (.aload_n 0, 1) := by decide +kernel
theorem dX6_bundle_75 : decode cX6_bundle 75 = .ok (.iconst 1, 1) := by decide +kernel
theorem dX6_bundle_76 : decode cX6_bundle 76 = .ok (.iload_n 3, 1) := by decide +kernel
theorem dX6_bundle_77 : decode cX6_bundle 77 = .ok (.iconst 1, 1) := by decide +kernel
theorem dX6_bundle_78 : decode cX6_bundle 78 = .ok (.invokevirtual 107, 3) := by decide +kernel
theorem dX6_bundle_81 : decode cX6_bundle 81 = .ok (.aload_n 0, 1) := by decide +kernel
theorem dX6_bundle_82 : decode cX6_bundle 82 = .ok (.iconst 1, 1) := by decide +kernel
theorem dX6_bundle_83 : decode cX6_bundle 83 = .ok (.iload 4, 2) := by decide +kernel
theorem dX6_bundle_85 : decode cX6_bundle 85 = .ok (.iconst 1, 1) := by decide +kernel
theorem dX6_bundle_86 : decode cX6_bundle 86 = .ok (.invokevirtual 107, 3) := by decide +kernel
theorem dX6_bundle_89 : decode cX6_bundle 89 = .ok (.isub, 1) := by decide +kernel
theorem dX6_bundle_90 : decode cX6_bundle 90 = .ok (.istore 7, 2) := by decide +kernel
theorem dX6_bundle_92 : decode cX6_bundle 92 = .ok (.iload 5, 2) := by decide +kernel
theorem dX6_bundle_94 : decode cX6_bundle 94 = .ok (.ifCond .eq 36, 3) := by decide +kernel
theorem dX6_bundle_97 : decode cX6_bundle 97 = .ok (.iload 6, 2) := by decide +kernel
theorem dX6_bundle_99 : decode cX6_bundle 99 = .ok (.ifCond .le 31, 3) := by decide +kernel
theorem dX6_bundle_102 : decode cX6_bundle 102 = .ok (.iload 7, 2) := by decide +kernel
theorem dX6_bundle_104 : decode cX6_bundle 104 = .ok (.ifCond .le 26, 3) := by decide +kernel
theorem dX6_bundle_107 : decode cX6_bundle 107 = .ok (.iload 6, 2) := by decide +kernel
theorem dX6_bundle_109 : decode cX6_bundle 109 = .ok (.iload 7, 2) := by decide +kernel
theorem dX6_bundle_111 : decode cX6_bundle 111 = .ok (.iadd, 1) := by decide +kernel
theorem dX6_bundle_112 : decode cX6_bundle 112 = .ok (.iload_n 2, 1) := by decide +kernel
theorem dX6_bundle_113 : decode cX6_bundle 113 = .ok (.if_icmp .le 17, 3) := by decide +kernel
theorem dX6_bundle_116 : decode cX6_bundle 116 = .ok (.bipush 10, 2) := by decide +kernel
theorem dX6_bundle_118 : decode cX6_bundle 118 = .ok (.iload_n 3, 1) := by decide +kernel
theorem dX6_bundle_119 : decode cX6_bundle 119 = .ok (.imul, 1) := by decide +kernel
theorem dX6_bundle_120 : decode cX6_bundle 120 = .ok (.iload 4, 2) := by decide +kernel
theorem dX6_bundle_122 : decode cX6_bundle 122 = .ok (.iadd, 1) := by decide +kernel
theorem dX6_bundle_123 : decode cX6_bundle 123 = .ok (.istore_n 1, 1) := by decide +kernel
theorem dX6_bundle_124 : decode cX6_bundle 124 = .ok (.iload 6, 2) := by decide +kernel
theorem dX6_bundle_126 : decode cX6_bundle 126 = .ok (.iload 7, 2) := by decide +kernel
theorem dX6_bundle_128 : decode cX6_bundle 128 = .ok (.iadd, 1) := by decide +kernel
theorem dX6_bundle_129 : decode cX6_bundle 129 = .ok (.istore_n 2, 1) := by decide +kernel
theorem dX6_bundle_130 : decode cX6_bundle 130 = .ok (.iinc 4 1, 3) := by decide +kernel
theorem dX6_bundle_133 : decode cX6_bundle 133 = .ok (.goto (-119), 3) := by decide +kernel
theorem dX6_bundle_136 : decode cX6_bundle 136 = .ok (.iinc 3 1, 3) := by decide +kernel
theorem dX6_bundle_139 : decode cX6_bundle 139 = .ok (.goto (-133), 3) := by decide +kernel
theorem dX6_bundle_142 : decode cX6_bundle 142 = .ok (.iload_n 1, 1) := by decide +kernel
theorem dX6_bundle_143 : decode cX6_bundle 143 = .ok (.ifCond .ge 12, 3) := by decide +kernel
theorem dX6_bundle_146 : decode cX6_bundle 146 = .ok (.aload_n 0, 1) := by decide +kernel
theorem dX6_bundle_147 : decode cX6_bundle 147 = .ok (.ldc 147, 2) := by decide +kernel
theorem dX6_bundle_149 : decode cX6_bundle 149 = .ok (.invokevirtual 83, 3) := by decide +kernel
theorem dX6_bundle_152 : decode cX6_bundle 152 = .ok (.goto 4, 3) := by decide +kernel
theorem dX6_bundle_155 : decode cX6_bundle 155 = .ok (.iload_n 1, 1) := by decide +kernel
theorem dX6_bundle_156 : decode cX6_bundle 156 = .ok (.ireturn, 1) := by decide +kernel
theorem dX6_booked_0 : decode cX6_booked 0 = .ok (.bipush 12, 2) := by decide +kernel
theorem dX6_booked_2 : decode cX6_booked 2 = .ok (.aload_n 0, 1) := by decide +kernel
theorem dX6_booked_3 : decode cX6_booked 3 = .ok (.getfield 9, 3) := by decide +kernel
theorem dX6_booked_6 : decode cX6_booked 6 = .ok (.iconst 0, 1) := by decide +kernel
theorem dX6_booked_7 : decode cX6_booked 7 = .ok (.iaload, 1) := by decide +kernel
theorem dX6_booked_8 : decode cX6_booked 8 = .ok (.invokestatic 111, 3) := by decide +kernel
theorem dX6_booked_11 : decode cX6_booked 11 = .ok (.ireturn, 1) := by decide +kernel
set_option maxRecDepth 20000 in
theorem ggX6_book_X6_within : GoodIn wsX6_book wsX6_within := goodIn_r _ [7] (by decide +kernel) (by decide +kernel)
set_option maxRecDepth 20000 in
theorem gX6_book_X6_within : GoodIn wsX6_book (va_wsS RX6 69 yX6_within wsX6_within) := goodIn_app (goodIn_of _ (by decide +kernel)) ggX6_book_X6_within
set_option maxRecDepth 20000 in
theorem ggX6_book_X6_finding : GoodIn wsX6_book wsX6_finding := goodIn_r _ [11, 12, 1, 24, 25, 26, 27, 28, 29, 30, 31, 32, 33, 34, 35, 36, 37, 38, 39, 40, 41, 42, 43, 44, 45] (by decide +kernel) (by decide +kernel)
set_option maxRecDepth 20000 in
theorem gX6_book_X6_finding : GoodIn wsX6_book (wsV RX6 83 RX6 yX6_finding wsX6_finding) := goodIn_app (goodIn_of _ (by decide +kernel)) ggX6_book_X6_finding
set_option maxRecDepth 20000 in
theorem ggX6_book_X6_booked : GoodIn wsX6_book wsX6_booked := goodIn_r _ [16, 3, 17, 18, 19, 20, 24, 25, 26, 27, 28, 29, 30, 31, 32, 33, 34, 35, 36, 37, 38, 39, 40, 41, 42, 43, 44, 45] (by decide +kernel) (by decide +kernel)
set_option maxRecDepth 20000 in
theorem gX6_book_X6_booked : GoodIn wsX6_book (wsV RX6 221 RX6 yX6_booked wsX6_booked) := goodIn_app (goodIn_of _ (by decide +kernel)) ggX6_book_X6_booked
set_option maxRecDepth 20000 in
theorem ggX6_book_X6_bookAt : GoodIn wsX6_book wsX6_bookAt := goodIn_r _ [23] (by decide +kernel) (by decide +kernel)
set_option maxRecDepth 20000 in
theorem gX6_book_X6_bookAt : GoodIn wsX6_book (va_wsS RX6 163 yX6_bookAt wsX6_bookAt) := goodIn_app (goodIn_of _ (by decide +kernel)) ggX6_book_X6_bookAt
theorem dX6_book_0 : decode cX6_book 0 = .ok (.iload_n 1, 1) := by decide +kernel
theorem dX6_book_1 : decode cX6_book 1 = .ok (.ifCond .lt 13, 3) := by decide +kernel
theorem dX6_book_4 : decode cX6_book 4 = .ok (.iload_n 2, 1) := by decide +kernel
theorem dX6_book_5 : decode cX6_book 5 = .ok (.iconst 0, 1) := by decide +kernel
theorem dX6_book_6 : decode cX6_book 6 = .ok (.bipush 6, 2) := by decide +kernel
theorem dX6_book_8 : decode cX6_book 8 = .ok (.invokestatic 69, 3) := by decide +kernel
theorem dX6_book_11 : decode cX6_book 11 = .ok (.ifCond .ne 10, 3) := by decide +kernel
theorem dX6_book_14 : decode cX6_book 14 = .ok (.aload_n 0, 1) := by decide +kernel
theorem dX6_book_15 : decode cX6_book 15 = .ok (.ldc 64, 2) := by decide +kernel
theorem dX6_book_17 : decode cX6_book 17 = .ok (.invokevirtual 83, 3) := by decide +kernel
theorem dX6_book_20 : decode cX6_book 20 = .ok (.ireturn, 1) := by decide +kernel
theorem dX6_book_21 : decode cX6_book 21 = .ok (.iload_n 1, 1) := by decide +kernel
theorem dX6_book_22 : decode cX6_book 22 = .ok (.aload_n 0, 1) := by decide +kernel
theorem dX6_book_23 : decode cX6_book 23 = .ok (.invokevirtual 221, 3) := by decide +kernel
theorem dX6_book_26 : decode cX6_book 26 = .ok (.if_icmp .lt 10, 3) := by decide +kernel
theorem dX6_book_29 : decode cX6_book 29 = .ok (.aload_n 0, 1) := by decide +kernel
theorem dX6_book_30 : decode cX6_book 30 = .ok (.ldc 147, 2) := by decide +kernel
theorem dX6_book_32 : decode cX6_book 32 = .ok (.invokevirtual 83, 3) := by decide +kernel
theorem dX6_book_35 : decode cX6_book 35 = .ok (.ireturn, 1) := by decide +kernel
theorem dX6_book_36 : decode cX6_book 36 = .ok (.aload_n 0, 1) := by decide +kernel
theorem dX6_book_37 : decode cX6_book 37 = .ok (.getfield 9, 3) := by decide +kernel
theorem dX6_book_40 : decode cX6_book 40 = .ok (.iconst 0, 1) := by decide +kernel
theorem dX6_book_41 : decode cX6_book 41 = .ok (.iaload, 1) := by decide +kernel
theorem dX6_book_42 : decode cX6_book 42 = .ok (.iconst 1, 1) := by decide +kernel
theorem dX6_book_43 : decode cX6_book 43 = .ok (.isub, 1) := by decide +kernel
theorem dX6_book_44 : decode cX6_book 44 = .ok (.iload_n 1, 1) := by decide +kernel
theorem dX6_book_45 : decode cX6_book 45 = .ok (.isub, 1) := by decide +kernel
theorem dX6_book_46 : decode cX6_book 46 = .ok (.istore_n 3, 1) := by decide +kernel
theorem dX6_book_47 : decode cX6_book 47 = .ok (.iload_n 3, 1) := by decide +kernel
theorem dX6_book_48 : decode cX6_book 48 = .ok (.iconst 2, 1) := by decide +kernel
theorem dX6_book_49 : decode cX6_book 49 = .ok (.irem, 1) := by decide +kernel
theorem dX6_book_50 : decode cX6_book 50 = .ok (.istore 4, 2) := by decide +kernel
theorem dX6_book_52 : decode cX6_book 52 = .ok (.iload_n 2, 1) := by decide +kernel
theorem dX6_book_53 : decode cX6_book 53 = .ok (.ifCond .ne 16, 3) := by decide +kernel
theorem dX6_book_56 : decode cX6_book 56 = .ok (.aload_n 0, 1) := by decide +kernel
theorem dX6_book_57 : decode cX6_book 57 = .ok (.getfield 9, 3) := by decide +kernel
theorem dX6_book_60 : decode cX6_book 60 = .ok (.iload_n 3, 1) := by decide +kernel
theorem dX6_book_61 : decode cX6_book 61 = .ok (.iconst 0, 1) := by decide +kernel
theorem dX6_book_62 : decode cX6_book 62 = .ok (.invokestatic 163, 3) := by decide +kernel
theorem dX6_book_65 : decode cX6_book 65 = .ok (.iaload, 1) := by decide +kernel
theorem dX6_book_66 : decode cX6_book 66 = .ok (.goto 32, 3) := by decide +kernel
theorem dX6_book_69 : decode cX6_book 69 = .ok (.iload_n 2, 1) := by decide +kernel
theorem dX6_book_70 : decode cX6_book 70 = .ok (.iconst 1, 1) := by decide +kernel
theorem dX6_book_71 : decode cX6_book 71 = .ok (.if_icmp .ne 8, 3) := by decide +kernel
theorem dX6_book_74 : decode cX6_book 74 = .ok (.iload 4, 2) := by decide +kernel
theorem dX6_book_76 : decode cX6_book 76 = .ok (.goto 22, 3) := by decide +kernel
theorem dX6_book_79 : decode cX6_book 79 = .ok (.aload_n 0, 1) := by decide +kernel
theorem dX6_book_80 : decode cX6_book 80 = .ok (.getfield 9, 3) := by decide +kernel
theorem dX6_book_83 : decode cX6_book 83 = .ok (.iload_n 3, 1) := by decide +kernel
theorem dX6_book_84 : decode cX6_book 84 = .ok (.iconst 3, 1) := by decide +kernel
theorem dX6_book_85 : decode cX6_book 85 = .ok (.iconst 5, 1) := by decide +kernel
theorem dX6_book_86 : decode cX6_book 86 = .ok (.iload 4, 2) := by decide +kernel
theorem dX6_book_88 : decode cX6_book 88 = .ok (.imul, 1) := by decide +kernel
theorem dX6_book_89 : decode cX6_book 89 = .ok (.iadd, 1) := by decide +kernel
theorem dX6_book_90 : decode cX6_book 90 = .ok (.iload_n 2, 1) := by decide +kernel
theorem dX6_book_91 : decode cX6_book 91 = .ok (.iadd, 1) := by decide +kernel
theorem dX6_book_92 : decode cX6_book 92 = .ok (.iconst 2, 1) := by decide +kernel
theorem dX6_book_93 : decode cX6_book 93 = .ok (.isub, 1) := by decide +kernel
theorem dX6_book_94 : decode cX6_book 94 = .ok (.invokestatic 163, 3) := by decide +kernel
theorem dX6_book_97 : decode cX6_book 97 = .ok (.iaload, 1) := by decide +kernel
theorem dX6_book_98 : decode cX6_book 98 = .ok (.ireturn, 1) := by decide +kernel
set_option maxRecDepth 20000 in
theorem ggX6_wouldHaveDone_X6_bookAt : GoodIn wsX6_wouldHaveDone wsX6_bookAt := goodIn_r _ [5] (by decide +kernel) (by decide +kernel)
set_option maxRecDepth 20000 in
theorem gX6_wouldHaveDone_X6_bookAt : GoodIn wsX6_wouldHaveDone (va_wsS RX6 163 yX6_bookAt wsX6_bookAt) := goodIn_app (goodIn_of _ (by decide +kernel)) ggX6_wouldHaveDone_X6_bookAt
set_option maxRecDepth 20000 in
theorem ggX6_wouldHaveDone_X6_sideIs : GoodIn wsX6_wouldHaveDone wsX6_sideIs := goodIn_r _ [9, 1, 10, 11, 4, 12, 23, 24, 25, 26, 27, 28, 29, 30, 31, 32, 33, 34, 35, 36, 37, 38, 39, 40, 41, 42, 43, 44] (by decide +kernel) (by decide +kernel)
set_option maxRecDepth 20000 in
theorem gX6_wouldHaveDone_X6_sideIs : GoodIn wsX6_wouldHaveDone (wsV RX6 93 RX6 yX6_sideIs wsX6_sideIs) := goodIn_app (goodIn_of _ (by decide +kernel)) ggX6_wouldHaveDone_X6_sideIs
set_option maxRecDepth 20000 in
theorem ggX6_wouldHaveDone_X6_priceBy : GoodIn wsX6_wouldHaveDone wsX6_priceBy := goodIn_r _ [16, 1, 17, 18, 4, 19, 20, 21, 22, 23, 24, 25, 26, 27, 28, 29, 30, 31, 32, 33, 34, 35, 36, 37, 38, 39, 40, 41, 42, 43, 44] (by decide +kernel) (by decide +kernel)
set_option maxRecDepth 20000 in
theorem gX6_wouldHaveDone_X6_priceBy : GoodIn wsX6_wouldHaveDone (wsV RX6 103 RX6 yX6_priceBy wsX6_priceBy) := goodIn_app (goodIn_of _ (by decide +kernel)) ggX6_wouldHaveDone_X6_priceBy
theorem dX6_wouldHaveDone_0 : decode cX6_wouldHaveDone 0 = .ok (.iconst 0, 1) := by decide +kernel
theorem dX6_wouldHaveDone_1 : decode cX6_wouldHaveDone 1 = .ok (.istore_n 3, 1) := by decide +kernel
theorem dX6_wouldHaveDone_2 : decode cX6_wouldHaveDone 2 = .ok (.iconst 0, 1) := by decide +kernel
theorem dX6_wouldHaveDone_3 : decode cX6_wouldHaveDone 3 = .ok (.istore 4, 2) := by decide +kernel
theorem dX6_wouldHaveDone_5 : decode cX6_wouldHaveDone 5 = .ok (.iconst 0, 1) := by decide +kernel
theorem dX6_wouldHaveDone_6 : decode cX6_wouldHaveDone 6 = .ok (.istore 5, 2) := by decide +kernel
theorem dX6_wouldHaveDone_8 : decode cX6_wouldHaveDone 8 = .ok (.iconst 0, 1) := by decide +kernel
theorem dX6_wouldHaveDone_9 : decode cX6_wouldHaveDone 9 = .ok (.istore 6, 2) := by decide +kernel
theorem dX6_wouldHaveDone_11 : decode cX6_wouldHaveDone 11 = .ok (.aload_n 0, 1) := by decide +kernel
theorem dX6_wouldHaveDone_12 : decode cX6_wouldHaveDone 12 = .ok (.getfield 9, 3) := by decide +kernel
theorem dX6_wouldHaveDone_15 : decode cX6_wouldHaveDone 15 = .ok (.iload_n 2, 1) := by decide +kernel
theorem dX6_wouldHaveDone_16 : decode cX6_wouldHaveDone 16 = .ok (.iconst 1, 1) := by decide +kernel
theorem dX6_wouldHaveDone_17 : decode cX6_wouldHaveDone 17 = .ok (.invokestatic 163, 3) := by decide +kernel
theorem dX6_wouldHaveDone_20 : decode cX6_wouldHaveDone 20 = .ok (.iaload, 1) := by decide +kernel
theorem dX6_wouldHaveDone_21 : decode cX6_wouldHaveDone 21 = .ok (.istore 7, 2) := by decide +kernel
theorem dX6_wouldHaveDone_23 : decode cX6_wouldHaveDone 23 = .ok (.iconst 0, 1) := by decide +kernel
theorem dX6_wouldHaveDone_24 : decode cX6_wouldHaveDone 24 = .ok (.istore 8, 2) := by decide +kernel
theorem dX6_wouldHaveDone_26 : decode cX6_wouldHaveDone 26 = .ok (.iload 8, 2) := by decide +kernel
theorem dX6_wouldHaveDone_28 : decode cX6_wouldHaveDone 28 = .ok (.iconst 5, 1) := by decide +kernel
theorem dX6_wouldHaveDone_29 : decode cX6_wouldHaveDone 29 = .ok (.if_icmp .ge 107, 3) := by decide +kernel
theorem dX6_wouldHaveDone_32 : decode cX6_wouldHaveDone 32 = .ok (.aload_n 0, 1) := by decide +kernel
theorem dX6_wouldHaveDone_33 : decode cX6_wouldHaveDone 33 = .ok (.iload_n 1, 1) := by decide +kernel
theorem dX6_wouldHaveDone_34 : decode cX6_wouldHaveDone 34 = .ok (.bipush 12, 2) := by decide +kernel
theorem dX6_wouldHaveDone_36 : decode cX6_wouldHaveDone 36 = .ok (.iload 8, 2) := by decide +kernel
theorem dX6_wouldHaveDone_38 : decode cX6_wouldHaveDone 38 = .ok (.iadd, 1) := by decide +kernel
theorem dX6_wouldHaveDone_39 : decode cX6_wouldHaveDone 39 = .ok (.invokevirtual 93, 3) := by decide +kernel
theorem dX6_wouldHaveDone_42 : decode cX6_wouldHaveDone 42 = .ok (.istore 9, 2) := by decide +kernel
theorem dX6_wouldHaveDone_44 : decode cX6_wouldHaveDone 44 = .ok (.aload_n 0, 1) := by decide +kernel
theorem dX6_wouldHaveDone_45 : decode cX6_wouldHaveDone 45 = .ok (.getfield 9, 3) := by decide +kernel
theorem dX6_wouldHaveDone_48 : decode cX6_wouldHaveDone 48 = .ok (.iload_n 2, 1) := by decide +kernel
theorem dX6_wouldHaveDone_49 : decode cX6_wouldHaveDone 49 = .ok (.iconst 3, 1) := by decide +kernel
theorem dX6_wouldHaveDone_50 : decode cX6_wouldHaveDone 50 = .ok (.iconst 5, 1) := by decide +kernel
theorem dX6_wouldHaveDone_51 : decode cX6_wouldHaveDone 51 = .ok (.iload_n 1, 1) := by decide +kernel
theorem dX6_wouldHaveDone_52 : decode cX6_wouldHaveDone 52 = .ok (.imul, 1) := by decide +kernel
theorem dX6_wouldHaveDone_53 : decode cX6_wouldHaveDone 53 = .ok (.iadd, 1) := by decide +kernel
theorem dX6_wouldHaveDone_54 : decode cX6_wouldHaveDone 54 = .ok (.iload 8, 2) := by decide +kernel
theorem dX6_wouldHaveDone_56 : decode cX6_wouldHaveDone 56 = .ok (.iadd, 1) := by decide +kernel
theorem dX6_wouldHaveDone_57 : decode cX6_wouldHaveDone 57 = .ok (.invokestatic 163, 3) := by decide +kernel
theorem dX6_wouldHaveDone_60 : decode cX6_wouldHaveDone 60 = .ok (.iaload, 1) := by decide +kernel
theorem dX6_wouldHaveDone_61 : decode cX6_wouldHaveDone 61 = .ok (.istore 10, 2) := by decide +kernel
theorem dX6_wouldHaveDone_63 : decode cX6_wouldHaveDone 63 = .ok (.aload_n 0, 1) := by decide +kernel
theorem dX6_wouldHaveDone_64 : decode cX6_wouldHaveDone 64 = .ok (.getfield 9, 3) := by decide +kernel
theorem dX6_wouldHaveDone_67 : decode cX6_wouldHaveDone 67 = .ok (.iload_n 2, 1) := by decide +kernel
theorem dX6_wouldHaveDone_68 : decode cX6_wouldHaveDone 68 = .ok (.iconst 3, 1) := by decide +kernel
theorem dX6_wouldHaveDone_69 : decode cX6_wouldHaveDone 69 = .ok (.iconst 5, 1) := by decide +kernel
theorem dX6_wouldHaveDone_70 : decode cX6_wouldHaveDone 70 = .ok (.iconst 1, 1) := by decide +kernel
theorem dX6_wouldHaveDone_71 : decode cX6_wouldHaveDone 71 = .ok (.iload_n 1, 1) := by decide +kernel
theorem dX6_wouldHaveDone_72 : decode cX6_wouldHaveDone 72 = .ok (.isub, 1) := by decide +kernel
theorem dX6_wouldHaveDone_73 : decode cX6_wouldHaveDone 73 = .ok (.imul, 1) := by decide +kernel
theorem dX6_wouldHaveDone_74 : decode cX6_wouldHaveDone 74 = .ok (.iadd, 1) := by decide +kernel
theorem dX6_wouldHaveDone_75 : decode cX6_wouldHaveDone 75 = .ok (.iload 8, 2) := by decide +kernel
theorem dX6_wouldHaveDone_77 : decode cX6_wouldHaveDone 77 = .ok (.iadd, 1) := by decide +kernel
theorem dX6_wouldHaveDone_78 : decode cX6_wouldHaveDone 78 = .ok (.invokestatic 163, 3) := by decide +kernel
theorem dX6_wouldHaveDone_81 : decode cX6_wouldHaveDone 81 = .ok (.iaload, 1) := by decide +kernel
theorem dX6_wouldHaveDone_82 : decode cX6_wouldHaveDone 82 = .ok (.istore 11, 2) := by decide +kernel
theorem dX6_wouldHaveDone_84 : decode cX6_wouldHaveDone 84 = .ok (.iload_n 3, 1) := by decide +kernel
theorem dX6_wouldHaveDone_85 : decode cX6_wouldHaveDone 85 = .ok (.aload_n 0, 1) := by decide +kernel
theorem dX6_wouldHaveDone_86 : decode cX6_wouldHaveDone 86 = .ok (.iload 8, 2) := by decide +kernel
theorem dX6_wouldHaveDone_88 : decode cX6_wouldHaveDone 88 = .ok (.iload 10, 2) := by decide +kernel
theorem dX6_wouldHaveDone_90 : decode cX6_wouldHaveDone 90 = .ok (.iload 9, 2) := by decide +kernel
theorem dX6_wouldHaveDone_92 : decode cX6_wouldHaveDone 92 = .ok (.iload 7, 2) := by decide +kernel
theorem dX6_wouldHaveDone_94 : decode cX6_wouldHaveDone 94 = .ok (.invokevirtual 103, 3) := by decide +kernel
theorem dX6_wouldHaveDone_97 : decode cX6_wouldHaveDone 97 = .ok (.iadd, 1) := by decide +kernel
theorem dX6_wouldHaveDone_98 : decode cX6_wouldHaveDone 98 = .ok (.istore_n 3, 1) := by decide +kernel
theorem dX6_wouldHaveDone_99 : decode cX6_wouldHaveDone 99 = .ok (.iload 4, 2) := by decide +kernel
theorem dX6_wouldHaveDone_101 : decode cX6_wouldHaveDone 101 = .ok (.aload_n 0, 1) := by decide +kernel
theorem dX6_wouldHaveDone_102 : decode cX6_wouldHaveDone 102 = .ok (.iload 8, 2) := by decide +kernel
theorem dX6_wouldHaveDone_104 : decode cX6_wouldHaveDone 104 = .ok (.iload 11, 2) := by decide +kernel
theorem dX6_wouldHaveDone_106 : decode cX6_wouldHaveDone 106 = .ok (.iload 9, 2) := by decide +kernel
theorem dX6_wouldHaveDone_108 : decode cX6_wouldHaveDone 108 = .ok (.iload 7, 2) := by decide +kernel
theorem dX6_wouldHaveDone_110 : decode cX6_wouldHaveDone 110 = .ok (.invokevirtual 103, 3) := by decide +kernel
theorem dX6_wouldHaveDone_113 : decode cX6_wouldHaveDone 113 = .ok (.iadd, 1) := by decide +kernel
theorem dX6_wouldHaveDone_114 : decode cX6_wouldHaveDone 114 = .ok (.istore 4, 2) := by decide +kernel
theorem dX6_wouldHaveDone_116 : decode cX6_wouldHaveDone 116 = .ok (.iload 5, 2) := by decide +kernel
theorem dX6_wouldHaveDone_118 : decode cX6_wouldHaveDone 118 = .ok (.iload 10, 2) := by decide +kernel
theorem dX6_wouldHaveDone_120 : decode cX6_wouldHaveDone 120 = .ok (.iadd, 1) := by decide +kernel
theorem dX6_wouldHaveDone_121 : decode cX6_wouldHaveDone 121 = .ok (.istore 5, 2) := by decide +kernel
theorem dX6_wouldHaveDone_123 : decode cX6_wouldHaveDone 123 = .ok (.iload 6, 2) := by decide +kernel
theorem dX6_wouldHaveDone_125 : decode cX6_wouldHaveDone 125 = .ok (.iload 11, 2) := by decide +kernel
theorem dX6_wouldHaveDone_127 : decode cX6_wouldHaveDone 127 = .ok (.iadd, 1) := by decide +kernel
theorem dX6_wouldHaveDone_128 : decode cX6_wouldHaveDone 128 = .ok (.istore 6, 2) := by decide +kernel
theorem dX6_wouldHaveDone_130 : decode cX6_wouldHaveDone 130 = .ok (.iinc 8 1, 3) := by decide +kernel
theorem dX6_wouldHaveDone_133 : decode cX6_wouldHaveDone 133 = .ok (.goto (-107), 3) := by decide +kernel
theorem dX6_wouldHaveDone_136 : decode cX6_wouldHaveDone 136 = .ok (.iload 6, 2) := by decide +kernel
theorem dX6_wouldHaveDone_138 : decode cX6_wouldHaveDone 138 = .ok (.ifCond .le 20, 3) := by decide +kernel
theorem dX6_wouldHaveDone_141 : decode cX6_wouldHaveDone 141 = .ok (.iload 4, 2) := by decide +kernel
theorem dX6_wouldHaveDone_143 : decode cX6_wouldHaveDone 143 = .ok (.iload_n 3, 1) := by decide +kernel
theorem dX6_wouldHaveDone_144 : decode cX6_wouldHaveDone 144 = .ok (.aload_n 0, 1) := by decide +kernel
theorem dX6_wouldHaveDone_145 : decode cX6_wouldHaveDone 145 = .ok (.iload_n 1, 1) := by decide +kernel
theorem dX6_wouldHaveDone_146 : decode cX6_wouldHaveDone 146 = .ok (.iconst 0, 1) := by decide +kernel
theorem dX6_wouldHaveDone_147 : decode cX6_wouldHaveDone 147 = .ok (.invokevirtual 93, 3) := by decide +kernel
theorem dX6_wouldHaveDone_150 : decode cX6_wouldHaveDone 150 = .ok (.iadd, 1) := by decide +kernel
theorem dX6_wouldHaveDone_151 : decode cX6_wouldHaveDone 151 = .ok (.if_icmp .lt 7, 3) := by decide +kernel
theorem dX6_wouldHaveDone_154 : decode cX6_wouldHaveDone 154 = .ok (.iconst 1, 1) := by decide +kernel
theorem dX6_wouldHaveDone_155 : decode cX6_wouldHaveDone 155 = .ok (.goto 13, 3) := by decide +kernel
theorem dX6_wouldHaveDone_158 : decode cX6_wouldHaveDone 158 = .ok (.iload 5, 2) := by decide +kernel
theorem dX6_wouldHaveDone_160 : decode cX6_wouldHaveDone 160 = .ok (.ifCond .le 7, 3) := by decide +kernel
theorem dX6_wouldHaveDone_163 : decode cX6_wouldHaveDone 163 = .ok (.iconst 2, 1) := by decide +kernel
theorem dX6_wouldHaveDone_164 : decode cX6_wouldHaveDone 164 = .ok (.goto 4, 3) := by decide +kernel
theorem dX6_wouldHaveDone_167 : decode cX6_wouldHaveDone 167 = .ok (.iconst 0, 1) := by decide +kernel
theorem dX6_wouldHaveDone_168 : decode cX6_wouldHaveDone 168 = .ok (.ireturn, 1) := by decide +kernel
set_option maxRecDepth 20000 in
theorem ggX6_allFits_X6_booked : GoodIn wsX6_allFits wsX6_booked := goodIn_r _ [6, 1, 7, 8, 9, 10, 35, 36, 37, 38, 39, 40, 41, 42, 43, 44, 45, 46, 47, 48, 49, 50, 51, 52, 53, 54, 55, 56] (by decide +kernel) (by decide +kernel)
set_option maxRecDepth 20000 in
theorem gX6_allFits_X6_booked : GoodIn wsX6_allFits (wsV RX6 221 RX6 yX6_booked wsX6_booked) := goodIn_app (goodIn_of _ (by decide +kernel)) ggX6_allFits_X6_booked
set_option maxRecDepth 20000 in
theorem ggX6_allFits_X6_bookAt : GoodIn wsX6_allFits wsX6_bookAt := goodIn_r _ [13] (by decide +kernel) (by decide +kernel)
set_option maxRecDepth 20000 in
theorem gX6_allFits_X6_bookAt : GoodIn wsX6_allFits (va_wsS RX6 163 yX6_bookAt wsX6_bookAt) := goodIn_app (goodIn_of _ (by decide +kernel)) ggX6_allFits_X6_bookAt
set_option maxRecDepth 20000 in
theorem ggX6_allFits_X6_wouldHaveDone : GoodIn wsX6_allFits wsX6_wouldHaveDone := goodIn_r _ [17, 1, 11, 12, 5, 13, 18, 19, 20, 21, 22, 23, 24, 25, 26, 27, 28, 29, 30, 31, 32, 33, 34, 35, 36, 37, 38, 39, 40, 41, 42, 43, 44, 45, 46, 47, 48, 49, 50, 51, 52, 53, 54, 55, 56] (by decide +kernel) (by decide +kernel)
set_option maxRecDepth 20000 in
theorem gX6_allFits_X6_wouldHaveDone : GoodIn wsX6_allFits (wsV RX6 224 RX6 yX6_wouldHaveDone wsX6_wouldHaveDone) := goodIn_app (goodIn_of _ (by decide +kernel)) ggX6_allFits_X6_wouldHaveDone
theorem dX6_allFits_0 : decode cX6_allFits 0 = .ok (.iconst 1, 1) := by decide +kernel
theorem dX6_allFits_1 : decode cX6_allFits 1 = .ok (.istore_n 2, 1) := by decide +kernel
theorem dX6_allFits_2 : decode cX6_allFits 2 = .ok (.iconst 0, 1) := by decide +kernel
theorem dX6_allFits_3 : decode cX6_allFits 3 = .ok (.istore_n 3, 1) := by decide +kernel
theorem dX6_allFits_4 : decode cX6_allFits 4 = .ok (.iload_n 3, 1) := by decide +kernel
theorem dX6_allFits_5 : decode cX6_allFits 5 = .ok (.aload_n 0, 1) := by decide +kernel
theorem dX6_allFits_6 : decode cX6_allFits 6 = .ok (.invokevirtual 221, 3) := by decide +kernel
theorem dX6_allFits_9 : decode cX6_allFits 9 = .ok (.if_icmp .ge 86, 3) := by decide +kernel
theorem dX6_allFits_12 : decode cX6_allFits 12 = .ok (.aload_n 0, 1) := by decide +kernel
theorem dX6_allFits_13 : decode cX6_allFits 13 = .ok (.getfield 9, 3) := by decide +kernel
theorem dX6_allFits_16 : decode cX6_allFits 16 = .ok (.iconst 0, 1) := by decide +kernel
theorem dX6_allFits_17 : decode cX6_allFits 17 = .ok (.iaload, 1) := by decide +kernel
theorem dX6_allFits_18 : decode cX6_allFits 18 = .ok (.iconst 1, 1) := by decide +kernel
theorem dX6_allFits_19 : decode cX6_allFits 19 = .ok (.isub, 1) := by decide +kernel
theorem dX6_allFits_20 : decode cX6_allFits 20 = .ok (.iload_n 3, 1) := by decide +kernel
theorem dX6_allFits_21 : decode cX6_allFits 21 = .ok (.isub, 1) := by decide +kernel
theorem dX6_allFits_22 : decode cX6_allFits 22 = .ok (.istore 4, 2) := by decide +kernel
theorem dX6_allFits_24 : decode cX6_allFits 24 = .ok (.iload 4, 2) := by decide +kernel
theorem dX6_allFits_26 : decode cX6_allFits 26 = .ok (.iconst 2, 1) := by decide +kernel
theorem dX6_allFits_27 : decode cX6_allFits 27 = .ok (.irem, 1) := by decide +kernel
theorem dX6_allFits_28 : decode cX6_allFits 28 = .ok (.iload_n 1, 1) := by decide +kernel
theorem dX6_allFits_29 : decode cX6_allFits 29 = .ok (.if_icmp .ne 21, 3) := by decide +kernel
theorem dX6_allFits_32 : decode cX6_allFits 32 = .ok (.aload_n 0, 1) := by decide +kernel
theorem dX6_allFits_33 : decode cX6_allFits 33 = .ok (.getfield 9, 3) := by decide +kernel
theorem dX6_allFits_36 : decode cX6_allFits 36 = .ok (.iload 4, 2) := by decide +kernel
theorem dX6_allFits_38 : decode cX6_allFits 38 = .ok (.iconst 2, 1) := by decide +kernel
theorem dX6_allFits_39 : decode cX6_allFits 39 = .ok (.invokestatic 163, 3) := by decide +kernel
theorem dX6_allFits_42 : decode cX6_allFits 42 = .ok (.iaload, 1) := by decide +kernel
theorem dX6_allFits_43 : decode cX6_allFits 43 = .ok (.ifCond .le 7, 3) := by decide +kernel
theorem dX6_allFits_46 : decode cX6_allFits 46 = .ok (.iconst 1, 1) := by decide +kernel
theorem dX6_allFits_47 : decode cX6_allFits 47 = .ok (.goto 4, 3) := by decide +kernel
theorem dX6_allFits_50 : decode cX6_allFits 50 = .ok (.iconst 0, 1) := by decide +kernel
theorem dX6_allFits_51 : decode cX6_allFits 51 = .ok (.istore 5, 2) := by decide +kernel
theorem dX6_allFits_53 : decode cX6_allFits 53 = .ok (.iload_n 2, 1) := by decide +kernel
theorem dX6_allFits_54 : decode cX6_allFits 54 = .ok (.ifCond .eq 33, 3) := by decide +kernel
theorem dX6_allFits_57 : decode cX6_allFits 57 = .ok (.iload 5, 2) := by decide +kernel
theorem dX6_allFits_59 : decode cX6_allFits 59 = .ok (.ifCond .eq 24, 3) := by decide +kernel
theorem dX6_allFits_62 : decode cX6_allFits 62 = .ok (.aload_n 0, 1) := by decide +kernel
theorem dX6_allFits_63 : decode cX6_allFits 63 = .ok (.iload_n 1, 1) := by decide +kernel
theorem dX6_allFits_64 : decode cX6_allFits 64 = .ok (.iload 4, 2) := by decide +kernel
theorem dX6_allFits_66 : decode cX6_allFits 66 = .ok (.invokevirtual 224, 3) := by decide +kernel
theorem dX6_allFits_69 : decode cX6_allFits 69 = .ok (.aload_n 0, 1) := by decide +kernel
theorem dX6_allFits_70 : decode cX6_allFits 70 = .ok (.getfield 9, 3) := by decide +kernel
theorem dX6_allFits_73 : decode cX6_allFits 73 = .ok (.iload 4, 2) := by decide +kernel
theorem dX6_allFits_75 : decode cX6_allFits 75 = .ok (.iconst 0, 1) := by decide +kernel
theorem dX6_allFits_76 : decode cX6_allFits 76 = .ok (.invokestatic 163, 3) := by decide +kernel
theorem dX6_allFits_79 : decode cX6_allFits 79 = .ok (.iaload, 1) := by decide +kernel
theorem dX6_allFits_80 : decode cX6_allFits 80 = .ok (.if_icmp .ne 7, 3) := by decide +kernel
theorem dX6_allFits_83 : decode cX6_allFits 83 = .ok (.iconst 1, 1) := by decide +kernel
theorem dX6_allFits_84 : decode cX6_allFits 84 = .ok (.goto 4, 3) := by decide +kernel
theorem dX6_allFits_87 : decode cX6_allFits 87 = .ok (.iconst 0, 1) := by decide +kernel
theorem dX6_allFits_88 : decode cX6_allFits 88 = .ok (.istore_n 2, 1) := by decide +kernel
theorem dX6_allFits_89 : decode cX6_allFits 89 = .ok (.iinc 3 1, 3) := by decide +kernel
theorem dX6_allFits_92 : decode cX6_allFits 92 = .ok (.goto (-88), 3) := by decide +kernel
theorem dX6_allFits_95 : decode cX6_allFits 95 = .ok (.iload_n 2, 1) := by decide +kernel
theorem dX6_allFits_96 : decode cX6_allFits 96 = .ok (.ireturn, 1) := by decide +kernel
set_option maxRecDepth 20000 in
theorem ggX6_fitting_X6_allFits : GoodIn wsX6_fitting wsX6_allFits := goodIn_r _ [6, 1, 7, 8, 9, 5, 10, 11, 12, 13, 14, 15, 16, 17, 18, 19, 20, 21, 22, 23, 24, 25, 26, 27, 28, 29, 30, 31, 32, 33, 34, 35, 36, 37, 38, 39, 40, 41, 42, 43, 44, 45, 46, 47, 48, 49, 50, 51, 52, 53, 54, 55, 56, 57, 58, 59, 60] (by decide +kernel) (by decide +kernel)
set_option maxRecDepth 20000 in
theorem gX6_fitting_X6_allFits : GoodIn wsX6_fitting (wsV RX6 227 RX6 yX6_allFits wsX6_allFits) := goodIn_app (goodIn_of _ (by decide +kernel)) ggX6_fitting_X6_allFits
theorem dX6_fitting_0 : decode cX6_fitting 0 = .ok (.aload_n 0, 1) := by decide +kernel
theorem dX6_fitting_1 : decode cX6_fitting 1 = .ok (.getfield 9, 3) := by decide +kernel
theorem dX6_fitting_4 : decode cX6_fitting 4 = .ok (.iload_n 2, 1) := by decide +kernel
theorem dX6_fitting_5 : decode cX6_fitting 5 = .ok (.iaload, 1) := by decide +kernel
theorem dX6_fitting_6 : decode cX6_fitting 6 = .ok (.istore 4, 2) := by decide +kernel
theorem dX6_fitting_8 : decode cX6_fitting 8 = .ok (.iconst 0, 1) := by decide +kernel
theorem dX6_fitting_9 : decode cX6_fitting 9 = .ok (.istore 5, 2) := by decide +kernel
theorem dX6_fitting_11 : decode cX6_fitting 11 = .ok (.iconst 0, 1) := by decide +kernel
theorem dX6_fitting_12 : decode cX6_fitting 12 = .ok (.istore 6, 2) := by decide +kernel
theorem dX6_fitting_14 : decode cX6_fitting 14 = .ok (.iload 6, 2) := by decide +kernel
theorem dX6_fitting_16 : decode cX6_fitting 16 = .ok (.iload_n 3, 1) := by decide +kernel
theorem dX6_fitting_17 : decode cX6_fitting 17 = .ok (.if_icmp .gt 38, 3) := by decide +kernel
theorem dX6_fitting_20 : decode cX6_fitting 20 = .ok (.aload_n 0, 1) := by decide +kernel
theorem dX6_fitting_21 : decode cX6_fitting 21 = .ok (.getfield 9, 3) := by decide +kernel
theorem dX6_fitting_24 : decode cX6_fitting 24 = .ok (.iload_n 2, 1) := by decide +kernel
theorem dX6_fitting_25 : decode cX6_fitting 25 = .ok (.iload 6, 2) := by decide +kernel
theorem dX6_fitting_27 : decode cX6_fitting 27 = .ok (.iastore, 1) := by decide +kernel
theorem dX6_fitting_28 : decode cX6_fitting 28 = .ok (.iload 5, 2) := by decide +kernel
theorem dX6_fitting_30 : decode cX6_fitting 30 = .ok (.aload_n 0, 1) := by decide +kernel
theorem dX6_fitting_31 : decode cX6_fitting 31 = .ok (.iload_n 1, 1) := by decide +kernel
theorem dX6_fitting_32 : decode cX6_fitting 32 = .ok (.invokevirtual 227, 3) := by decide +kernel
theorem dX6_fitting_35 : decode cX6_fitting 35 = .ok (.ifCond .eq 10, 3) := by decide +kernel
theorem dX6_fitting_38 : decode cX6_fitting 38 = .ok (.iconst 1, 1) := by decide +kernel
theorem dX6_fitting_39 : decode cX6_fitting 39 = .ok (.iload 6, 2) := by decide +kernel
theorem dX6_fitting_41 : decode cX6_fitting 41 = .ok (.ishl, 1) := by decide +kernel
theorem dX6_fitting_42 : decode cX6_fitting 42 = .ok (.goto 4, 3) := by decide +kernel
theorem dX6_fitting_45 : decode cX6_fitting 45 = .ok (.iconst 0, 1) := by decide +kernel
theorem dX6_fitting_46 : decode cX6_fitting 46 = .ok (.ior, 1) := by decide +kernel
theorem dX6_fitting_47 : decode cX6_fitting 47 = .ok (.istore 5, 2) := by decide +kernel
theorem dX6_fitting_49 : decode cX6_fitting 49 = .ok (.iinc 6 1, 3) := by decide +kernel
theorem dX6_fitting_52 : decode cX6_fitting 52 = .ok (.goto (-38), 3) := by decide +kernel
theorem dX6_fitting_55 : decode cX6_fitting 55 = .ok (.aload_n 0, 1) := by decide +kernel
theorem dX6_fitting_56 : decode cX6_fitting 56 = .ok (.getfield 9, 3) := by decide +kernel
theorem dX6_fitting_59 : decode cX6_fitting 59 = .ok (.iload_n 2, 1) := by decide +kernel
theorem dX6_fitting_60 : decode cX6_fitting 60 = .ok (.iload 4, 2) := by decide +kernel
theorem dX6_fitting_62 : decode cX6_fitting 62 = .ok (.iastore, 1) := by decide +kernel
theorem dX6_fitting_63 : decode cX6_fitting 63 = .ok (.iload 5, 2) := by decide +kernel
theorem dX6_fitting_65 : decode cX6_fitting 65 = .ok (.ireturn, 1) := by decide +kernel
set_option maxRecDepth 20000 in
theorem ggX6_fits_X6_isSide : GoodIn wsX6_fits wsX6_isSide := goodIn_r _ [5, 6, 7, 4, 8] (by decide +kernel) (by decide +kernel)
set_option maxRecDepth 20000 in
theorem gX6_fits_X6_isSide : GoodIn wsX6_fits (va_wsS RX6 87 yX6_isSide wsX6_isSide) := goodIn_app (goodIn_of _ (by decide +kernel)) ggX6_fits_X6_isSide
set_option maxRecDepth 20000 in
theorem ggX6_fits_X6_isThing : GoodIn wsX6_fits wsX6_isThing := goodIn_r _ [11, 6, 7, 4, 8] (by decide +kernel) (by decide +kernel)
set_option maxRecDepth 20000 in
theorem gX6_fits_X6_isThing : GoodIn wsX6_fits (va_wsS RX6 73 yX6_isThing wsX6_isThing) := goodIn_app (goodIn_of _ (by decide +kernel)) ggX6_fits_X6_isThing
set_option maxRecDepth 20000 in
theorem ggX6_fits_X6_at : GoodIn wsX6_fits wsX6_at := goodIn_r _ [14] (by decide +kernel) (by decide +kernel)
set_option maxRecDepth 20000 in
theorem gX6_fits_X6_at : GoodIn wsX6_fits (va_wsS RX6 60 yX6_at wsX6_at) := goodIn_app (goodIn_of _ (by decide +kernel)) ggX6_fits_X6_at
set_option maxRecDepth 20000 in
theorem ggX6_fits_X6_fitting : GoodIn wsX6_fits wsX6_fitting := goodIn_r _ [18, 19, 20, 21, 22, 4, 23, 24, 25, 26, 27, 28, 29, 30, 31, 32, 33, 34, 35, 36, 37, 38, 39, 40, 41, 42, 12, 13, 14, 43, 44, 45, 46, 47, 48, 49, 50, 51, 52, 58, 59, 60, 61, 62, 63, 64, 65, 66, 67, 68, 69, 70, 71, 72, 73, 74, 75, 76, 77, 78, 79] (by decide +kernel) (by decide +kernel)
set_option maxRecDepth 20000 in
theorem gX6_fits_X6_fitting : GoodIn wsX6_fits (wsV RX6 230 RX6 yX6_fitting wsX6_fitting) := goodIn_app (goodIn_of _ (by decide +kernel)) ggX6_fits_X6_fitting
set_option maxRecDepth 20000 in
theorem ggX6_fits_X6_finding : GoodIn wsX6_fits wsX6_finding := goodIn_r _ [56, 57, 1, 58, 59, 60, 61, 62, 63, 64, 65, 66, 67, 68, 69, 70, 71, 72, 73, 74, 75, 76, 77, 78, 79] (by decide +kernel) (by decide +kernel)
set_option maxRecDepth 20000 in
theorem gX6_fits_X6_finding : GoodIn wsX6_fits (wsV RX6 83 RX6 yX6_finding wsX6_finding) := goodIn_app (goodIn_of _ (by decide +kernel)) ggX6_fits_X6_finding
theorem dX6_fits_0 : decode cX6_fits 0 = .ok (.iload_n 1, 1) := by decide +kernel
theorem dX6_fits_1 : decode cX6_fits 1 = .ok (.invokestatic 87, 3) := by decide +kernel
theorem dX6_fits_4 : decode cX6_fits 4 = .ok (.ifCond .eq 28, 3) := by decide +kernel
theorem dX6_fits_7 : decode cX6_fits 7 = .ok (.iload_n 2, 1) := by decide +kernel
theorem dX6_fits_8 : decode cX6_fits 8 = .ok (.invokestatic 73, 3) := by decide +kernel
theorem dX6_fits_11 : decode cX6_fits 11 = .ok (.ifCond .eq 21, 3) := by decide +kernel
theorem dX6_fits_14 : decode cX6_fits 14 = .ok (.aload_n 0, 1) := by decide +kernel
theorem dX6_fits_15 : decode cX6_fits 15 = .ok (.iload_n 1, 1) := by decide +kernel
theorem dX6_fits_16 : decode cX6_fits 16 = .ok (.iload_n 1, 1) := by decide +kernel
theorem dX6_fits_17 : decode cX6_fits 17 = .ok (.bipush 12, 2) := by decide +kernel
theorem dX6_fits_19 : decode cX6_fits 19 = .ok (.iload_n 2, 1) := by decide +kernel
theorem dX6_fits_20 : decode cX6_fits 20 = .ok (.iadd, 1) := by decide +kernel
theorem dX6_fits_21 : decode cX6_fits 21 = .ok (.invokestatic 60, 3) := by decide +kernel
theorem dX6_fits_24 : decode cX6_fits 24 = .ok (.bipush 20, 2) := by decide +kernel
theorem dX6_fits_26 : decode cX6_fits 26 = .ok (.invokevirtual 230, 3) := by decide +kernel
theorem dX6_fits_29 : decode cX6_fits 29 = .ok (.goto 9, 3) := by decide +kernel
theorem dX6_fits_32 : decode cX6_fits 32 = .ok (.aload_n 0, 1) := by decide +kernel
theorem dX6_fits_33 : decode cX6_fits 33 = .ok (.ldc 64, 2) := by decide +kernel
theorem dX6_fits_35 : decode cX6_fits 35 = .ok (.invokevirtual 83, 3) := by decide +kernel
theorem dX6_fits_38 : decode cX6_fits 38 = .ok (.ireturn, 1) := by decide +kernel
set_option maxRecDepth 20000 in
theorem ggX6_greeds_X6_isSide : GoodIn wsX6_greeds wsX6_isSide := goodIn_r _ [5, 6, 7, 4, 8] (by decide +kernel) (by decide +kernel)
set_option maxRecDepth 20000 in
theorem gX6_greeds_X6_isSide : GoodIn wsX6_greeds (va_wsS RX6 87 yX6_isSide wsX6_isSide) := goodIn_app (goodIn_of _ (by decide +kernel)) ggX6_greeds_X6_isSide
set_option maxRecDepth 20000 in
theorem ggX6_greeds_X6_at : GoodIn wsX6_greeds wsX6_at := goodIn_r _ [11] (by decide +kernel) (by decide +kernel)
set_option maxRecDepth 20000 in
theorem gX6_greeds_X6_at : GoodIn wsX6_greeds (va_wsS RX6 60 yX6_at wsX6_at) := goodIn_app (goodIn_of _ (by decide +kernel)) ggX6_greeds_X6_at
set_option maxRecDepth 20000 in
theorem ggX6_greeds_X6_fitting : GoodIn wsX6_greeds wsX6_fitting := goodIn_r _ [15, 16, 17, 18, 19, 4, 20, 21, 22, 23, 24, 25, 26, 27, 28, 29, 30, 31, 32, 33, 34, 35, 36, 37, 38, 39, 9, 10, 11, 40, 41, 42, 43, 44, 45, 46, 47, 48, 49, 55, 56, 57, 58, 59, 60, 61, 62, 63, 64, 65, 66, 67, 68, 69, 70, 71, 72, 73, 74, 75, 76] (by decide +kernel) (by decide +kernel)
set_option maxRecDepth 20000 in
theorem gX6_greeds_X6_fitting : GoodIn wsX6_greeds (wsV RX6 230 RX6 yX6_fitting wsX6_fitting) := goodIn_app (goodIn_of _ (by decide +kernel)) ggX6_greeds_X6_fitting
set_option maxRecDepth 20000 in
theorem ggX6_greeds_X6_finding : GoodIn wsX6_greeds wsX6_finding := goodIn_r _ [53, 54, 1, 55, 56, 57, 58, 59, 60, 61, 62, 63, 64, 65, 66, 67, 68, 69, 70, 71, 72, 73, 74, 75, 76] (by decide +kernel) (by decide +kernel)
set_option maxRecDepth 20000 in
theorem gX6_greeds_X6_finding : GoodIn wsX6_greeds (wsV RX6 83 RX6 yX6_finding wsX6_finding) := goodIn_app (goodIn_of _ (by decide +kernel)) ggX6_greeds_X6_finding
theorem dX6_greeds_0 : decode cX6_greeds 0 = .ok (.iload_n 1, 1) := by decide +kernel
theorem dX6_greeds_1 : decode cX6_greeds 1 = .ok (.invokestatic 87, 3) := by decide +kernel
theorem dX6_greeds_4 : decode cX6_greeds 4 = .ok (.ifCond .eq 18, 3) := by decide +kernel
theorem dX6_greeds_7 : decode cX6_greeds 7 = .ok (.aload_n 0, 1) := by decide +kernel
theorem dX6_greeds_8 : decode cX6_greeds 8 = .ok (.iload_n 1, 1) := by decide +kernel
theorem dX6_greeds_9 : decode cX6_greeds 9 = .ok (.iload_n 1, 1) := by decide +kernel
theorem dX6_greeds_10 : decode cX6_greeds 10 = .ok (.iconst 0, 1) := by decide +kernel
theorem dX6_greeds_11 : decode cX6_greeds 11 = .ok (.invokestatic 60, 3) := by decide +kernel
theorem dX6_greeds_14 : decode cX6_greeds 14 = .ok (.bipush 30, 2) := by decide +kernel
theorem dX6_greeds_16 : decode cX6_greeds 16 = .ok (.invokevirtual 230, 3) := by decide +kernel
theorem dX6_greeds_19 : decode cX6_greeds 19 = .ok (.goto 9, 3) := by decide +kernel
theorem dX6_greeds_22 : decode cX6_greeds 22 = .ok (.aload_n 0, 1) := by decide +kernel
theorem dX6_greeds_23 : decode cX6_greeds 23 = .ok (.ldc 64, 2) := by decide +kernel
theorem dX6_greeds_25 : decode cX6_greeds 25 = .ok (.invokevirtual 83, 3) := by decide +kernel
theorem dX6_greeds_28 : decode cX6_greeds 28 = .ok (.ireturn, 1) := by decide +kernel
set_option maxRecDepth 20000 in
theorem ggX6_known_X6_isSide : GoodIn wsX6_known wsX6_isSide := goodIn_r _ [5, 6, 7, 4, 8] (by decide +kernel) (by decide +kernel)
set_option maxRecDepth 20000 in
theorem gX6_known_X6_isSide : GoodIn wsX6_known (va_wsS RX6 87 yX6_isSide wsX6_isSide) := goodIn_app (goodIn_of _ (by decide +kernel)) ggX6_known_X6_isSide
set_option maxRecDepth 20000 in
theorem ggX6_known_X6_finding : GoodIn wsX6_known wsX6_finding := goodIn_r _ [12, 13, 1, 58, 59, 60, 61, 62, 63, 64, 65, 66, 67, 68, 69, 70, 71, 72, 73, 74, 75, 76, 77, 78, 79] (by decide +kernel) (by decide +kernel)
set_option maxRecDepth 20000 in
theorem gX6_known_X6_finding : GoodIn wsX6_known (wsV RX6 83 RX6 yX6_finding wsX6_finding) := goodIn_app (goodIn_of _ (by decide +kernel)) ggX6_known_X6_finding
set_option maxRecDepth 20000 in
theorem ggX6_known_X6_at : GoodIn wsX6_known wsX6_at := goodIn_r _ [16] (by decide +kernel) (by decide +kernel)
set_option maxRecDepth 20000 in
theorem gX6_known_X6_at : GoodIn wsX6_known (va_wsS RX6 60 yX6_at wsX6_at) := goodIn_app (goodIn_of _ (by decide +kernel)) ggX6_known_X6_at
set_option maxRecDepth 20000 in
theorem ggX6_known_X6_fitting : GoodIn wsX6_known wsX6_fitting := goodIn_r _ [20, 21, 22, 23, 24, 4, 25, 26, 27, 28, 29, 30, 31, 32, 33, 34, 35, 36, 37, 38, 39, 40, 41, 42, 43, 44, 14, 15, 16, 45, 46, 47, 48, 49, 50, 51, 52, 53, 54, 58, 59, 60, 61, 62, 63, 64, 65, 66, 67, 68, 69, 70, 71, 72, 73, 74, 75, 76, 77, 78, 79] (by decide +kernel) (by decide +kernel)
set_option maxRecDepth 20000 in
theorem gX6_known_X6_fitting : GoodIn wsX6_known (wsV RX6 230 RX6 yX6_fitting wsX6_fitting) := goodIn_app (goodIn_of _ (by decide +kernel)) ggX6_known_X6_fitting
set_option maxRecDepth 20000 in
theorem ggX6_known_X6_bits : GoodIn wsX6_known wsX6_bits := goodIn_r _ [57] (by decide +kernel) (by decide +kernel)
set_option maxRecDepth 20000 in
theorem gX6_known_X6_bits : GoodIn wsX6_known (va_wsS RX6 233 yX6_bits wsX6_bits) := goodIn_app (goodIn_of _ (by decide +kernel)) ggX6_known_X6_bits
theorem dX6_known_0 : decode cX6_known 0 = .ok (.iload_n 1, 1) := by decide +kernel
theorem dX6_known_1 : decode cX6_known 1 = .ok (.invokestatic 87, 3) := by decide +kernel
theorem dX6_known_4 : decode cX6_known 4 = .ok (.ifCond .ne 10, 3) := by decide +kernel
theorem dX6_known_7 : decode cX6_known 7 = .ok (.aload_n 0, 1) := by decide +kernel
theorem dX6_known_8 : decode cX6_known 8 = .ok (.ldc 64, 2) := by decide +kernel
theorem dX6_known_10 : decode cX6_known 10 = .ok (.invokevirtual 83, 3) := by decide +kernel
theorem dX6_known_13 : decode cX6_known 13 = .ok (.ireturn, 1) := by decide +kernel
theorem dX6_known_14 : decode cX6_known 14 = .ok (.iconst (-1), 1) := by decide +kernel
theorem dX6_known_15 : decode cX6_known 15 = .ok (.istore_n 2, 1) := by decide +kernel
theorem dX6_known_16 : decode cX6_known 16 = .ok (.iconst 0, 1) := by decide +kernel
theorem dX6_known_17 : decode cX6_known 17 = .ok (.istore_n 3, 1) := by decide +kernel
theorem dX6_known_18 : decode cX6_known 18 = .ok (.iconst 0, 1) := by decide +kernel
theorem dX6_known_19 : decode cX6_known 19 = .ok (.istore 4, 2) := by decide +kernel
theorem dX6_known_21 : decode cX6_known 21 = .ok (.iload 4, 2) := by decide +kernel
theorem dX6_known_23 : decode cX6_known 23 = .ok (.iconst 5, 1) := by decide +kernel
theorem dX6_known_24 : decode cX6_known 24 = .ok (.if_icmp .ge 46, 3) := by decide +kernel
theorem dX6_known_27 : decode cX6_known 27 = .ok (.aload_n 0, 1) := by decide +kernel
theorem dX6_known_28 : decode cX6_known 28 = .ok (.iload_n 1, 1) := by decide +kernel
theorem dX6_known_29 : decode cX6_known 29 = .ok (.iload_n 1, 1) := by decide +kernel
theorem dX6_known_30 : decode cX6_known 30 = .ok (.bipush 12, 2) := by decide +kernel
theorem dX6_known_32 : decode cX6_known 32 = .ok (.iload 4, 2) := by decide +kernel
theorem dX6_known_34 : decode cX6_known 34 = .ok (.iadd, 1) := by decide +kernel
theorem dX6_known_35 : decode cX6_known 35 = .ok (.invokestatic 60, 3) := by decide +kernel
theorem dX6_known_38 : decode cX6_known 38 = .ok (.bipush 20, 2) := by decide +kernel
theorem dX6_known_40 : decode cX6_known 40 = .ok (.invokevirtual 230, 3) := by decide +kernel
theorem dX6_known_43 : decode cX6_known 43 = .ok (.invokestatic 233, 3) := by decide +kernel
theorem dX6_known_46 : decode cX6_known 46 = .ok (.istore 5, 2) := by decide +kernel
theorem dX6_known_48 : decode cX6_known 48 = .ok (.iload_n 2, 1) := by decide +kernel
theorem dX6_known_49 : decode cX6_known 49 = .ok (.ifCond .lt 9, 3) := by decide +kernel
theorem dX6_known_52 : decode cX6_known 52 = .ok (.iload 5, 2) := by decide +kernel
theorem dX6_known_54 : decode cX6_known 54 = .ok (.iload_n 3, 1) := by decide +kernel
theorem dX6_known_55 : decode cX6_known 55 = .ok (.if_icmp .ge 9, 3) := by decide +kernel
theorem dX6_known_58 : decode cX6_known 58 = .ok (.iload 4, 2) := by decide +kernel
theorem dX6_known_60 : decode cX6_known 60 = .ok (.istore_n 2, 1) := by decide +kernel
theorem dX6_known_61 : decode cX6_known 61 = .ok (.iload 5, 2) := by decide +kernel
theorem dX6_known_63 : decode cX6_known 63 = .ok (.istore_n 3, 1) := by decide +kernel
theorem dX6_known_64 : decode cX6_known 64 = .ok (.iinc 4 1, 3) := by decide +kernel
theorem dX6_known_67 : decode cX6_known 67 = .ok (.goto (-46), 3) := by decide +kernel
theorem dX6_known_70 : decode cX6_known 70 = .ok (.iload_n 2, 1) := by decide +kernel
theorem dX6_known_71 : decode cX6_known 71 = .ok (.ireturn, 1) := by decide +kernel
theorem dX6_drawn_0 : decode cX6_drawn 0 = .ok (.aload_n 0, 1) := by decide +kernel
theorem dX6_drawn_1 : decode cX6_drawn 1 = .ok (.getfield 9, 3) := by decide +kernel
theorem dX6_drawn_4 : decode cX6_drawn 4 = .ok (.iconst 4, 1) := by decide +kernel
theorem dX6_drawn_5 : decode cX6_drawn 5 = .ok (.aload_n 0, 1) := by decide +kernel
theorem dX6_drawn_6 : decode cX6_drawn 6 = .ok (.getfield 9, 3) := by decide +kernel
theorem dX6_drawn_9 : decode cX6_drawn 9 = .ok (.iconst 4, 1) := by decide +kernel
theorem dX6_drawn_10 : decode cX6_drawn 10 = .ok (.iaload, 1) := by decide +kernel
theorem dX6_drawn_11 : decode cX6_drawn 11 = .ok (.ldc 236, 2) := by decide +kernel
theorem dX6_drawn_13 : decode cX6_drawn 13 = .ok (.imul, 1) := by decide +kernel
theorem dX6_drawn_14 : decode cX6_drawn 14 = .ok (.sipush 12345, 3) := by decide +kernel
theorem dX6_drawn_17 : decode cX6_drawn 17 = .ok (.iadd, 1) := by decide +kernel
theorem dX6_drawn_18 : decode cX6_drawn 18 = .ok (.iastore, 1) := by decide +kernel
theorem dX6_drawn_19 : decode cX6_drawn 19 = .ok (.aload_n 0, 1) := by decide +kernel
theorem dX6_drawn_20 : decode cX6_drawn 20 = .ok (.getfield 9, 3) := by decide +kernel
theorem dX6_drawn_23 : decode cX6_drawn 23 = .ok (.iconst 4, 1) := by decide +kernel
theorem dX6_drawn_24 : decode cX6_drawn 24 = .ok (.iaload, 1) := by decide +kernel
theorem dX6_drawn_25 : decode cX6_drawn 25 = .ok (.bipush 8, 2) := by decide +kernel
theorem dX6_drawn_27 : decode cX6_drawn 27 = .ok (.iushr, 1) := by decide +kernel
theorem dX6_drawn_28 : decode cX6_drawn 28 = .ok (.iload_n 1, 1) := by decide +kernel
theorem dX6_drawn_29 : decode cX6_drawn 29 = .ok (.irem, 1) := by decide +kernel
theorem dX6_drawn_30 : decode cX6_drawn 30 = .ok (.ireturn, 1) := by decide +kernel
set_option maxRecDepth 20000 in
theorem ggX6_season_X6_within : GoodIn wsX6_season wsX6_within := goodIn_r _ [7] (by decide +kernel) (by decide +kernel)
set_option maxRecDepth 20000 in
theorem gX6_season_X6_within : GoodIn wsX6_season (va_wsS RX6 69 yX6_within wsX6_within) := goodIn_app (goodIn_of _ (by decide +kernel)) ggX6_season_X6_within
set_option maxRecDepth 20000 in
theorem ggX6_season_X6_finding : GoodIn wsX6_season wsX6_finding := goodIn_r _ [11, 12, 1, 118, 119, 120, 121, 122, 123, 124, 125, 126, 127, 128, 129, 130, 131, 132, 133, 134, 135, 136, 137, 138, 139] (by decide +kernel) (by decide +kernel)
set_option maxRecDepth 20000 in
theorem gX6_season_X6_finding : GoodIn wsX6_season (wsV RX6 83 RX6 yX6_finding wsX6_finding) := goodIn_app (goodIn_of _ (by decide +kernel)) ggX6_season_X6_finding
set_option maxRecDepth 20000 in
theorem ggX6_season_X6_isTooLate : GoodIn wsX6_season wsX6_isTooLate := goodIn_r _ [16, 3, 118, 119, 120, 121, 122, 123, 124, 125, 126, 127, 128, 129, 130, 131, 132, 133, 134, 135, 136, 137, 138, 139] (by decide +kernel) (by decide +kernel)
set_option maxRecDepth 20000 in
theorem gX6_season_X6_isTooLate : GoodIn wsX6_season (wsV RX6 176 RX6 yX6_isTooLate wsX6_isTooLate) := goodIn_app (goodIn_of _ (by decide +kernel)) ggX6_season_X6_isTooLate
set_option maxRecDepth 20000 in
theorem ggX6_season_X6_drawn : GoodIn wsX6_season wsX6_drawn := goodIn_r _ [20, 3, 21, 118, 119, 120, 121, 122, 123, 124, 125, 126, 127, 128, 129, 130, 131, 132, 133, 134, 135, 136, 137, 138, 139] (by decide +kernel) (by decide +kernel)
set_option maxRecDepth 20000 in
theorem gX6_season_X6_drawn : GoodIn wsX6_season (wsV RX6 237 RX6 yX6_drawn wsX6_drawn) := goodIn_app (goodIn_of _ (by decide +kernel)) ggX6_season_X6_drawn
set_option maxRecDepth 20000 in
theorem ggX6_season_X6_mayLay : GoodIn wsX6_season wsX6_mayLay := goodIn_r _ [25, 26, 27, 28, 6, 29, 3, 30, 31, 32, 118, 119, 120, 121, 122, 123, 124, 125, 126, 127, 128, 129, 130, 131, 132, 133, 134, 135, 136, 137, 138, 139] (by decide +kernel) (by decide +kernel)
set_option maxRecDepth 20000 in
theorem gX6_season_X6_mayLay : GoodIn wsX6_season (wsV RX6 128 RX6 yX6_mayLay wsX6_mayLay) := goodIn_app (goodIn_of _ (by decide +kernel)) ggX6_season_X6_mayLay
set_option maxRecDepth 20000 in
theorem ggX6_season_X6_laid : GoodIn wsX6_season wsX6_laid := goodIn_r _ [36, 3, 30, 31, 6, 32, 26, 27, 28, 29, 118, 119, 120, 121, 122, 123, 124, 125, 126, 127, 128, 129, 130, 131, 132, 133, 134, 135, 136, 137, 138, 139] (by decide +kernel) (by decide +kernel)
set_option maxRecDepth 20000 in
theorem gX6_season_X6_laid : GoodIn wsX6_season (wsV RX6 131 RX6 yX6_laid wsX6_laid) := goodIn_app (goodIn_of _ (by decide +kernel)) ggX6_season_X6_laid
set_option maxRecDepth 20000 in
theorem ggX6_season_X6_nightsGo : GoodIn wsX6_season wsX6_nightsGo := goodIn_r _ [40, 41, 42, 43, 6, 44, 3, 45, 46, 47, 48, 26, 27, 28, 29, 30, 31, 32, 49, 50, 51, 52, 53, 54, 55, 56, 57, 58, 59, 60, 61, 62, 63, 64, 65, 66, 67, 68, 69, 70, 71, 72, 73, 74, 75, 76, 77, 78, 79, 80, 81, 82, 83, 84, 85, 86, 87, 88, 89, 90, 91, 92, 93, 94, 95, 96, 97, 98, 99, 100, 101, 102, 103, 104, 105, 106, 107, 108, 109, 110, 111, 112, 113, 114, 115, 116, 117, 118, 119, 120, 121, 122, 123, 124, 125, 126, 127, 128, 129, 130, 131, 132, 133, 134, 135, 136, 137, 138, 139] (by decide +kernel) (by decide +kernel)
set_option maxRecDepth 20000 in
theorem gX6_season_X6_nightsGo : GoodIn wsX6_season (wsV RX6 179 RX6 yX6_nightsGo wsX6_nightsGo) := goodIn_app (goodIn_of _ (by decide +kernel)) ggX6_season_X6_nightsGo
theorem dX6_season_0 : decode cX6_season 0 = .ok (.iload_n 1, 1) := by decide +kernel
theorem dX6_season_1 : decode cX6_season 1 = .ok (.iconst 1, 1) := by decide +kernel
theorem dX6_season_2 : decode cX6_season 2 = .ok (.bipush 12, 2) := by decide +kernel
theorem dX6_season_4 : decode cX6_season 4 = .ok (.invokestatic 69, 3) := by decide +kernel
theorem dX6_season_7 : decode cX6_season 7 = .ok (.ifCond .ne 10, 3) := by decide +kernel
theorem dX6_season_10 : decode cX6_season 10 = .ok (.aload_n 0, 1) := by decide +kernel
theorem dX6_season_11 : decode cX6_season 11 = .ok (.ldc 64, 2) := by decide +kernel
theorem dX6_season_13 : decode cX6_season 13 = .ok (.invokevirtual 83, 3) := by decide +kernel
theorem dX6_season_16 : decode cX6_season 16 = .ok (.ireturn, 1) := by decide +kernel
theorem dX6_season_17 : decode cX6_season 17 = .ok (.aload_n 0, 1) := by decide +kernel
theorem dX6_season_18 : decode cX6_season 18 = .ok (.iconst 2, 1) := by decide +kernel
theorem dX6_season_19 : decode cX6_season 19 = .ok (.iload_n 1, 1) := by decide +kernel
theorem dX6_season_20 : decode cX6_season 20 = .ok (.imul, 1) := by decide +kernel
theorem dX6_season_21 : decode cX6_season 21 = .ok (.invokevirtual 176, 3) := by decide +kernel
theorem dX6_season_24 : decode cX6_season 24 = .ok (.ifCond .eq 10, 3) := by decide +kernel
theorem dX6_season_27 : decode cX6_season 27 = .ok (.aload_n 0, 1) := by decide +kernel
theorem dX6_season_28 : decode cX6_season 28 = .ok (.ldc 134, 2) := by decide +kernel
theorem dX6_season_30 : decode cX6_season 30 = .ok (.invokevirtual 83, 3) := by decide +kernel
theorem dX6_season_33 : decode cX6_season 33 = .ok (.ireturn, 1) := by decide +kernel
theorem dX6_season_34 : decode cX6_season 34 = .ok (.iconst 0, 1) := by decide +kernel
theorem dX6_season_35 : decode cX6_season 35 = .ok (.istore_n 2, 1) := by decide +kernel
theorem dX6_season_36 : decode cX6_season 36 = .ok (.iconst 0, 1) := by decide +kernel
theorem dX6_season_37 : decode cX6_season 37 = .ok (.istore_n 3, 1) := by decide +kernel
theorem dX6_season_38 : decode cX6_season 38 = .ok (.iload_n 3, 1) := by decide +kernel
theorem dX6_season_39 : decode cX6_season 39 = .ok (.iload_n 1, 1) := by decide +kernel
theorem dX6_season_40 : decode cX6_season 40 = .ok (.if_icmp .ge 65, 3) := by decide +kernel
theorem dX6_season_43 : decode cX6_season 43 = .ok (.aload_n 0, 1) := by decide +kernel
theorem dX6_season_44 : decode cX6_season 44 = .ok (.getfield 9, 3) := by decide +kernel
theorem dX6_season_47 : decode cX6_season 47 = .ok (.iconst 1, 1) := by decide +kernel
theorem dX6_season_48 : decode cX6_season 48 = .ok (.aload_n 0, 1) := by decide +kernel
theorem dX6_season_49 : decode cX6_season 49 = .ok (.bipush 10, 2) := by decide +kernel
theorem dX6_season_51 : decode cX6_season 51 = .ok (.invokevirtual 237, 3) := by decide +kernel
theorem dX6_season_54 : decode cX6_season 54 = .ok (.iastore, 1) := by decide +kernel
theorem dX6_season_55 : decode cX6_season 55 = .ok (.aload_n 0, 1) := by decide +kernel
theorem dX6_season_56 : decode cX6_season 56 = .ok (.iconst 2, 1) := by decide +kernel
theorem dX6_season_57 : decode cX6_season 57 = .ok (.invokevirtual 237, 3) := by decide +kernel
theorem dX6_season_60 : decode cX6_season 60 = .ok (.istore 4, 2) := by decide +kernel
theorem dX6_season_62 : decode cX6_season 62 = .ok (.aload_n 0, 1) := by decide +kernel
theorem dX6_season_63 : decode cX6_season 63 = .ok (.iconst 5, 1) := by decide +kernel
theorem dX6_season_64 : decode cX6_season 64 = .ok (.invokevirtual 237, 3) := by decide +kernel
theorem dX6_season_67 : decode cX6_season 67 = .ok (.istore 5, 2) := by decide +kernel
theorem dX6_season_69 : decode cX6_season 69 = .ok (.aload_n 0, 1) := by decide +kernel
theorem dX6_season_70 : decode cX6_season 70 = .ok (.iload 4, 2) := by decide +kernel
theorem dX6_season_72 : decode cX6_season 72 = .ok (.iload 5, 2) := by decide +kernel
theorem dX6_season_74 : decode cX6_season 74 = .ok (.iconst 1, 1) := by decide +kernel
theorem dX6_season_75 : decode cX6_season 75 = .ok (.invokevirtual 128, 3) := by decide +kernel
theorem dX6_season_78 : decode cX6_season 78 = .ok (.ifCond .eq 13, 3) := by decide +kernel
theorem dX6_season_81 : decode cX6_season 81 = .ok (.aload_n 0, 1) := by decide +kernel
theorem dX6_season_82 : decode cX6_season 82 = .ok (.iload 4, 2) := by decide +kernel
theorem dX6_season_84 : decode cX6_season 84 = .ok (.iload 5, 2) := by decide +kernel
theorem dX6_season_86 : decode cX6_season 86 = .ok (.iconst 1, 1) := by decide +kernel
theorem dX6_season_87 : decode cX6_season 87 = .ok (.invokevirtual 131, 3) := by decide +kernel
theorem dX6_season_90 : decode cX6_season 90 = .ok (.pop, 1) := by decide +kernel
theorem dX6_season_91 : decode cX6_season 91 = .ok (.iload_n 2, 1) := by decide +kernel
theorem dX6_season_92 : decode cX6_season 92 = .ok (.aload_n 0, 1) := by decide +kernel
theorem dX6_season_93 : decode cX6_season 93 = .ok (.iconst 2, 1) := by decide +kernel
theorem dX6_season_94 : decode cX6_season 94 = .ok (.invokevirtual 179, 3) := by decide +kernel
theorem dX6_season_97 : decode cX6_season 97 = .ok (.iadd, 1) := by decide +kernel
theorem dX6_season_98 : decode cX6_season 98 = .ok (.istore_n 2, 1) := by decide +kernel
theorem dX6_season_99 : decode cX6_season 99 = .ok (.iinc 3 1, 3) := by decide +kernel
theorem dX6_season_102 : decode cX6_season 102 = .ok (.goto (-64), 3) := by decide +kernel
theorem dX6_season_105 : decode cX6_season 105 = .ok (.iload_n 2, 1) := by decide +kernel
theorem dX6_season_106 : decode cX6_season 106 = .ok (.ireturn, 1) := by decide +kernel
set_option maxRecDepth 20000 in
theorem ggX6_seed_X6_become : GoodIn wsX6_seed wsX6_become := goodIn_r _ [5, 6, 7, 8, 9, 10, 11, 12, 13, 14, 15, 16, 17, 18, 19, 20, 21, 22, 23, 24, 25, 26, 27, 28] (by decide +kernel) (by decide +kernel)
set_option maxRecDepth 20000 in
theorem gX6_seed_X6_become : GoodIn wsX6_seed (wsV RX6 80 RX6 yX6_become wsX6_become) := goodIn_app (goodIn_of _ (by decide +kernel)) ggX6_seed_X6_become
theorem dX6_seed_0 : decode cX6_seed 0 = .ok (.aload_n 0, 1) := by decide +kernel
theorem dX6_seed_1 : decode cX6_seed 1 = .ok (.iconst 4, 1) := by decide +kernel
theorem dX6_seed_2 : decode cX6_seed 2 = .ok (.iload_n 1, 1) := by decide +kernel
theorem dX6_seed_3 : decode cX6_seed 3 = .ok (.invokevirtual 80, 3) := by decide +kernel
theorem dX6_seed_6 : decode cX6_seed 6 = .ok (.ireturn, 1) := by decide +kernel
set_option maxRecDepth 20000 in
theorem ggX6_feed_X6_within : GoodIn wsX6_feed wsX6_within := goodIn_r _ [8] (by decide +kernel) (by decide +kernel)
set_option maxRecDepth 20000 in
theorem gX6_feed_X6_within : GoodIn wsX6_feed (va_wsS RX6 69 yX6_within wsX6_within) := goodIn_app (goodIn_of _ (by decide +kernel)) ggX6_feed_X6_within
set_option maxRecDepth 20000 in
theorem ggX6_feed_X6_finding : GoodIn wsX6_feed wsX6_finding := goodIn_r _ [12, 13, 1, 14, 15, 16, 17, 18, 19, 20, 21, 22, 23, 24, 25, 26, 27, 28, 29, 30, 31, 32, 33, 34, 35] (by decide +kernel) (by decide +kernel)
set_option maxRecDepth 20000 in
theorem gX6_feed_X6_finding : GoodIn wsX6_feed (wsV RX6 83 RX6 yX6_finding wsX6_finding) := goodIn_app (goodIn_of _ (by decide +kernel)) ggX6_feed_X6_finding
theorem dX6_feed_0 : decode cX6_feed 0 = .ok (.iload_n 2, 1) := by decide +kernel
theorem dX6_feed_1 : decode cX6_feed 1 = .ok (.iconst 1, 1) := by decide +kernel
theorem dX6_feed_2 : decode cX6_feed 2 = .ok (.iconst 4, 1) := by decide +kernel
theorem dX6_feed_3 : decode cX6_feed 3 = .ok (.invokestatic 69, 3) := by decide +kernel
theorem dX6_feed_6 : decode cX6_feed 6 = .ok (.ifCond .ne 10, 3) := by decide +kernel
theorem dX6_feed_9 : decode cX6_feed 9 = .ok (.aload_n 0, 1) := by decide +kernel
theorem dX6_feed_10 : decode cX6_feed 10 = .ok (.ldc 64, 2) := by decide +kernel
theorem dX6_feed_12 : decode cX6_feed 12 = .ok (.invokevirtual 83, 3) := by decide +kernel
theorem dX6_feed_15 : decode cX6_feed 15 = .ok (.ireturn, 1) := by decide +kernel
theorem dX6_feed_16 : decode cX6_feed 16 = .ok (.aload_n 0, 1) := by decide +kernel
theorem dX6_feed_17 : decode cX6_feed 17 = .ok (.getfield 240, 3) := by decide +kernel
theorem dX6_feed_20 : decode cX6_feed 20 = .ok (.iload_n 2, 1) := by decide +kernel
theorem dX6_feed_21 : decode cX6_feed 21 = .ok (.iadd, 1) := by decide +kernel
theorem dX6_feed_22 : decode cX6_feed 22 = .ok (.bipush 120, 2) := by decide +kernel
theorem dX6_feed_24 : decode cX6_feed 24 = .ok (.if_icmp .le 10, 3) := by decide +kernel
theorem dX6_feed_27 : decode cX6_feed 27 = .ok (.aload_n 0, 1) := by decide +kernel
theorem dX6_feed_28 : decode cX6_feed 28 = .ok (.ldc 243, 2) := by decide +kernel
theorem dX6_feed_30 : decode cX6_feed 30 = .ok (.invokevirtual 83, 3) := by decide +kernel
theorem dX6_feed_33 : decode cX6_feed 33 = .ok (.ireturn, 1) := by decide +kernel
theorem dX6_feed_34 : decode cX6_feed 34 = .ok (.iload_n 2, 1) := by decide +kernel
theorem dX6_feed_35 : decode cX6_feed 35 = .ok (.iconst 1, 1) := by decide +kernel
theorem dX6_feed_36 : decode cX6_feed 36 = .ok (.isub, 1) := by decide +kernel
theorem dX6_feed_37 : decode cX6_feed 37 = .ok (.istore_n 3, 1) := by decide +kernel
theorem dX6_feed_38 : decode cX6_feed 38 = .ok (.iload_n 3, 1) := by decide +kernel
theorem dX6_feed_39 : decode cX6_feed 39 = .ok (.ifCond .lt 38, 3) := by decide +kernel
theorem dX6_feed_42 : decode cX6_feed 42 = .ok (.aload_n 0, 1) := by decide +kernel
theorem dX6_feed_43 : decode cX6_feed 43 = .ok (.getfield 22, 3) := by decide +kernel
theorem dX6_feed_46 : decode cX6_feed 46 = .ok (.aload_n 0, 1) := by decide +kernel
theorem dX6_feed_47 : decode cX6_feed 47 = .ok (.getfield 240, 3) := by decide +kernel
theorem dX6_feed_50 : decode cX6_feed 50 = .ok (.iload_n 1, 1) := by decide +kernel
theorem dX6_feed_51 : decode cX6_feed 51 = .ok (.bipush 8, 2) := by decide +kernel
theorem dX6_feed_53 : decode cX6_feed 53 = .ok (.iload_n 3, 1) := by decide +kernel
theorem dX6_feed_54 : decode cX6_feed 54 = .ok (.imul, 1) := by decide +kernel
theorem dX6_feed_55 : decode cX6_feed 55 = .ok (.ishr, 1) := by decide +kernel
theorem dX6_feed_56 : decode cX6_feed 56 = .ok (.sipush 255, 3) := by decide +kernel
theorem dX6_feed_59 : decode cX6_feed 59 = .ok (.iand, 1) := by decide +kernel
theorem dX6_feed_60 : decode cX6_feed 60 = .ok (.iastore, 1) := by decide +kernel
theorem dX6_feed_61 : decode cX6_feed 61 = .ok (.aload_n 0, 1) := by decide +kernel
theorem dX6_feed_62 : decode cX6_feed 62 = .ok (.dup, 1) := by decide +kernel
theorem dX6_feed_63 : decode cX6_feed 63 = .ok (.getfield 240, 3) := by decide +kernel
theorem dX6_feed_66 : decode cX6_feed 66 = .ok (.iconst 1, 1) := by decide +kernel
theorem dX6_feed_67 : decode cX6_feed 67 = .ok (.iadd, 1) := by decide +kernel
theorem dX6_feed_68 : decode cX6_feed 68 = .ok (.putfield 240, 3) := by decide +kernel
theorem dX6_feed_71 : decode cX6_feed 71 = .ok (.iinc 3 (-1), 3) := by decide +kernel
theorem dX6_feed_74 : decode cX6_feed 74 = .ok (.goto (-36), 3) := by decide +kernel
theorem dX6_feed_77 : decode cX6_feed 77 = .ok (.aload_n 0, 1) := by decide +kernel
theorem dX6_feed_78 : decode cX6_feed 78 = .ok (.getfield 240, 3) := by decide +kernel
theorem dX6_feed_81 : decode cX6_feed 81 = .ok (.ireturn, 1) := by decide +kernel
theorem dX6_wipe_0 : decode cX6_wipe 0 = .ok (.aload_n 0, 1) := by decide +kernel
theorem dX6_wipe_1 : decode cX6_wipe 1 = .ok (.getfield 240, 3) := by decide +kernel
theorem dX6_wipe_4 : decode cX6_wipe 4 = .ok (.istore_n 1, 1) := by decide +kernel
theorem dX6_wipe_5 : decode cX6_wipe 5 = .ok (.aload_n 0, 1) := by decide +kernel
theorem dX6_wipe_6 : decode cX6_wipe 6 = .ok (.iconst 0, 1) := by decide +kernel
theorem dX6_wipe_7 : decode cX6_wipe 7 = .ok (.putfield 240, 3) := by decide +kernel
theorem dX6_wipe_10 : decode cX6_wipe 10 = .ok (.iload_n 1, 1) := by decide +kernel
theorem dX6_wipe_11 : decode cX6_wipe 11 = .ok (.ireturn, 1) := by decide +kernel
theorem dX6_byteAt_0 : decode cX6_byteAt 0 = .ok (.iload_n 1, 1) := by decide +kernel
theorem dX6_byteAt_1 : decode cX6_byteAt 1 = .ok (.aload_n 0, 1) := by decide +kernel
theorem dX6_byteAt_2 : decode cX6_byteAt 2 = .ok (.getfield 240, 3) := by decide +kernel
theorem dX6_byteAt_5 : decode cX6_byteAt 5 = .ok (.if_icmp .ge 12, 3) := by decide +kernel
theorem dX6_byteAt_8 : decode cX6_byteAt 8 = .ok (.aload_n 0, 1) := by decide +kernel
theorem dX6_byteAt_9 : decode cX6_byteAt 9 = .ok (.getfield 22, 3) := by decide +kernel
theorem dX6_byteAt_12 : decode cX6_byteAt 12 = .ok (.iload_n 1, 1) := by decide +kernel
theorem dX6_byteAt_13 : decode cX6_byteAt 13 = .ok (.iaload, 1) := by decide +kernel
theorem dX6_byteAt_14 : decode cX6_byteAt 14 = .ok (.goto 4, 3) := by decide +kernel
theorem dX6_byteAt_17 : decode cX6_byteAt 17 = .ok (.iconst (-1), 1) := by decide +kernel
theorem dX6_byteAt_18 : decode cX6_byteAt 18 = .ok (.ireturn, 1) := by decide +kernel
set_option maxRecDepth 20000 in
theorem ggX6_next_X6_byteAt : GoodIn wsX6_next wsX6_byteAt := goodIn_r _ [13, 14, 15, 19, 20, 21, 22, 23, 24, 25, 26, 27, 28, 29, 30, 31, 32, 33, 34, 35, 36, 37, 38, 39, 40] (by decide +kernel) (by decide +kernel)
set_option maxRecDepth 20000 in
theorem gX6_next_X6_byteAt : GoodIn wsX6_next (wsV RX6 250 RX6 yX6_byteAt wsX6_byteAt) := goodIn_app (goodIn_of _ (by decide +kernel)) ggX6_next_X6_byteAt
set_option maxRecDepth 20000 in
theorem ggX6_next_X6_within : GoodIn wsX6_next wsX6_within := goodIn_r _ [18] (by decide +kernel) (by decide +kernel)
set_option maxRecDepth 20000 in
theorem gX6_next_X6_within : GoodIn wsX6_next (va_wsS RX6 69 yX6_within wsX6_within) := goodIn_app (goodIn_of _ (by decide +kernel)) ggX6_next_X6_within
theorem dX6_next_0 : decode cX6_next 0 = .ok (.aload_n 0, 1) := by decide +kernel
theorem dX6_next_1 : decode cX6_next 1 = .ok (.aload_n 0, 1) := by decide +kernel
theorem dX6_next_2 : decode cX6_next 2 = .ok (.getfield 244, 3) := by decide +kernel
theorem dX6_next_5 : decode cX6_next 5 = .ok (.putfield 247, 3) := by decide +kernel
theorem dX6_next_8 : decode cX6_next 8 = .ok (.aload_n 0, 1) := by decide +kernel
theorem dX6_next_9 : decode cX6_next 9 = .ok (.aload_n 0, 1) := by decide +kernel
theorem dX6_next_10 : decode cX6_next 10 = .ok (.getfield 247, 3) := by decide +kernel
theorem dX6_next_13 : decode cX6_next 13 = .ok (.invokevirtual 250, 3) := by decide +kernel
theorem dX6_next_16 : decode cX6_next 16 = .ok (.bipush 32, 2) := by decide +kernel
theorem dX6_next_18 : decode cX6_next 18 = .ok (.if_icmp .ne 16, 3) := by decide +kernel
theorem dX6_next_21 : decode cX6_next 21 = .ok (.aload_n 0, 1) := by decide +kernel
theorem dX6_next_22 : decode cX6_next 22 = .ok (.dup, 1) := by decide +kernel
theorem dX6_next_23 : decode cX6_next 23 = .ok (.getfield 247, 3) := by decide +kernel
theorem dX6_next_26 : decode cX6_next 26 = .ok (.iconst 1, 1) := by decide +kernel
theorem dX6_next_27 : decode cX6_next 27 = .ok (.iadd, 1) := by decide +kernel
theorem dX6_next_28 : decode cX6_next 28 = .ok (.putfield 247, 3) := by decide +kernel
theorem dX6_next_31 : decode cX6_next 31 = .ok (.goto (-23), 3) := by decide +kernel
theorem dX6_next_34 : decode cX6_next 34 = .ok (.aload_n 0, 1) := by decide +kernel
theorem dX6_next_35 : decode cX6_next 35 = .ok (.aload_n 0, 1) := by decide +kernel
theorem dX6_next_36 : decode cX6_next 36 = .ok (.getfield 247, 3) := by decide +kernel
theorem dX6_next_39 : decode cX6_next 39 = .ok (.invokevirtual 250, 3) := by decide +kernel
theorem dX6_next_42 : decode cX6_next 42 = .ok (.istore_n 1, 1) := by decide +kernel
theorem dX6_next_43 : decode cX6_next 43 = .ok (.aload_n 0, 1) := by decide +kernel
theorem dX6_next_44 : decode cX6_next 44 = .ok (.aload_n 0, 1) := by decide +kernel
theorem dX6_next_45 : decode cX6_next 45 = .ok (.getfield 247, 3) := by decide +kernel
theorem dX6_next_48 : decode cX6_next 48 = .ok (.putfield 244, 3) := by decide +kernel
theorem dX6_next_51 : decode cX6_next 51 = .ok (.aload_n 0, 1) := by decide +kernel
theorem dX6_next_52 : decode cX6_next 52 = .ok (.iconst 0, 1) := by decide +kernel
theorem dX6_next_53 : decode cX6_next 53 = .ok (.putfield 253, 3) := by decide +kernel
theorem dX6_next_56 : decode cX6_next 56 = .ok (.iload_n 1, 1) := by decide +kernel
theorem dX6_next_57 : decode cX6_next 57 = .ok (.ifCond .ge 11, 3) := by decide +kernel
theorem dX6_next_60 : decode cX6_next 60 = .ok (.aload_n 0, 1) := by decide +kernel
theorem dX6_next_61 : decode cX6_next 61 = .ok (.iconst 0, 1) := by decide +kernel
theorem dX6_next_62 : decode cX6_next 62 = .ok (.putfield 256, 3) := by decide +kernel
theorem dX6_next_65 : decode cX6_next 65 = .ok (.goto 141, 3) := by decide +kernel
theorem dX6_next_68 : decode cX6_next 68 = .ok (.iload_n 1, 1) := by decide +kernel
theorem dX6_next_69 : decode cX6_next 69 = .ok (.bipush 97, 2) := by decide +kernel
theorem dX6_next_71 : decode cX6_next 71 = .ok (.bipush 122, 2) := by decide +kernel
theorem dX6_next_73 : decode cX6_next 73 = .ok (.invokestatic 69, 3) := by decide +kernel
theorem dX6_next_76 : decode cX6_next 76 = .ok (.ifCond .eq 39, 3) := by decide +kernel
theorem dX6_next_79 : decode cX6_next 79 = .ok (.aload_n 0, 1) := by decide +kernel
theorem dX6_next_80 : decode cX6_next 80 = .ok (.iconst 1, 1) := by decide +kernel
theorem dX6_next_81 : decode cX6_next 81 = .ok (.putfield 256, 3) := by decide +kernel
theorem dX6_next_84 : decode cX6_next 84 = .ok (.aload_n 0, 1) := by decide +kernel
theorem dX6_next_85 : decode cX6_next 85 = .ok (.aload_n 0, 1) := by decide +kernel
theorem dX6_next_86 : decode cX6_next 86 = .ok (.getfield 244, 3) := by decide +kernel
theorem dX6_next_89 : decode cX6_next 89 = .ok (.invokevirtual 250, 3) := by decide +kernel
theorem dX6_next_92 : decode cX6_next 92 = .ok (.bipush 97, 2) := by decide +kernel
theorem dX6_next_94 : decode cX6_next 94 = .ok (.bipush 122, 2) := by decide +kernel
theorem dX6_next_96 : decode cX6_next 96 = .ok (.invokestatic 69, 3) := by decide +kernel
theorem dX6_next_99 : decode cX6_next 99 = .ok (.ifCond .eq 107, 3) := by decide +kernel
theorem dX6_next_102 : decode cX6_next 102 = .ok (.aload_n 0, 1) := by decide +kernel
theorem dX6_next_103 : decode cX6_next 103 = .ok (.dup, 1) := by decide +kernel
theorem dX6_next_104 : decode cX6_next 104 = .ok (.getfield 244, 3) := by decide +kernel
theorem dX6_next_107 : decode cX6_next 107 = .ok (.iconst 1, 1) := by decide +kernel
theorem dX6_next_108 : decode cX6_next 108 = .ok (.iadd, 1) := by decide +kernel
theorem dX6_next_109 : decode cX6_next 109 = .ok (.putfield 244, 3) := by decide +kernel
theorem dX6_next_112 : decode cX6_next 112 = .ok (.goto (-28), 3) := by decide +kernel
theorem dX6_next_115 : decode cX6_next 115 = .ok (.iload_n 1, 1) := by decide +kernel
theorem dX6_next_116 : decode cX6_next 116 = .ok (.bipush 48, 2) := by decide +kernel
theorem dX6_next_118 : decode cX6_next 118 = .ok (.bipush 57, 2) := by decide +kernel
theorem dX6_next_120 : decode cX6_next 120 = .ok (.invokestatic 69, 3) := by decide +kernel
theorem dX6_next_123 : decode cX6_next 123 = .ok (.ifCond .eq 68, 3) := by decide +kernel
theorem dX6_next_126 : decode cX6_next 126 = .ok (.aload_n 0, 1) := by decide +kernel
theorem dX6_next_127 : decode cX6_next 127 = .ok (.iconst 2, 1) := by decide +kernel
theorem dX6_next_128 : decode cX6_next 128 = .ok (.putfield 256, 3) := by decide +kernel
theorem dX6_next_131 : decode cX6_next 131 = .ok (.aload_n 0, 1) := by decide +kernel
theorem dX6_next_132 : decode cX6_next 132 = .ok (.aload_n 0, 1) := by decide +kernel
theorem dX6_next_133 : decode cX6_next 133 = .ok (.getfield 244, 3) := by decide +kernel
theorem dX6_next_136 : decode cX6_next 136 = .ok (.invokevirtual 250, 3) := by decide +kernel
theorem dX6_next_139 : decode cX6_next 139 = .ok (.bipush 48, 2) := by decide +kernel
theorem dX6_next_141 : decode cX6_next 141 = .ok (.bipush 57, 2) := by decide +kernel
theorem dX6_next_143 : decode cX6_next 143 = .ok (.invokestatic 69, 3) := by decide +kernel
theorem dX6_next_146 : decode cX6_next 146 = .ok (.ifCond .eq 60, 3) := by decide +kernel
theorem dX6_next_149 : decode cX6_next 149 = .ok (.aload_n 0, 1) := by decide +kernel
theorem dX6_next_150 : decode cX6_next 150 = .ok (.sipush 1000, 3) := by decide +kernel
theorem dX6_next_153 : decode cX6_next 153 = .ok (.bipush 10, 2) := by decide +kernel
theorem dX6_next_155 : decode cX6_next 155 = .ok (.aload_n 0, 1) := by decide +kernel
theorem dX6_next_156 : decode cX6_next 156 = .ok (.getfield 253, 3) := by decide +kernel
theorem dX6_next_159 : decode cX6_next 159 = .ok (.imul, 1) := by decide +kernel
theorem dX6_next_160 : decode cX6_next 160 = .ok (.aload_n 0, 1) := by decide +kernel
theorem dX6_next_161 : decode cX6_next 161 = .ok (.aload_n 0, 1) := by decide +kernel
theorem dX6_next_162 : decode cX6_next 162 = .ok (.getfield 244, 3) := by decide +kernel
theorem dX6_next_165 : decode cX6_next 165 = .ok (.invokevirtual 250, 3) := by decide +kernel
theorem dX6_next_168 : decode cX6_next 168 = .ok (.iadd, 1) := by decide +kernel
theorem dX6_next_169 : decode cX6_next 169 = .ok (.bipush 48, 2) := by decide +kernel
theorem dX6_next_171 : decode cX6_next 171 = .ok (.isub, 1) := by decide +kernel
theorem dX6_next_172 : decode cX6_next 172 = .ok (.invokestatic 111, 3) := by decide +kernel
theorem dX6_next_175 : decode cX6_next 175 = .ok (.putfield 253, 3) := by decide +kernel
theorem dX6_next_178 : decode cX6_next 178 = .ok (.aload_n 0, 1) := by decide +kernel
theorem dX6_next_179 : decode cX6_next 179 = .ok (.dup, 1) := by decide +kernel
theorem dX6_next_180 : decode cX6_next 180 = .ok (.getfield 244, 3) := by decide +kernel
theorem dX6_next_183 : decode cX6_next 183 = .ok (.iconst 1, 1) := by decide +kernel
theorem dX6_next_184 : decode cX6_next 184 = .ok (.iadd, 1) := by decide +kernel
theorem dX6_next_185 : decode cX6_next 185 = .ok (.putfield 244, 3) := by decide +kernel
theorem dX6_next_188 : decode cX6_next 188 = .ok (.goto (-57), 3) := by decide +kernel
theorem dX6_next_191 : decode cX6_next 191 = .ok (.aload_n 0, 1) := by decide +kernel
theorem dX6_next_192 : decode cX6_next 192 = .ok (.iconst 3, 1) := by decide +kernel
theorem dX6_next_193 : decode cX6_next 193 = .ok (.putfield 256, 3) := by decide +kernel
theorem dX6_next_196 : decode cX6_next 196 = .ok (.aload_n 0, 1) := by decide +kernel
theorem dX6_next_197 : decode cX6_next 197 = .ok (.dup, 1) := by decide +kernel
theorem dX6_next_198 : decode cX6_next 198 = .ok (.getfield 244, 3) := by decide +kernel
theorem dX6_next_201 : decode cX6_next 201 = .ok (.iconst 1, 1) := by decide +kernel
theorem dX6_next_202 : decode cX6_next 202 = .ok (.iadd, 1) := by decide +kernel
theorem dX6_next_203 : decode cX6_next 203 = .ok (.putfield 244, 3) := by decide +kernel
theorem dX6_next_206 : decode cX6_next 206 = .ok (.return_, 1) := by decide +kernel
set_option maxRecDepth 20000 in
theorem ggX6_isWord_J0_length_8abf5 : GoodIn wsX6_isWord wsJ0_length_8abf5 := goodIn_r _ [9, 10, 11, 12, 13, 8, 14, 15, 16] (by decide +kernel) (by decide +kernel)
set_option maxRecDepth 20000 in
theorem gX6_isWord_J0_length_8abf5 : GoodIn wsX6_isWord (wsV RX6 259 RJ0 yJ0_length_8abf5 wsJ0_length_8abf5) := goodIn_app (goodIn_of _ (by decide +kernel)) ggX6_isWord_J0_length_8abf5
set_option maxRecDepth 20000 in
theorem ggX6_isWord_J0_charAt_5068e : GoodIn wsX6_isWord wsJ0_charAt_5068e := goodIn_r _ [20, 10, 21, 22, 23, 8, 24, 15, 16, 25, 26, 27, 28, 29, 30, 31, 32, 33, 34, 35, 36, 37, 38, 39, 40, 41, 42, 43, 44, 45, 46, 47, 48, 49, 50, 51, 52, 53] (by decide +kernel) (by decide +kernel)
set_option maxRecDepth 20000 in
theorem gX6_isWord_J0_charAt_5068e : GoodIn wsX6_isWord (wsV RX6 262 RJ0 yJ0_charAt_5068e wsJ0_charAt_5068e) := goodIn_app (goodIn_of _ (by decide +kernel)) ggX6_isWord_J0_charAt_5068e
theorem dX6_isWord_0 : decode cX6_isWord 0 = .ok (.aload_n 0, 1) := by decide +kernel
theorem dX6_isWord_1 : decode cX6_isWord 1 = .ok (.getfield 256, 3) := by decide +kernel
theorem dX6_isWord_4 : decode cX6_isWord 4 = .ok (.iconst 1, 1) := by decide +kernel
theorem dX6_isWord_5 : decode cX6_isWord 5 = .ok (.if_icmp .ne 23, 3) := by decide +kernel
theorem dX6_isWord_8 : decode cX6_isWord 8 = .ok (.aload_n 0, 1) := by decide +kernel
theorem dX6_isWord_9 : decode cX6_isWord 9 = .ok (.getfield 244, 3) := by decide +kernel
theorem dX6_isWord_12 : decode cX6_isWord 12 = .ok (.aload_n 0, 1) := by decide +kernel
theorem dX6_isWord_13 : decode cX6_isWord 13 = .ok (.getfield 247, 3) := by decide +kernel
theorem dX6_isWord_16 : decode cX6_isWord 16 = .ok (.isub, 1) := by decide +kernel
theorem dX6_isWord_17 : decode cX6_isWord 17 = .ok (.aload_n 1, 1) := by decide +kernel
theorem dX6_isWord_18 : decode cX6_isWord 18 = .ok (.invokevirtual 259, 3) := by decide +kernel
theorem dX6_isWord_21 : decode cX6_isWord 21 = .ok (.if_icmp .ne 7, 3) := by decide +kernel
theorem dX6_isWord_24 : decode cX6_isWord 24 = .ok (.iconst 1, 1) := by decide +kernel
theorem dX6_isWord_25 : decode cX6_isWord 25 = .ok (.goto 4, 3) := by decide +kernel
theorem dX6_isWord_28 : decode cX6_isWord 28 = .ok (.iconst 0, 1) := by decide +kernel
theorem dX6_isWord_29 : decode cX6_isWord 29 = .ok (.istore_n 2, 1) := by decide +kernel
theorem dX6_isWord_30 : decode cX6_isWord 30 = .ok (.iconst 0, 1) := by decide +kernel
theorem dX6_isWord_31 : decode cX6_isWord 31 = .ok (.istore_n 3, 1) := by decide +kernel
theorem dX6_isWord_32 : decode cX6_isWord 32 = .ok (.iload_n 3, 1) := by decide +kernel
theorem dX6_isWord_33 : decode cX6_isWord 33 = .ok (.aload_n 1, 1) := by decide +kernel
theorem dX6_isWord_34 : decode cX6_isWord 34 = .ok (.invokevirtual 259, 3) := by decide +kernel
theorem dX6_isWord_37 : decode cX6_isWord 37 = .ok (.if_icmp .ge 38, 3) := by decide +kernel
theorem dX6_isWord_40 : decode cX6_isWord 40 = .ok (.iload_n 2, 1) := by decide +kernel
theorem dX6_isWord_41 : decode cX6_isWord 41 = .ok (.ifCond .eq 34, 3) := by decide +kernel
theorem dX6_isWord_44 : decode cX6_isWord 44 = .ok (.aload_n 0, 1) := by decide +kernel
theorem dX6_isWord_45 : decode cX6_isWord 45 = .ok (.getfield 22, 3) := by decide +kernel
theorem dX6_isWord_48 : decode cX6_isWord 48 = .ok (.aload_n 0, 1) := by decide +kernel
theorem dX6_isWord_49 : decode cX6_isWord 49 = .ok (.getfield 247, 3) := by decide +kernel
theorem dX6_isWord_52 : decode cX6_isWord 52 = .ok (.iload_n 3, 1) := by decide +kernel
theorem dX6_isWord_53 : decode cX6_isWord 53 = .ok (.iadd, 1) := by decide +kernel
theorem dX6_isWord_54 : decode cX6_isWord 54 = .ok (.iaload, 1) := by decide +kernel
theorem dX6_isWord_55 : decode cX6_isWord 55 = .ok (.aload_n 1, 1) := by decide +kernel
theorem dX6_isWord_56 : decode cX6_isWord 56 = .ok (.iload_n 3, 1) := by decide +kernel
theorem dX6_isWord_57 : decode cX6_isWord 57 = .ok (.invokevirtual 262, 3) := by decide +kernel
theorem dX6_isWord_60 : decode cX6_isWord 60 = .ok (.if_icmp .ne 7, 3) := by decide +kernel
theorem dX6_isWord_63 : decode cX6_isWord 63 = .ok (.iconst 1, 1) := by decide +kernel
theorem dX6_isWord_64 : decode cX6_isWord 64 = .ok (.goto 4, 3) := by decide +kernel
theorem dX6_isWord_67 : decode cX6_isWord 67 = .ok (.iconst 0, 1) := by decide +kernel
theorem dX6_isWord_68 : decode cX6_isWord 68 = .ok (.istore_n 2, 1) := by decide +kernel
theorem dX6_isWord_69 : decode cX6_isWord 69 = .ok (.iinc 3 1, 3) := by decide +kernel
theorem dX6_isWord_72 : decode cX6_isWord 72 = .ok (.goto (-40), 3) := by decide +kernel
theorem dX6_isWord_75 : decode cX6_isWord 75 = .ok (.iload_n 2, 1) := by decide +kernel
theorem dX6_isWord_76 : decode cX6_isWord 76 = .ok (.ireturn, 1) := by decide +kernel
set_option maxRecDepth 20000 in
theorem ggX6_must_X6_next : GoodIn wsX6_must wsX6_next := goodIn_r _ [6, 7, 8, 9, 10, 11, 12, 13, 14, 15, 16, 17, 5, 18, 19, 20, 21, 22, 23, 24, 25, 26, 27, 28, 29, 30, 31, 32, 33, 34, 35, 36, 37, 38, 39, 40, 41, 42, 43, 44, 45] (by decide +kernel) (by decide +kernel)
set_option maxRecDepth 20000 in
theorem gX6_must_X6_next : GoodIn wsX6_must (wsV RX6 270 RX6 yX6_next wsX6_next) := goodIn_app (goodIn_of _ (by decide +kernel)) ggX6_must_X6_next
theorem dX6_must_0 : decode cX6_must 0 = .ok (.aload_n 0, 1) := by decide +kernel
theorem dX6_must_1 : decode cX6_must 1 = .ok (.aload_n 0, 1) := by decide +kernel
theorem dX6_must_2 : decode cX6_must 2 = .ok (.getfield 266, 3) := by decide +kernel
theorem dX6_must_5 : decode cX6_must 5 = .ok (.ifCond .ne 7, 3) := by decide +kernel
theorem dX6_must_8 : decode cX6_must 8 = .ok (.iload_n 1, 1) := by decide +kernel
theorem dX6_must_9 : decode cX6_must 9 = .ok (.ifCond .ne 7, 3) := by decide +kernel
theorem dX6_must_12 : decode cX6_must 12 = .ok (.iconst 1, 1) := by decide +kernel
theorem dX6_must_13 : decode cX6_must 13 = .ok (.goto 4, 3) := by decide +kernel
theorem dX6_must_16 : decode cX6_must 16 = .ok (.iconst 0, 1) := by decide +kernel
theorem dX6_must_17 : decode cX6_must 17 = .ok (.putfield 266, 3) := by decide +kernel
theorem dX6_must_20 : decode cX6_must 20 = .ok (.aload_n 0, 1) := by decide +kernel
theorem dX6_must_21 : decode cX6_must 21 = .ok (.getfield 266, 3) := by decide +kernel
theorem dX6_must_24 : decode cX6_must 24 = .ok (.ifCond .ne 7, 3) := by decide +kernel
theorem dX6_must_27 : decode cX6_must 27 = .ok (.aload_n 0, 1) := by decide +kernel
theorem dX6_must_28 : decode cX6_must 28 = .ok (.invokevirtual 270, 3) := by decide +kernel
theorem dX6_must_31 : decode cX6_must 31 = .ok (.return_, 1) := by decide +kernel
set_option maxRecDepth 20000 in
theorem ggX6_number_X6_within : GoodIn wsX6_number wsX6_within := goodIn_r _ [6] (by decide +kernel) (by decide +kernel)
set_option maxRecDepth 20000 in
theorem gX6_number_X6_within : GoodIn wsX6_number (va_wsS RX6 69 yX6_within wsX6_within) := goodIn_app (goodIn_of _ (by decide +kernel)) ggX6_number_X6_within
set_option maxRecDepth 20000 in
theorem ggX6_number_X6_must : GoodIn wsX6_number wsX6_must := goodIn_r _ [10, 11, 12, 13, 14, 5, 15, 16, 17, 1, 2, 18, 19, 20, 21, 22, 23, 24, 25, 26, 27, 3, 4, 6, 28, 29, 30, 31, 32, 33, 34, 35, 36, 37, 38, 39, 40, 41, 42, 43, 44, 45, 46, 47, 48, 49] (by decide +kernel) (by decide +kernel)
set_option maxRecDepth 20000 in
theorem gX6_number_X6_must : GoodIn wsX6_number (wsV RX6 273 RX6 yX6_must wsX6_must) := goodIn_app (goodIn_of _ (by decide +kernel)) ggX6_number_X6_must
theorem dX6_number_0 : decode cX6_number 0 = .ok (.aload_n 0, 1) := by decide +kernel
theorem dX6_number_1 : decode cX6_number 1 = .ok (.getfield 253, 3) := by decide +kernel
theorem dX6_number_4 : decode cX6_number 4 = .ok (.istore_n 3, 1) := by decide +kernel
theorem dX6_number_5 : decode cX6_number 5 = .ok (.aload_n 0, 1) := by decide +kernel
theorem dX6_number_6 : decode cX6_number 6 = .ok (.aload_n 0, 1) := by decide +kernel
theorem dX6_number_7 : decode cX6_number 7 = .ok (.getfield 256, 3) := by decide +kernel
theorem dX6_number_10 : decode cX6_number 10 = .ok (.iconst 2, 1) := by decide +kernel
theorem dX6_number_11 : decode cX6_number 11 = .ok (.if_icmp .ne 16, 3) := by decide +kernel
theorem dX6_number_14 : decode cX6_number 14 = .ok (.iload_n 3, 1) := by decide +kernel
theorem dX6_number_15 : decode cX6_number 15 = .ok (.iload_n 1, 1) := by decide +kernel
theorem dX6_number_16 : decode cX6_number 16 = .ok (.iload_n 2, 1) := by decide +kernel
theorem dX6_number_17 : decode cX6_number 17 = .ok (.invokestatic 69, 3) := by decide +kernel
theorem dX6_number_20 : decode cX6_number 20 = .ok (.ifCond .eq 7, 3) := by decide +kernel
theorem dX6_number_23 : decode cX6_number 23 = .ok (.iconst 1, 1) := by decide +kernel
theorem dX6_number_24 : decode cX6_number 24 = .ok (.goto 4, 3) := by decide +kernel
theorem dX6_number_27 : decode cX6_number 27 = .ok (.iconst 0, 1) := by decide +kernel
theorem dX6_number_28 : decode cX6_number 28 = .ok (.invokevirtual 273, 3) := by decide +kernel
theorem dX6_number_31 : decode cX6_number 31 = .ok (.iload_n 3, 1) := by decide +kernel
theorem dX6_number_32 : decode cX6_number 32 = .ok (.ireturn, 1) := by decide +kernel
theorem dX6_row_0 : decode cX6_row 0 = .ok (.aload_n 0, 1) := by decide +kernel
theorem dX6_row_1 : decode cX6_row 1 = .ok (.getfield 45, 3) := by decide +kernel
theorem dX6_row_4 : decode cX6_row 4 = .ok (.iconst 2, 1) := by decide +kernel
theorem dX6_row_5 : decode cX6_row 5 = .ok (.aload_n 0, 1) := by decide +kernel
theorem dX6_row_6 : decode cX6_row 6 = .ok (.getfield 277, 3) := by decide +kernel
theorem dX6_row_9 : decode cX6_row 9 = .ok (.imul, 1) := by decide +kernel
theorem dX6_row_10 : decode cX6_row 10 = .ok (.iload_n 1, 1) := by decide +kernel
theorem dX6_row_11 : decode cX6_row 11 = .ok (.iastore, 1) := by decide +kernel
theorem dX6_row_12 : decode cX6_row 12 = .ok (.aload_n 0, 1) := by decide +kernel
theorem dX6_row_13 : decode cX6_row 13 = .ok (.getfield 45, 3) := by decide +kernel
theorem dX6_row_16 : decode cX6_row 16 = .ok (.iconst 2, 1) := by decide +kernel
theorem dX6_row_17 : decode cX6_row 17 = .ok (.aload_n 0, 1) := by decide +kernel
theorem dX6_row_18 : decode cX6_row 18 = .ok (.getfield 277, 3) := by decide +kernel
theorem dX6_row_21 : decode cX6_row 21 = .ok (.imul, 1) := by decide +kernel
theorem dX6_row_22 : decode cX6_row 22 = .ok (.iconst 1, 1) := by decide +kernel
theorem dX6_row_23 : decode cX6_row 23 = .ok (.iadd, 1) := by decide +kernel
theorem dX6_row_24 : decode cX6_row 24 = .ok (.iload_n 2, 1) := by decide +kernel
theorem dX6_row_25 : decode cX6_row 25 = .ok (.iastore, 1) := by decide +kernel
theorem dX6_row_26 : decode cX6_row 26 = .ok (.aload_n 0, 1) := by decide +kernel
theorem dX6_row_27 : decode cX6_row 27 = .ok (.dup, 1) := by decide +kernel
theorem dX6_row_28 : decode cX6_row 28 = .ok (.getfield 277, 3) := by decide +kernel
theorem dX6_row_31 : decode cX6_row 31 = .ok (.iconst 1, 1) := by decide +kernel
theorem dX6_row_32 : decode cX6_row 32 = .ok (.iadd, 1) := by decide +kernel
theorem dX6_row_33 : decode cX6_row 33 = .ok (.putfield 277, 3) := by decide +kernel
theorem dX6_row_36 : decode cX6_row 36 = .ok (.return_, 1) := by decide +kernel
set_option maxRecDepth 20000 in
theorem ggX6_kindTold_X6_isWord : GoodIn wsX6_kindTold wsX6_isWord := goodIn_r _ [6, 7, 8, 9, 10, 11, 12, 13, 14, 15, 16, 17, 18, 19, 20, 21, 22, 23, 24, 25, 26, 27, 28, 29, 30, 31, 32, 33, 34, 35, 36, 37, 38, 39, 40, 41, 42, 43, 44, 45, 46, 47, 48, 49, 50, 51, 52, 53, 54, 55, 56, 57, 58, 59, 60, 61, 62, 63, 64, 65, 66, 67, 68, 69, 70, 71, 72, 73, 74, 75, 76, 77, 78, 79, 80, 81] (by decide +kernel) (by decide +kernel)
set_option maxRecDepth 20000 in
theorem gX6_kindTold_X6_isWord : GoodIn wsX6_kindTold (wsV RX6 280 RX6 yX6_isWord wsX6_isWord) := goodIn_app (goodIn_of _ (by decide +kernel)) ggX6_kindTold_X6_isWord
theorem dX6_kindTold_0 : decode cX6_kindTold 0 = .ok (.iconst (-1), 1) := by decide +kernel
theorem dX6_kindTold_1 : decode cX6_kindTold 1 = .ok (.istore_n 1, 1) := by decide +kernel
theorem dX6_kindTold_2 : decode cX6_kindTold 2 = .ok (.iconst 0, 1) := by decide +kernel
theorem dX6_kindTold_3 : decode cX6_kindTold 3 = .ok (.istore_n 2, 1) := by decide +kernel
theorem dX6_kindTold_4 : decode cX6_kindTold 4 = .ok (.iload_n 2, 1) := by decide +kernel
theorem dX6_kindTold_5 : decode cX6_kindTold 5 = .ok (.aload_n 0, 1) := by decide +kernel
theorem dX6_kindTold_6 : decode cX6_kindTold 6 = .ok (.getfield 41, 3) := by decide +kernel
theorem dX6_kindTold_9 : decode cX6_kindTold 9 = .ok (.arraylength, 1) := by decide +kernel
theorem dX6_kindTold_10 : decode cX6_kindTold 10 = .ok (.if_icmp .ge 28, 3) := by decide +kernel
theorem dX6_kindTold_13 : decode cX6_kindTold 13 = .ok (.aload_n 0, 1) := by decide +kernel
theorem dX6_kindTold_14 : decode cX6_kindTold 14 = .ok (.aload_n 0, 1) := by decide +kernel
theorem dX6_kindTold_15 : decode cX6_kindTold 15 = .ok (.getfield 41, 3) := by decide +kernel
theorem dX6_kindTold_18 : decode cX6_kindTold 18 = .ok (.iload_n 2, 1) := by decide +kernel
theorem dX6_kindTold_19 : decode cX6_kindTold 19 = .ok (.aaload, 1) := by decide +kernel
theorem dX6_kindTold_20 : decode cX6_kindTold 20 = .ok (.invokevirtual 280, 3) := by decide +kernel
theorem dX6_kindTold_23 : decode cX6_kindTold 23 = .ok (.ifCond .eq 7, 3) := by decide +kernel
theorem dX6_kindTold_26 : decode cX6_kindTold 26 = .ok (.iload_n 2, 1) := by decide +kernel
theorem dX6_kindTold_27 : decode cX6_kindTold 27 = .ok (.goto 4, 3) := by decide +kernel
theorem dX6_kindTold_30 : decode cX6_kindTold 30 = .ok (.iload_n 1, 1) := by decide +kernel
theorem dX6_kindTold_31 : decode cX6_kindTold 31 = .ok (.istore_n 1, 1) := by decide +kernel
theorem dX6_kindTold_32 : decode cX6_kindTold 32 = .ok (.iinc 2 1, 3) := by decide +kernel
theorem dX6_kindTold_35 : decode cX6_kindTold 35 = .ok (.goto (-31), 3) := by decide +kernel
theorem dX6_kindTold_38 : decode cX6_kindTold 38 = .ok (.iload_n 1, 1) := by decide +kernel
theorem dX6_kindTold_39 : decode cX6_kindTold 39 = .ok (.ireturn, 1) := by decide +kernel
set_option maxRecDepth 20000 in
theorem ggX6_isNext_X6_isWord : GoodIn wsX6_isNext wsX6_isWord := goodIn_r _ [6, 7, 8, 9, 10, 11, 12, 13, 14, 15, 16, 17, 18, 19, 20, 21, 22, 23, 24, 25, 26, 27, 28, 29, 30, 31, 32, 33, 34, 35, 36, 37, 38, 39, 40, 41, 42, 43, 44, 45, 46, 47, 48, 49, 50, 51, 52, 53, 54, 55, 56, 57, 58, 59, 81, 82, 83, 84, 85, 86, 87, 88, 89, 90, 91, 92, 93, 94, 95, 96, 97, 98, 99, 100, 101, 102] (by decide +kernel) (by decide +kernel)
set_option maxRecDepth 20000 in
theorem gX6_isNext_X6_isWord : GoodIn wsX6_isNext (wsV RX6 280 RX6 yX6_isWord wsX6_isWord) := goodIn_app (goodIn_of _ (by decide +kernel)) ggX6_isNext_X6_isWord
set_option maxRecDepth 20000 in
theorem ggX6_isNext_X6_must : GoodIn wsX6_isNext wsX6_must := goodIn_r _ [63, 1, 64, 65, 66, 5, 67, 8, 9, 68, 7, 69, 70, 71, 72, 73, 74, 75, 76, 77, 10, 78, 79, 80, 81, 82, 83, 84, 85, 86, 87, 88, 89, 90, 91, 92, 93, 94, 95, 96, 97, 98, 99, 100, 101, 102] (by decide +kernel) (by decide +kernel)
set_option maxRecDepth 20000 in
theorem gX6_isNext_X6_must : GoodIn wsX6_isNext (wsV RX6 273 RX6 yX6_must wsX6_must) := goodIn_app (goodIn_of _ (by decide +kernel)) ggX6_isNext_X6_must
theorem dX6_isNext_0 : decode cX6_isNext 0 = .ok (.aload_n 0, 1) := by decide +kernel
theorem dX6_isNext_1 : decode cX6_isNext 1 = .ok (.getfield 266, 3) := by decide +kernel
theorem dX6_isNext_4 : decode cX6_isNext 4 = .ok (.ifCond .ne 15, 3) := by decide +kernel
theorem dX6_isNext_7 : decode cX6_isNext 7 = .ok (.aload_n 0, 1) := by decide +kernel
theorem dX6_isNext_8 : decode cX6_isNext 8 = .ok (.aload_n 1, 1) := by decide +kernel
theorem dX6_isNext_9 : decode cX6_isNext 9 = .ok (.invokevirtual 280, 3) := by decide +kernel
theorem dX6_isNext_12 : decode cX6_isNext 12 = .ok (.ifCond .eq 7, 3) := by decide +kernel
theorem dX6_isNext_15 : decode cX6_isNext 15 = .ok (.iconst 1, 1) := by decide +kernel
theorem dX6_isNext_16 : decode cX6_isNext 16 = .ok (.goto 4, 3) := by decide +kernel
theorem dX6_isNext_19 : decode cX6_isNext 19 = .ok (.iconst 0, 1) := by decide +kernel
theorem dX6_isNext_20 : decode cX6_isNext 20 = .ok (.istore_n 2, 1) := by decide +kernel
theorem dX6_isNext_21 : decode cX6_isNext 21 = .ok (.iload_n 2, 1) := by decide +kernel
theorem dX6_isNext_22 : decode cX6_isNext 22 = .ok (.ifCond .eq 8, 3) := by decide +kernel
theorem dX6_isNext_25 : decode cX6_isNext 25 = .ok (.aload_n 0, 1) := by decide +kernel
theorem dX6_isNext_26 : decode cX6_isNext 26 = .ok (.iconst 1, 1) := by decide +kernel
theorem dX6_isNext_27 : decode cX6_isNext 27 = .ok (.invokevirtual 273, 3) := by decide +kernel
theorem dX6_isNext_30 : decode cX6_isNext 30 = .ok (.iload_n 2, 1) := by decide +kernel
theorem dX6_isNext_31 : decode cX6_isNext 31 = .ok (.ireturn, 1) := by decide +kernel
set_option maxRecDepth 20000 in
theorem ggX6_readItem_X6_kindTold : GoodIn wsX6_readItem wsX6_kindTold := goodIn_r _ [6, 7, 8, 9, 10, 5, 11, 12, 13, 14, 15, 16, 17, 18, 19, 20, 21, 22, 23, 24, 25, 26, 27, 28, 29, 30, 31, 32, 33, 34, 35, 36, 37, 38, 39, 40, 41, 42, 43, 44, 45, 46, 47, 48, 49, 50, 51, 52, 53, 54, 55, 56, 57, 58, 59, 60, 61, 62, 63, 64, 104, 105, 106, 107, 108, 109, 110, 111, 112, 113, 114, 115, 116, 117, 118, 119, 120, 121, 122, 123, 124, 125] (by decide +kernel) (by decide +kernel)
set_option maxRecDepth 20000 in
theorem gX6_readItem_X6_kindTold : GoodIn wsX6_readItem (wsV RX6 284 RX6 yX6_kindTold wsX6_kindTold) := goodIn_app (goodIn_of _ (by decide +kernel)) ggX6_readItem_X6_kindTold
set_option maxRecDepth 20000 in
theorem ggX6_readItem_X6_must : GoodIn wsX6_readItem wsX6_must := goodIn_r _ [68, 69, 70, 71, 72, 5, 73, 13, 14, 74, 12, 75, 76, 77, 78, 79, 80, 81, 82, 83, 15, 84, 85, 86, 104, 105, 106, 107, 108, 109, 110, 111, 112, 113, 114, 115, 116, 117, 118, 119, 120, 121, 122, 123, 124, 125] (by decide +kernel) (by decide +kernel)
set_option maxRecDepth 20000 in
theorem gX6_readItem_X6_must : GoodIn wsX6_readItem (wsV RX6 273 RX6 yX6_must wsX6_must) := goodIn_app (goodIn_of _ (by decide +kernel)) ggX6_readItem_X6_must
set_option maxRecDepth 20000 in
theorem ggX6_readItem_X6_number : GoodIn wsX6_readItem wsX6_number := goodIn_r _ [90, 74, 12, 84, 85, 5, 86, 65, 66, 67, 68, 69, 70, 71, 72, 73, 13, 14, 75, 76, 77, 78, 79, 80, 81, 82, 83, 15, 104, 105, 106, 107, 108, 109, 110, 111, 112, 113, 114, 115, 116, 117, 118, 119, 120, 121, 122, 123, 124, 125] (by decide +kernel) (by decide +kernel)
set_option maxRecDepth 20000 in
theorem gX6_readItem_X6_number : GoodIn wsX6_readItem (wsV RX6 290 RX6 yX6_number wsX6_number) := goodIn_app (goodIn_of _ (by decide +kernel)) ggX6_readItem_X6_number
set_option maxRecDepth 20000 in
theorem ggX6_readItem_X6_row : GoodIn wsX6_readItem wsX6_row := goodIn_r _ [94, 95, 96, 104, 105, 106, 107, 108, 109, 110, 111, 112, 113, 114, 115, 116, 117, 118, 119, 120, 121, 122, 123, 124, 125] (by decide +kernel) (by decide +kernel)
set_option maxRecDepth 20000 in
theorem gX6_readItem_X6_row : GoodIn wsX6_readItem (wsV RX6 293 RX6 yX6_row wsX6_row) := goodIn_app (goodIn_of _ (by decide +kernel)) ggX6_readItem_X6_row
set_option maxRecDepth 20000 in
theorem ggX6_readItem_X6_isNext : GoodIn wsX6_readItem wsX6_isNext := goodIn_r _ [100, 69, 8, 9, 10, 5, 11, 12, 13, 14, 15, 16, 17, 18, 19, 20, 21, 22, 23, 24, 25, 26, 27, 28, 29, 30, 31, 32, 33, 34, 35, 36, 37, 38, 39, 40, 41, 42, 43, 44, 45, 46, 47, 48, 49, 50, 51, 52, 53, 54, 55, 56, 57, 58, 59, 60, 61, 62, 63, 64, 65, 66, 67, 68, 70, 71, 72, 73, 74, 75, 76, 77, 78, 79, 80, 81, 82, 83, 84, 85, 86, 104, 105, 106, 107, 108, 109, 110, 111, 112, 113, 114, 115, 116, 117, 118, 119, 120, 121, 122, 123, 124, 125] (by decide +kernel) (by decide +kernel)
set_option maxRecDepth 20000 in
theorem gX6_readItem_X6_isNext : GoodIn wsX6_readItem (wsV RX6 298 RX6 yX6_isNext wsX6_isNext) := goodIn_app (goodIn_of _ (by decide +kernel)) ggX6_readItem_X6_isNext
set_option maxRecDepth 20000 in
theorem ggX6_readItem_X6_at : GoodIn wsX6_readItem wsX6_at := goodIn_r _ [103] (by decide +kernel) (by decide +kernel)
set_option maxRecDepth 20000 in
theorem gX6_readItem_X6_at : GoodIn wsX6_readItem (va_wsS RX6 60 yX6_at wsX6_at) := goodIn_app (goodIn_of _ (by decide +kernel)) ggX6_readItem_X6_at
set_option maxRecDepth 20000 in
theorem ggX6_readItem_X6_isWord : GoodIn wsX6_readItem wsX6_isWord := goodIn_r _ [11, 12, 13, 14, 15, 16, 17, 18, 19, 20, 21, 22, 23, 24, 25, 26, 27, 28, 29, 30, 31, 32, 33, 34, 35, 36, 37, 38, 39, 40, 41, 42, 43, 44, 45, 46, 47, 48, 49, 50, 51, 52, 53, 54, 55, 56, 57, 58, 59, 60, 61, 62, 63, 64, 104, 105, 106, 107, 108, 109, 110, 111, 112, 113, 114, 115, 116, 117, 118, 119, 120, 121, 122, 123, 124, 125] (by decide +kernel) (by decide +kernel)
set_option maxRecDepth 20000 in
theorem gX6_readItem_X6_isWord : GoodIn wsX6_readItem (wsV RX6 280 RX6 yX6_isWord wsX6_isWord) := goodIn_app (goodIn_of _ (by decide +kernel)) ggX6_readItem_X6_isWord
theorem dX6_readItem_0 : decode cX6_readItem 0 = .ok (.aload_n 0, 1) := by decide +kernel
theorem dX6_readItem_1 : decode cX6_readItem 1 = .ok (.invokevirtual 284, 3) := by decide +kernel
theorem dX6_readItem_4 : decode cX6_readItem 4 = .ok (.istore_n 1, 1) := by decide +kernel
theorem dX6_readItem_5 : decode cX6_readItem 5 = .ok (.aload_n 0, 1) := by decide +kernel
theorem dX6_readItem_6 : decode cX6_readItem 6 = .ok (.dup, 1) := by decide +kernel
theorem dX6_readItem_7 : decode cX6_readItem 7 = .ok (.getfield 287, 3) := by decide +kernel
theorem dX6_readItem_10 : decode cX6_readItem 10 = .ok (.iconst 1, 1) := by decide +kernel
theorem dX6_readItem_11 : decode cX6_readItem 11 = .ok (.iadd, 1) := by decide +kernel
theorem dX6_readItem_12 : decode cX6_readItem 12 = .ok (.putfield 287, 3) := by decide +kernel
theorem dX6_readItem_15 : decode cX6_readItem 15 = .ok (.iload_n 1, 1) := by decide +kernel
theorem dX6_readItem_16 : decode cX6_readItem 16 = .ok (.ifCond .lt 25, 3) := by decide +kernel
theorem dX6_readItem_19 : decode cX6_readItem 19 = .ok (.aload_n 0, 1) := by decide +kernel
theorem dX6_readItem_20 : decode cX6_readItem 20 = .ok (.iconst 1, 1) := by decide +kernel
theorem dX6_readItem_21 : decode cX6_readItem 21 = .ok (.invokevirtual 273, 3) := by decide +kernel
theorem dX6_readItem_24 : decode cX6_readItem 24 = .ok (.aload_n 0, 1) := by decide +kernel
theorem dX6_readItem_25 : decode cX6_readItem 25 = .ok (.bipush 15, 2) := by decide +kernel
theorem dX6_readItem_27 : decode cX6_readItem 27 = .ok (.aload_n 0, 1) := by decide +kernel
theorem dX6_readItem_28 : decode cX6_readItem 28 = .ok (.iconst 0, 1) := by decide +kernel
theorem dX6_readItem_29 : decode cX6_readItem 29 = .ok (.iconst 4, 1) := by decide +kernel
theorem dX6_readItem_30 : decode cX6_readItem 30 = .ok (.invokevirtual 290, 3) := by decide +kernel
theorem dX6_readItem_33 : decode cX6_readItem 33 = .ok (.iadd, 1) := by decide +kernel
theorem dX6_readItem_34 : decode cX6_readItem 34 = .ok (.iload_n 1, 1) := by decide +kernel
theorem dX6_readItem_35 : decode cX6_readItem 35 = .ok (.invokevirtual 293, 3) := by decide +kernel
theorem dX6_readItem_38 : decode cX6_readItem 38 = .ok (.goto 212, 3) := by decide +kernel
theorem dX6_readItem_41 : decode cX6_readItem 41 = .ok (.aload_n 0, 1) := by decide +kernel
theorem dX6_readItem_42 : decode cX6_readItem 42 = .ok (.ldc_w 296, 3) := by decide +kernel
theorem dX6_readItem_45 : decode cX6_readItem 45 = .ok (.invokevirtual 298, 3) := by decide +kernel
theorem dX6_readItem_48 : decode cX6_readItem 48 = .ok (.ifCond .eq 65, 3) := by decide +kernel
theorem dX6_readItem_51 : decode cX6_readItem 51 = .ok (.aload_n 0, 1) := by decide +kernel
theorem dX6_readItem_52 : decode cX6_readItem 52 = .ok (.iconst 0, 1) := by decide +kernel
theorem dX6_readItem_53 : decode cX6_readItem 53 = .ok (.iconst 1, 1) := by decide +kernel
theorem dX6_readItem_54 : decode cX6_readItem 54 = .ok (.invokevirtual 290, 3) := by decide +kernel
theorem dX6_readItem_57 : decode cX6_readItem 57 = .ok (.istore_n 2, 1) := by decide +kernel
theorem dX6_readItem_58 : decode cX6_readItem 58 = .ok (.aload_n 0, 1) := by decide +kernel
theorem dX6_readItem_59 : decode cX6_readItem 59 = .ok (.ldc_w 301, 3) := by decide +kernel
theorem dX6_readItem_62 : decode cX6_readItem 62 = .ok (.invokevirtual 298, 3) := by decide +kernel
theorem dX6_readItem_65 : decode cX6_readItem 65 = .ok (.ifCond .eq 19, 3) := by decide +kernel
theorem dX6_readItem_68 : decode cX6_readItem 68 = .ok (.aload_n 0, 1) := by decide +kernel
theorem dX6_readItem_69 : decode cX6_readItem 69 = .ok (.iload_n 2, 1) := by decide +kernel
theorem dX6_readItem_70 : decode cX6_readItem 70 = .ok (.iconst 0, 1) := by decide +kernel
theorem dX6_readItem_71 : decode cX6_readItem 71 = .ok (.invokestatic 60, 3) := by decide +kernel
theorem dX6_readItem_74 : decode cX6_readItem 74 = .ok (.aload_n 0, 1) := by decide +kernel
theorem dX6_readItem_75 : decode cX6_readItem 75 = .ok (.iconst 0, 1) := by decide +kernel
theorem dX6_readItem_76 : decode cX6_readItem 76 = .ok (.bipush 50, 2) := by decide +kernel
theorem dX6_readItem_78 : decode cX6_readItem 78 = .ok (.invokevirtual 290, 3) := by decide +kernel
theorem dX6_readItem_81 : decode cX6_readItem 81 = .ok (.invokevirtual 293, 3) := by decide +kernel
theorem dX6_readItem_84 : decode cX6_readItem 84 = .ok (.aload_n 0, 1) := by decide +kernel
theorem dX6_readItem_85 : decode cX6_readItem 85 = .ok (.ldc_w 303, 3) := by decide +kernel
theorem dX6_readItem_88 : decode cX6_readItem 88 = .ok (.invokevirtual 298, 3) := by decide +kernel
theorem dX6_readItem_91 : decode cX6_readItem 91 = .ok (.ifCond .eq 19, 3) := by decide +kernel
theorem dX6_readItem_94 : decode cX6_readItem 94 = .ok (.aload_n 0, 1) := by decide +kernel
theorem dX6_readItem_95 : decode cX6_readItem 95 = .ok (.iload_n 2, 1) := by decide +kernel
theorem dX6_readItem_96 : decode cX6_readItem 96 = .ok (.iconst 1, 1) := by decide +kernel
theorem dX6_readItem_97 : decode cX6_readItem 97 = .ok (.invokestatic 60, 3) := by decide +kernel
theorem dX6_readItem_100 : decode cX6_readItem 100 = .ok (.aload_n 0, 1) := by decide +kernel
theorem dX6_readItem_101 : decode cX6_readItem 101 = .ok (.iconst 0, 1) := by decide +kernel
theorem dX6_readItem_102 : decode cX6_readItem 102 = .ok (.bipush 9, 2) := by decide +kernel
theorem dX6_readItem_104 : decode cX6_readItem 104 = .ok (.invokevirtual 290, 3) := by decide +kernel
theorem dX6_readItem_107 : decode cX6_readItem 107 = .ok (.invokevirtual 293, 3) := by decide +kernel
theorem dX6_readItem_110 : decode cX6_readItem 110 = .ok (.goto 140, 3) := by decide +kernel
theorem dX6_readItem_113 : decode cX6_readItem 113 = .ok (.aload_n 0, 1) := by decide +kernel
