set_option maxRecDepth 20000 in
theorem gX5_init_X2_init_n32 : GoodIn wsX5_init (wsX2_init) := ggX5_init_X2_init
set_option maxRecDepth 20000 in
theorem ggX5_init_X3_init : GoodIn wsX5_init wsX3_init := goodIn_r _ [73, 74, 2, 3, 20, 75, 76, 77, 105, 106, 107] (by decide +kernel) (by decide +kernel)
set_option maxRecDepth 20000 in
theorem gX5_init_X3_init_n47 : GoodIn wsX5_init (wsX3_init) := ggX5_init_X3_init
theorem dX5_init_0 : decode cX5_init 0 = .ok (.aload_n 0, 1) := by decide +kernel
theorem dX5_init_1 : decode cX5_init 1 = .ok (.invokespecial 1, 3) := by decide +kernel
theorem dX5_init_4 : decode cX5_init 4 = .ok (.aload_n 0, 1) := by decide +kernel
theorem dX5_init_5 : decode cX5_init 5 = .ok (.new 7, 3) := by decide +kernel
theorem dX5_init_8 : decode cX5_init 8 = .ok (.dup, 1) := by decide +kernel
theorem dX5_init_9 : decode cX5_init 9 = .ok (.invokespecial 9, 3) := by decide +kernel
theorem dX5_init_12 : decode cX5_init 12 = .ok (.putfield 10, 3) := by decide +kernel
theorem dX5_init_15 : decode cX5_init 15 = .ok (.aload_n 0, 1) := by decide +kernel
theorem dX5_init_16 : decode cX5_init 16 = .ok (.new 7, 3) := by decide +kernel
theorem dX5_init_19 : decode cX5_init 19 = .ok (.dup, 1) := by decide +kernel
theorem dX5_init_20 : decode cX5_init 20 = .ok (.invokespecial 9, 3) := by decide +kernel
theorem dX5_init_23 : decode cX5_init 23 = .ok (.putfield 16, 3) := by decide +kernel
theorem dX5_init_26 : decode cX5_init 26 = .ok (.aload_n 0, 1) := by decide +kernel
theorem dX5_init_27 : decode cX5_init 27 = .ok (.iconst 0, 1) := by decide +kernel
theorem dX5_init_28 : decode cX5_init 28 = .ok (.putfield 19, 3) := by decide +kernel
theorem dX5_init_31 : decode cX5_init 31 = .ok (.aload_n 0, 1) := by decide +kernel
theorem dX5_init_32 : decode cX5_init 32 = .ok (.new 23, 3) := by decide +kernel
theorem dX5_init_35 : decode cX5_init 35 = .ok (.dup, 1) := by decide +kernel
theorem dX5_init_36 : decode cX5_init 36 = .ok (.invokespecial 25, 3) := by decide +kernel
theorem dX5_init_39 : decode cX5_init 39 = .ok (.putfield 26, 3) := by decide +kernel
theorem dX5_init_42 : decode cX5_init 42 = .ok (.aload_n 0, 1) := by decide +kernel
theorem dX5_init_43 : decode cX5_init 43 = .ok (.new 30, 3) := by decide +kernel
theorem dX5_init_46 : decode cX5_init 46 = .ok (.dup, 1) := by decide +kernel
theorem dX5_init_47 : decode cX5_init 47 = .ok (.invokespecial 32, 3) := by decide +kernel
theorem dX5_init_50 : decode cX5_init 50 = .ok (.putfield 33, 3) := by decide +kernel
theorem dX5_init_53 : decode cX5_init 53 = .ok (.aload_n 0, 1) := by decide +kernel
theorem dX5_init_54 : decode cX5_init 54 = .ok (.iconst 4, 1) := by decide +kernel
theorem dX5_init_55 : decode cX5_init 55 = .ok (.anewarray 37, 3) := by decide +kernel
theorem dX5_init_58 : decode cX5_init 58 = .ok (.putfield 39, 3) := by decide +kernel
theorem dX5_init_61 : decode cX5_init 61 = .ok (.aload_n 0, 1) := by decide +kernel
theorem dX5_init_62 : decode cX5_init 62 = .ok (.bipush 7, 2) := by decide +kernel
theorem dX5_init_64 : decode cX5_init 64 = .ok (.newarray .int, 2) := by decide +kernel
theorem dX5_init_66 : decode cX5_init 66 = .ok (.putfield 43, 3) := by decide +kernel
theorem dX5_init_69 : decode cX5_init 69 = .ok (.iconst 0, 1) := by decide +kernel
theorem dX5_init_70 : decode cX5_init 70 = .ok (.istore_n 1, 1) := by decide +kernel
theorem dX5_init_71 : decode cX5_init 71 = .ok (.iload_n 1, 1) := by decide +kernel
theorem dX5_init_72 : decode cX5_init 72 = .ok (.iconst 4, 1) := by decide +kernel
theorem dX5_init_73 : decode cX5_init 73 = .ok (.if_icmp .ge 22, 3) := by decide +kernel
theorem dX5_init_76 : decode cX5_init 76 = .ok (.aload_n 0, 1) := by decide +kernel
theorem dX5_init_77 : decode cX5_init 77 = .ok (.getfield 39, 3) := by decide +kernel
theorem dX5_init_80 : decode cX5_init 80 = .ok (.iload_n 1, 1) := by decide +kernel
theorem dX5_init_81 : decode cX5_init 81 = .ok (.new 37, 3) := by decide +kernel
theorem dX5_init_84 : decode cX5_init 84 = .ok (.dup, 1) := by decide +kernel
theorem dX5_init_85 : decode cX5_init 85 = .ok (.invokespecial 47, 3) := by decide +kernel
theorem dX5_init_88 : decode cX5_init 88 = .ok (.aastore, 1) := by decide +kernel
theorem dX5_init_89 : decode cX5_init 89 = .ok (.iinc 1 1, 3) := by decide +kernel
theorem dX5_init_92 : decode cX5_init 92 = .ok (.goto (-21), 3) := by decide +kernel
theorem dX5_init_95 : decode cX5_init 95 = .ok (.return_, 1) := by decide +kernel
set_option maxRecDepth 20000 in
theorem ggX5_kind_X5_isThing : GoodIn wsX5_kind wsX5_isThing := goodIn_r _ [7, 8, 9, 6, 10] (by decide +kernel) (by decide +kernel)
set_option maxRecDepth 20000 in
theorem gX5_kind_X5_isThing : GoodIn wsX5_kind (va_wsS RX5 48 yX5_isThing wsX5_isThing) := goodIn_app (goodIn_of _ (by decide +kernel)) ggX5_kind_X5_isThing
set_option maxRecDepth 20000 in
theorem ggX5_kind_X5_isKind : GoodIn wsX5_kind wsX5_isKind := goodIn_r _ [13, 8, 9, 6, 10] (by decide +kernel) (by decide +kernel)
set_option maxRecDepth 20000 in
theorem gX5_kind_X5_isKind : GoodIn wsX5_kind (va_wsS RX5 52 yX5_isKind wsX5_isKind) := goodIn_app (goodIn_of _ (by decide +kernel)) ggX5_kind_X5_isKind
set_option maxRecDepth 20000 in
theorem ggX5_kind_X5_finding : GoodIn wsX5_kind wsX5_finding := goodIn_r _ [17, 18, 19, 20, 21, 22, 23, 24, 25, 26] (by decide +kernel) (by decide +kernel)
set_option maxRecDepth 20000 in
theorem gX5_kind_X5_finding : GoodIn wsX5_kind (wsV RX5 55 RX5 yX5_finding wsX5_finding) := goodIn_app (goodIn_of _ (by decide +kernel)) ggX5_kind_X5_finding
theorem dX5_kind_0 : decode cX5_kind 0 = .ok (.iload_n 1, 1) := by decide +kernel
theorem dX5_kind_1 : decode cX5_kind 1 = .ok (.invokestatic 48, 3) := by decide +kernel
theorem dX5_kind_4 : decode cX5_kind 4 = .ok (.ifCond .eq 10, 3) := by decide +kernel
theorem dX5_kind_7 : decode cX5_kind 7 = .ok (.iload_n 2, 1) := by decide +kernel
theorem dX5_kind_8 : decode cX5_kind 8 = .ok (.invokestatic 52, 3) := by decide +kernel
theorem dX5_kind_11 : decode cX5_kind 11 = .ok (.ifCond .ne 9, 3) := by decide +kernel
theorem dX5_kind_14 : decode cX5_kind 14 = .ok (.aload_n 0, 1) := by decide +kernel
theorem dX5_kind_15 : decode cX5_kind 15 = .ok (.iconst 0, 1) := by decide +kernel
theorem dX5_kind_16 : decode cX5_kind 16 = .ok (.invokevirtual 55, 3) := by decide +kernel
theorem dX5_kind_19 : decode cX5_kind 19 = .ok (.ireturn, 1) := by decide +kernel
theorem dX5_kind_20 : decode cX5_kind 20 = .ok (.aload_n 0, 1) := by decide +kernel
theorem dX5_kind_21 : decode cX5_kind 21 = .ok (.getfield 10, 3) := by decide +kernel
theorem dX5_kind_24 : decode cX5_kind 24 = .ok (.getfield 59, 3) := by decide +kernel
theorem dX5_kind_27 : decode cX5_kind 27 = .ok (.getfield 62, 3) := by decide +kernel
theorem dX5_kind_30 : decode cX5_kind 30 = .ok (.iload_n 1, 1) := by decide +kernel
theorem dX5_kind_31 : decode cX5_kind 31 = .ok (.iaload, 1) := by decide +kernel
theorem dX5_kind_32 : decode cX5_kind 32 = .ok (.istore_n 3, 1) := by decide +kernel
theorem dX5_kind_33 : decode cX5_kind 33 = .ok (.aload_n 0, 1) := by decide +kernel
theorem dX5_kind_34 : decode cX5_kind 34 = .ok (.getfield 10, 3) := by decide +kernel
theorem dX5_kind_37 : decode cX5_kind 37 = .ok (.getfield 59, 3) := by decide +kernel
theorem dX5_kind_40 : decode cX5_kind 40 = .ok (.getfield 62, 3) := by decide +kernel
theorem dX5_kind_43 : decode cX5_kind 43 = .ok (.iload_n 1, 1) := by decide +kernel
theorem dX5_kind_44 : decode cX5_kind 44 = .ok (.iload_n 2, 1) := by decide +kernel
theorem dX5_kind_45 : decode cX5_kind 45 = .ok (.iastore, 1) := by decide +kernel
theorem dX5_kind_46 : decode cX5_kind 46 = .ok (.iload_n 3, 1) := by decide +kernel
theorem dX5_kind_47 : decode cX5_kind 47 = .ok (.ireturn, 1) := by decide +kernel
set_option maxRecDepth 20000 in
theorem ggX5_of_X5_isSide : GoodIn wsX5_of wsX5_isSide := goodIn_r _ [6, 7, 8, 5, 9] (by decide +kernel) (by decide +kernel)
set_option maxRecDepth 20000 in
theorem gX5_of_X5_isSide : GoodIn wsX5_of (va_wsS RX5 65 yX5_isSide wsX5_isSide) := goodIn_app (goodIn_of _ (by decide +kernel)) ggX5_of_X5_isSide
set_option maxRecDepth 20000 in
theorem ggX5_of_X5_isThing : GoodIn wsX5_of wsX5_isThing := goodIn_r _ [12, 7, 8, 5, 9] (by decide +kernel) (by decide +kernel)
set_option maxRecDepth 20000 in
theorem gX5_of_X5_isThing : GoodIn wsX5_of (va_wsS RX5 48 yX5_isThing wsX5_isThing) := goodIn_app (goodIn_of _ (by decide +kernel)) ggX5_of_X5_isThing
set_option maxRecDepth 20000 in
theorem ggX5_of_X5_isIn : GoodIn wsX5_of wsX5_isIn := goodIn_r _ [9] (by decide +kernel) (by decide +kernel)
set_option maxRecDepth 20000 in
theorem gX5_of_X5_isIn : GoodIn wsX5_of (va_wsS RX5 68 yX5_isIn wsX5_isIn) := goodIn_app (goodIn_of _ (by decide +kernel)) ggX5_of_X5_isIn
set_option maxRecDepth 20000 in
theorem ggX5_of_X5_finding : GoodIn wsX5_of wsX5_finding := goodIn_r _ [16, 17, 18, 27, 28, 29, 30, 31, 32, 33] (by decide +kernel) (by decide +kernel)
set_option maxRecDepth 20000 in
theorem gX5_of_X5_finding : GoodIn wsX5_of (wsV RX5 55 RX5 yX5_finding wsX5_finding) := goodIn_app (goodIn_of _ (by decide +kernel)) ggX5_of_X5_finding
set_option maxRecDepth 20000 in
theorem ggX5_of_X1_stock : GoodIn wsX5_of wsX1_stock := goodIn_r _ [23, 24, 25, 26, 38, 39, 40, 41, 42, 43, 44, 45, 46, 47] (by decide +kernel) (by decide +kernel)
set_option maxRecDepth 20000 in
theorem gX5_of_X1_stock : GoodIn wsX5_of (wsV RX5 72 RX1 yX1_stock wsX1_stock) := goodIn_app (goodIn_of _ (by decide +kernel)) ggX5_of_X1_stock
theorem dX5_of_0 : decode cX5_of 0 = .ok (.iload_n 1, 1) := by decide +kernel
theorem dX5_of_1 : decode cX5_of 1 = .ok (.invokestatic 65, 3) := by decide +kernel
theorem dX5_of_4 : decode cX5_of 4 = .ok (.ifCond .eq 19, 3) := by decide +kernel
theorem dX5_of_7 : decode cX5_of 7 = .ok (.iload_n 2, 1) := by decide +kernel
theorem dX5_of_8 : decode cX5_of 8 = .ok (.invokestatic 48, 3) := by decide +kernel
theorem dX5_of_11 : decode cX5_of 11 = .ok (.ifCond .eq 12, 3) := by decide +kernel
theorem dX5_of_14 : decode cX5_of 14 = .ok (.iload_n 3, 1) := by decide +kernel
theorem dX5_of_15 : decode cX5_of 15 = .ok (.iconst 0, 1) := by decide +kernel
theorem dX5_of_16 : decode cX5_of 16 = .ok (.iconst 2, 1) := by decide +kernel
theorem dX5_of_17 : decode cX5_of 17 = .ok (.invokestatic 68, 3) := by decide +kernel
theorem dX5_of_20 : decode cX5_of 20 = .ok (.ifCond .ne 9, 3) := by decide +kernel
theorem dX5_of_23 : decode cX5_of 23 = .ok (.aload_n 0, 1) := by decide +kernel
theorem dX5_of_24 : decode cX5_of 24 = .ok (.iconst 0, 1) := by decide +kernel
theorem dX5_of_25 : decode cX5_of 25 = .ok (.invokevirtual 55, 3) := by decide +kernel
theorem dX5_of_28 : decode cX5_of 28 = .ok (.ireturn, 1) := by decide +kernel
theorem dX5_of_29 : decode cX5_of 29 = .ok (.aload_n 0, 1) := by decide +kernel
theorem dX5_of_30 : decode cX5_of 30 = .ok (.getfield 10, 3) := by decide +kernel
theorem dX5_of_33 : decode cX5_of 33 = .ok (.getfield 59, 3) := by decide +kernel
theorem dX5_of_36 : decode cX5_of 36 = .ok (.iload_n 3, 1) := by decide +kernel
theorem dX5_of_37 : decode cX5_of 37 = .ok (.invokevirtual 72, 3) := by decide +kernel
theorem dX5_of_40 : decode cX5_of 40 = .ok (.iload_n 1, 1) := by decide +kernel
theorem dX5_of_41 : decode cX5_of 41 = .ok (.iconst 5, 1) := by decide +kernel
theorem dX5_of_42 : decode cX5_of 42 = .ok (.imul, 1) := by decide +kernel
theorem dX5_of_43 : decode cX5_of 43 = .ok (.iload_n 2, 1) := by decide +kernel
theorem dX5_of_44 : decode cX5_of 44 = .ok (.iadd, 1) := by decide +kernel
theorem dX5_of_45 : decode cX5_of 45 = .ok (.iaload, 1) := by decide +kernel
theorem dX5_of_46 : decode cX5_of 46 = .ok (.ireturn, 1) := by decide +kernel
set_option maxRecDepth 20000 in
theorem ggX5_change_X5_isSide : GoodIn wsX5_change wsX5_isSide := goodIn_r _ [6, 7, 8, 5, 9] (by decide +kernel) (by decide +kernel)
set_option maxRecDepth 20000 in
theorem gX5_change_X5_isSide : GoodIn wsX5_change (va_wsS RX5 65 yX5_isSide wsX5_isSide) := goodIn_app (goodIn_of _ (by decide +kernel)) ggX5_change_X5_isSide
set_option maxRecDepth 20000 in
theorem ggX5_change_X5_isThing : GoodIn wsX5_change wsX5_isThing := goodIn_r _ [12, 7, 8, 5, 9] (by decide +kernel) (by decide +kernel)
set_option maxRecDepth 20000 in
theorem gX5_change_X5_isThing : GoodIn wsX5_change (va_wsS RX5 48 yX5_isThing wsX5_isThing) := goodIn_app (goodIn_of _ (by decide +kernel)) ggX5_change_X5_isThing
set_option maxRecDepth 20000 in
theorem ggX5_change_X5_isIn : GoodIn wsX5_change wsX5_isIn := goodIn_r _ [9] (by decide +kernel) (by decide +kernel)
set_option maxRecDepth 20000 in
theorem gX5_change_X5_isIn : GoodIn wsX5_change (va_wsS RX5 68 yX5_isIn wsX5_isIn) := goodIn_app (goodIn_of _ (by decide +kernel)) ggX5_change_X5_isIn
set_option maxRecDepth 20000 in
theorem ggX5_change_X5_mostOf : GoodIn wsX5_change wsX5_mostOf := goodIn_r _ [15] (by decide +kernel) (by decide +kernel)
set_option maxRecDepth 20000 in
theorem gX5_change_X5_mostOf : GoodIn wsX5_change (va_wsS RX5 76 yX5_mostOf wsX5_mostOf) := goodIn_app (goodIn_of _ (by decide +kernel)) ggX5_change_X5_mostOf
set_option maxRecDepth 20000 in
theorem ggX5_change_X5_finding : GoodIn wsX5_change wsX5_finding := goodIn_r _ [19, 20, 21, 30, 31, 32, 33, 34, 35, 36] (by decide +kernel) (by decide +kernel)
set_option maxRecDepth 20000 in
theorem gX5_change_X5_finding : GoodIn wsX5_change (wsV RX5 55 RX5 yX5_finding wsX5_finding) := goodIn_app (goodIn_of _ (by decide +kernel)) ggX5_change_X5_finding
set_option maxRecDepth 20000 in
theorem ggX5_change_X1_stock : GoodIn wsX5_change wsX1_stock := goodIn_r _ [26, 27, 28, 29, 41, 42, 43, 44, 45, 46, 47, 48, 49, 50] (by decide +kernel) (by decide +kernel)
set_option maxRecDepth 20000 in
theorem gX5_change_X1_stock : GoodIn wsX5_change (wsV RX5 72 RX1 yX1_stock wsX1_stock) := goodIn_app (goodIn_of _ (by decide +kernel)) ggX5_change_X1_stock
theorem dX5_change_0 : decode cX5_change 0 = .ok (.iload_n 1, 1) := by decide +kernel
theorem dX5_change_1 : decode cX5_change 1 = .ok (.invokestatic 65, 3) := by decide +kernel
theorem dX5_change_4 : decode cX5_change 4 = .ok (.ifCond .eq 32, 3) := by decide +kernel
theorem dX5_change_7 : decode cX5_change 7 = .ok (.iload_n 2, 1) := by decide +kernel
theorem dX5_change_8 : decode cX5_change 8 = .ok (.invokestatic 48, 3) := by decide +kernel
theorem dX5_change_11 : decode cX5_change 11 = .ok (.ifCond .eq 25, 3) := by decide +kernel
theorem dX5_change_14 : decode cX5_change 14 = .ok (.iload_n 3, 1) := by decide +kernel
theorem dX5_change_15 : decode cX5_change 15 = .ok (.iconst 0, 1) := by decide +kernel
theorem dX5_change_16 : decode cX5_change 16 = .ok (.iconst 2, 1) := by decide +kernel
theorem dX5_change_17 : decode cX5_change 17 = .ok (.invokestatic 68, 3) := by decide +kernel
theorem dX5_change_20 : decode cX5_change 20 = .ok (.ifCond .eq 16, 3) := by decide +kernel
theorem dX5_change_23 : decode cX5_change 23 = .ok (.iload 4, 2) := by decide +kernel
theorem dX5_change_25 : decode cX5_change 25 = .ok (.iconst 0, 1) := by decide +kernel
theorem dX5_change_26 : decode cX5_change 26 = .ok (.iload_n 3, 1) := by decide +kernel
theorem dX5_change_27 : decode cX5_change 27 = .ok (.invokestatic 76, 3) := by decide +kernel
theorem dX5_change_30 : decode cX5_change 30 = .ok (.invokestatic 68, 3) := by decide +kernel
theorem dX5_change_33 : decode cX5_change 33 = .ok (.ifCond .ne 9, 3) := by decide +kernel
theorem dX5_change_36 : decode cX5_change 36 = .ok (.aload_n 0, 1) := by decide +kernel
theorem dX5_change_37 : decode cX5_change 37 = .ok (.iconst 0, 1) := by decide +kernel
theorem dX5_change_38 : decode cX5_change 38 = .ok (.invokevirtual 55, 3) := by decide +kernel
theorem dX5_change_41 : decode cX5_change 41 = .ok (.ireturn, 1) := by decide +kernel
theorem dX5_change_42 : decode cX5_change 42 = .ok (.aload_n 0, 1) := by decide +kernel
theorem dX5_change_43 : decode cX5_change 43 = .ok (.getfield 10, 3) := by decide +kernel
theorem dX5_change_46 : decode cX5_change 46 = .ok (.getfield 59, 3) := by decide +kernel
theorem dX5_change_49 : decode cX5_change 49 = .ok (.iload_n 3, 1) := by decide +kernel
theorem dX5_change_50 : decode cX5_change 50 = .ok (.invokevirtual 72, 3) := by decide +kernel
theorem dX5_change_53 : decode cX5_change 53 = .ok (.astore 5, 2) := by decide +kernel
theorem dX5_change_55 : decode cX5_change 55 = .ok (.aload 5, 2) := by decide +kernel
theorem dX5_change_57 : decode cX5_change 57 = .ok (.iload_n 1, 1) := by decide +kernel
theorem dX5_change_58 : decode cX5_change 58 = .ok (.iconst 5, 1) := by decide +kernel
theorem dX5_change_59 : decode cX5_change 59 = .ok (.imul, 1) := by decide +kernel
theorem dX5_change_60 : decode cX5_change 60 = .ok (.iload_n 2, 1) := by decide +kernel
theorem dX5_change_61 : decode cX5_change 61 = .ok (.iadd, 1) := by decide +kernel
theorem dX5_change_62 : decode cX5_change 62 = .ok (.iaload, 1) := by decide +kernel
theorem dX5_change_63 : decode cX5_change 63 = .ok (.istore 6, 2) := by decide +kernel
theorem dX5_change_65 : decode cX5_change 65 = .ok (.aload 5, 2) := by decide +kernel
theorem dX5_change_67 : decode cX5_change 67 = .ok (.iload_n 1, 1) := by decide +kernel
theorem dX5_change_68 : decode cX5_change 68 = .ok (.iconst 5, 1) := by decide +kernel
theorem dX5_change_69 : decode cX5_change 69 = .ok (.imul, 1) := by decide +kernel
theorem dX5_change_70 : decode cX5_change 70 = .ok (.iload_n 2, 1) := by decide +kernel
theorem dX5_change_71 : decode cX5_change 71 = .ok (.iadd, 1) := by decide +kernel
theorem dX5_change_72 : decode cX5_change 72 = .ok (.iload 4, 2) := by decide +kernel
theorem dX5_change_74 : decode cX5_change 74 = .ok (.iastore, 1) := by decide +kernel
theorem dX5_change_75 : decode cX5_change 75 = .ok (.iload 6, 2) := by decide +kernel
theorem dX5_change_77 : decode cX5_change 77 = .ok (.ireturn, 1) := by decide +kernel
set_option maxRecDepth 20000 in
theorem ggX5_side_X5_isSide : GoodIn wsX5_side wsX5_isSide := goodIn_r _ [8, 9, 10, 7, 11] (by decide +kernel) (by decide +kernel)
set_option maxRecDepth 20000 in
theorem gX5_side_X5_isSide : GoodIn wsX5_side (va_wsS RX5 65 yX5_isSide wsX5_isSide) := goodIn_app (goodIn_of _ (by decide +kernel)) ggX5_side_X5_isSide
set_option maxRecDepth 20000 in
theorem ggX5_side_X5_isIn : GoodIn wsX5_side wsX5_isIn := goodIn_r _ [11] (by decide +kernel) (by decide +kernel)
set_option maxRecDepth 20000 in
theorem gX5_side_X5_isIn : GoodIn wsX5_side (va_wsS RX5 68 yX5_isIn wsX5_isIn) := goodIn_app (goodIn_of _ (by decide +kernel)) ggX5_side_X5_isIn
set_option maxRecDepth 20000 in
theorem ggX5_side_X5_finding : GoodIn wsX5_side wsX5_finding := goodIn_r _ [15, 16, 17, 18, 19, 20, 21, 22, 23, 24] (by decide +kernel) (by decide +kernel)
set_option maxRecDepth 20000 in
theorem gX5_side_X5_finding : GoodIn wsX5_side (wsV RX5 55 RX5 yX5_finding wsX5_finding) := goodIn_app (goodIn_of _ (by decide +kernel)) ggX5_side_X5_finding
theorem dX5_side_0 : decode cX5_side 0 = .ok (.iload_n 1, 1) := by decide +kernel
theorem dX5_side_1 : decode cX5_side 1 = .ok (.invokestatic 65, 3) := by decide +kernel
theorem dX5_side_4 : decode cX5_side 4 = .ok (.ifCond .eq 31, 3) := by decide +kernel
theorem dX5_side_7 : decode cX5_side 7 = .ok (.iload_n 2, 1) := by decide +kernel
theorem dX5_side_8 : decode cX5_side 8 = .ok (.iconst 0, 1) := by decide +kernel
theorem dX5_side_9 : decode cX5_side 9 = .ok (.iconst 1, 1) := by decide +kernel
theorem dX5_side_10 : decode cX5_side 10 = .ok (.invokestatic 68, 3) := by decide +kernel
theorem dX5_side_13 : decode cX5_side 13 = .ok (.ifCond .eq 22, 3) := by decide +kernel
theorem dX5_side_16 : decode cX5_side 16 = .ok (.iload_n 3, 1) := by decide +kernel
theorem dX5_side_17 : decode cX5_side 17 = .ok (.iconst 0, 1) := by decide +kernel
theorem dX5_side_18 : decode cX5_side 18 = .ok (.iload_n 2, 1) := by decide +kernel
theorem dX5_side_19 : decode cX5_side 19 = .ok (.ifCond .ne 8, 3) := by decide +kernel
theorem dX5_side_22 : decode cX5_side 22 = .ok (.bipush 50, 2) := by decide +kernel
theorem dX5_side_24 : decode cX5_side 24 = .ok (.goto 5, 3) := by decide +kernel
theorem dX5_side_27 : decode cX5_side 27 = .ok (.bipush 9, 2) := by decide +kernel
theorem dX5_side_29 : decode cX5_side 29 = .ok (.invokestatic 68, 3) := by decide +kernel
theorem dX5_side_32 : decode cX5_side 32 = .ok (.ifCond .ne 9, 3) := by decide +kernel
theorem dX5_side_35 : decode cX5_side 35 = .ok (.aload_n 0, 1) := by decide +kernel
theorem dX5_side_36 : decode cX5_side 36 = .ok (.iconst 0, 1) := by decide +kernel
theorem dX5_side_37 : decode cX5_side 37 = .ok (.invokevirtual 55, 3) := by decide +kernel
theorem dX5_side_40 : decode cX5_side 40 = .ok (.ireturn, 1) := by decide +kernel
theorem dX5_side_41 : decode cX5_side 41 = .ok (.iload_n 2, 1) := by decide +kernel
theorem dX5_side_42 : decode cX5_side 42 = .ok (.ifCond .ne 16, 3) := by decide +kernel
theorem dX5_side_45 : decode cX5_side 45 = .ok (.aload_n 0, 1) := by decide +kernel
theorem dX5_side_46 : decode cX5_side 46 = .ok (.getfield 10, 3) := by decide +kernel
theorem dX5_side_49 : decode cX5_side 49 = .ok (.getfield 59, 3) := by decide +kernel
theorem dX5_side_52 : decode cX5_side 52 = .ok (.getfield 79, 3) := by decide +kernel
theorem dX5_side_55 : decode cX5_side 55 = .ok (.goto 13, 3) := by decide +kernel
theorem dX5_side_58 : decode cX5_side 58 = .ok (.aload_n 0, 1) := by decide +kernel
theorem dX5_side_59 : decode cX5_side 59 = .ok (.getfield 10, 3) := by decide +kernel
theorem dX5_side_62 : decode cX5_side 62 = .ok (.getfield 59, 3) := by decide +kernel
theorem dX5_side_65 : decode cX5_side 65 = .ok (.getfield 82, 3) := by decide +kernel
theorem dX5_side_68 : decode cX5_side 68 = .ok (.astore 4, 2) := by decide +kernel
theorem dX5_side_70 : decode cX5_side 70 = .ok (.aload 4, 2) := by decide +kernel
theorem dX5_side_72 : decode cX5_side 72 = .ok (.iload_n 1, 1) := by decide +kernel
theorem dX5_side_73 : decode cX5_side 73 = .ok (.iaload, 1) := by decide +kernel
theorem dX5_side_74 : decode cX5_side 74 = .ok (.istore 5, 2) := by decide +kernel
theorem dX5_side_76 : decode cX5_side 76 = .ok (.aload 4, 2) := by decide +kernel
theorem dX5_side_78 : decode cX5_side 78 = .ok (.iload_n 1, 1) := by decide +kernel
theorem dX5_side_79 : decode cX5_side 79 = .ok (.iload_n 3, 1) := by decide +kernel
theorem dX5_side_80 : decode cX5_side 80 = .ok (.iastore, 1) := by decide +kernel
theorem dX5_side_81 : decode cX5_side 81 = .ok (.iload 5, 2) := by decide +kernel
theorem dX5_side_83 : decode cX5_side 83 = .ok (.ireturn, 1) := by decide +kernel
set_option maxRecDepth 20000 in
theorem ggX5_frost_X5_isIn : GoodIn wsX5_frost wsX5_isIn := goodIn_r _ [7] (by decide +kernel) (by decide +kernel)
set_option maxRecDepth 20000 in
theorem gX5_frost_X5_isIn : GoodIn wsX5_frost (va_wsS RX5 68 yX5_isIn wsX5_isIn) := goodIn_app (goodIn_of _ (by decide +kernel)) ggX5_frost_X5_isIn
set_option maxRecDepth 20000 in
theorem ggX5_frost_X5_finding : GoodIn wsX5_frost wsX5_finding := goodIn_r _ [11, 12, 13, 14, 15, 16, 17, 18, 19, 20] (by decide +kernel) (by decide +kernel)
set_option maxRecDepth 20000 in
theorem gX5_frost_X5_finding : GoodIn wsX5_frost (wsV RX5 55 RX5 yX5_finding wsX5_finding) := goodIn_app (goodIn_of _ (by decide +kernel)) ggX5_frost_X5_finding
theorem dX5_frost_0 : decode cX5_frost 0 = .ok (.iload_n 1, 1) := by decide +kernel
theorem dX5_frost_1 : decode cX5_frost 1 = .ok (.iconst 0, 1) := by decide +kernel
theorem dX5_frost_2 : decode cX5_frost 2 = .ok (.bipush 9, 2) := by decide +kernel
theorem dX5_frost_4 : decode cX5_frost 4 = .ok (.invokestatic 68, 3) := by decide +kernel
theorem dX5_frost_7 : decode cX5_frost 7 = .ok (.ifCond .ne 9, 3) := by decide +kernel
theorem dX5_frost_10 : decode cX5_frost 10 = .ok (.aload_n 0, 1) := by decide +kernel
theorem dX5_frost_11 : decode cX5_frost 11 = .ok (.iconst 0, 1) := by decide +kernel
theorem dX5_frost_12 : decode cX5_frost 12 = .ok (.invokevirtual 55, 3) := by decide +kernel
theorem dX5_frost_15 : decode cX5_frost 15 = .ok (.ireturn, 1) := by decide +kernel
theorem dX5_frost_16 : decode cX5_frost 16 = .ok (.aload_n 0, 1) := by decide +kernel
theorem dX5_frost_17 : decode cX5_frost 17 = .ok (.getfield 10, 3) := by decide +kernel
theorem dX5_frost_20 : decode cX5_frost 20 = .ok (.getfield 59, 3) := by decide +kernel
theorem dX5_frost_23 : decode cX5_frost 23 = .ok (.getfield 85, 3) := by decide +kernel
theorem dX5_frost_26 : decode cX5_frost 26 = .ok (.istore_n 2, 1) := by decide +kernel
theorem dX5_frost_27 : decode cX5_frost 27 = .ok (.aload_n 0, 1) := by decide +kernel
theorem dX5_frost_28 : decode cX5_frost 28 = .ok (.getfield 10, 3) := by decide +kernel
theorem dX5_frost_31 : decode cX5_frost 31 = .ok (.getfield 59, 3) := by decide +kernel
theorem dX5_frost_34 : decode cX5_frost 34 = .ok (.iload_n 1, 1) := by decide +kernel
theorem dX5_frost_35 : decode cX5_frost 35 = .ok (.putfield 85, 3) := by decide +kernel
theorem dX5_frost_38 : decode cX5_frost 38 = .ok (.iload_n 2, 1) := by decide +kernel
theorem dX5_frost_39 : decode cX5_frost 39 = .ok (.ireturn, 1) := by decide +kernel
set_option maxRecDepth 20000 in
theorem ggX5_price_X5_isSide : GoodIn wsX5_price wsX5_isSide := goodIn_r _ [6, 7, 8, 5, 9] (by decide +kernel) (by decide +kernel)
set_option maxRecDepth 20000 in
theorem gX5_price_X5_isSide : GoodIn wsX5_price (va_wsS RX5 65 yX5_isSide wsX5_isSide) := goodIn_app (goodIn_of _ (by decide +kernel)) ggX5_price_X5_isSide
set_option maxRecDepth 20000 in
theorem ggX5_price_X5_isThing : GoodIn wsX5_price wsX5_isThing := goodIn_r _ [12, 7, 8, 5, 9] (by decide +kernel) (by decide +kernel)
set_option maxRecDepth 20000 in
theorem gX5_price_X5_isThing : GoodIn wsX5_price (va_wsS RX5 48 yX5_isThing wsX5_isThing) := goodIn_app (goodIn_of _ (by decide +kernel)) ggX5_price_X5_isThing
set_option maxRecDepth 20000 in
theorem ggX5_price_X5_isIn : GoodIn wsX5_price wsX5_isIn := goodIn_r _ [9] (by decide +kernel) (by decide +kernel)
set_option maxRecDepth 20000 in
theorem gX5_price_X5_isIn : GoodIn wsX5_price (va_wsS RX5 68 yX5_isIn wsX5_isIn) := goodIn_app (goodIn_of _ (by decide +kernel)) ggX5_price_X5_isIn
set_option maxRecDepth 20000 in
theorem ggX5_price_X5_finding : GoodIn wsX5_price wsX5_finding := goodIn_r _ [16, 17, 18, 27, 28, 29, 30, 31, 32, 33] (by decide +kernel) (by decide +kernel)
set_option maxRecDepth 20000 in
theorem gX5_price_X5_finding : GoodIn wsX5_price (wsV RX5 55 RX5 yX5_finding wsX5_finding) := goodIn_app (goodIn_of _ (by decide +kernel)) ggX5_price_X5_finding
set_option maxRecDepth 20000 in
theorem ggX5_price_X1_priceOf : GoodIn wsX5_price wsX1_priceOf := goodIn_r _ [23, 24, 25, 26, 38, 39, 40, 41, 42, 43, 44, 45, 46, 47] (by decide +kernel) (by decide +kernel)
set_option maxRecDepth 20000 in
theorem gX5_price_X1_priceOf : GoodIn wsX5_price (wsV RX5 89 RX1 yX1_priceOf wsX1_priceOf) := goodIn_app (goodIn_of _ (by decide +kernel)) ggX5_price_X1_priceOf
theorem dX5_price_0 : decode cX5_price 0 = .ok (.iload_n 1, 1) := by decide +kernel
theorem dX5_price_1 : decode cX5_price 1 = .ok (.invokestatic 65, 3) := by decide +kernel
theorem dX5_price_4 : decode cX5_price 4 = .ok (.ifCond .eq 20, 3) := by decide +kernel
theorem dX5_price_7 : decode cX5_price 7 = .ok (.iload_n 2, 1) := by decide +kernel
theorem dX5_price_8 : decode cX5_price 8 = .ok (.invokestatic 48, 3) := by decide +kernel
theorem dX5_price_11 : decode cX5_price 11 = .ok (.ifCond .eq 13, 3) := by decide +kernel
theorem dX5_price_14 : decode cX5_price 14 = .ok (.iload_n 3, 1) := by decide +kernel
theorem dX5_price_15 : decode cX5_price 15 = .ok (.iconst 0, 1) := by decide +kernel
theorem dX5_price_16 : decode cX5_price 16 = .ok (.bipush 99, 2) := by decide +kernel
theorem dX5_price_18 : decode cX5_price 18 = .ok (.invokestatic 68, 3) := by decide +kernel
theorem dX5_price_21 : decode cX5_price 21 = .ok (.ifCond .ne 9, 3) := by decide +kernel
theorem dX5_price_24 : decode cX5_price 24 = .ok (.aload_n 0, 1) := by decide +kernel
theorem dX5_price_25 : decode cX5_price 25 = .ok (.iconst 0, 1) := by decide +kernel
theorem dX5_price_26 : decode cX5_price 26 = .ok (.invokevirtual 55, 3) := by decide +kernel
theorem dX5_price_29 : decode cX5_price 29 = .ok (.ireturn, 1) := by decide +kernel
theorem dX5_price_30 : decode cX5_price 30 = .ok (.aload_n 0, 1) := by decide +kernel
theorem dX5_price_31 : decode cX5_price 31 = .ok (.getfield 10, 3) := by decide +kernel
theorem dX5_price_34 : decode cX5_price 34 = .ok (.getfield 59, 3) := by decide +kernel
theorem dX5_price_37 : decode cX5_price 37 = .ok (.iload_n 1, 1) := by decide +kernel
theorem dX5_price_38 : decode cX5_price 38 = .ok (.iload_n 2, 1) := by decide +kernel
theorem dX5_price_39 : decode cX5_price 39 = .ok (.iload_n 3, 1) := by decide +kernel
theorem dX5_price_40 : decode cX5_price 40 = .ok (.invokevirtual 89, 3) := by decide +kernel
theorem dX5_price_43 : decode cX5_price 43 = .ok (.ireturn, 1) := by decide +kernel
set_option maxRecDepth 20000 in
theorem ggX5_value_X5_isSide : GoodIn wsX5_value wsX5_isSide := goodIn_r _ [6, 7, 8, 5, 9] (by decide +kernel) (by decide +kernel)
set_option maxRecDepth 20000 in
theorem gX5_value_X5_isSide : GoodIn wsX5_value (va_wsS RX5 65 yX5_isSide wsX5_isSide) := goodIn_app (goodIn_of _ (by decide +kernel)) ggX5_value_X5_isSide
set_option maxRecDepth 20000 in
theorem ggX5_value_X5_finding : GoodIn wsX5_value wsX5_finding := goodIn_r _ [13, 14, 15, 29, 30, 31, 32, 33, 34, 35] (by decide +kernel) (by decide +kernel)
set_option maxRecDepth 20000 in
theorem gX5_value_X5_finding : GoodIn wsX5_value (wsV RX5 55 RX5 yX5_finding wsX5_finding) := goodIn_app (goodIn_of _ (by decide +kernel)) ggX5_value_X5_finding
set_option maxRecDepth 20000 in
theorem ggX5_value_X1_heapValue : GoodIn wsX5_value wsX1_heapValue := goodIn_r _ [20, 21, 22, 23, 24, 19, 25, 26, 27, 28, 40, 41, 42, 43, 44, 45, 46, 47, 48, 49] (by decide +kernel) (by decide +kernel)
set_option maxRecDepth 20000 in
theorem gX5_value_X1_heapValue : GoodIn wsX5_value (wsV RX5 93 RX1 yX1_heapValue wsX1_heapValue) := goodIn_app (goodIn_of _ (by decide +kernel)) ggX5_value_X1_heapValue
theorem dX5_value_0 : decode cX5_value 0 = .ok (.iload_n 1, 1) := by decide +kernel
theorem dX5_value_1 : decode cX5_value 1 = .ok (.invokestatic 65, 3) := by decide +kernel
theorem dX5_value_4 : decode cX5_value 4 = .ok (.ifCond .eq 10, 3) := by decide +kernel
theorem dX5_value_7 : decode cX5_value 7 = .ok (.iload_n 2, 1) := by decide +kernel
theorem dX5_value_8 : decode cX5_value 8 = .ok (.invokestatic 65, 3) := by decide +kernel
theorem dX5_value_11 : decode cX5_value 11 = .ok (.ifCond .ne 9, 3) := by decide +kernel
theorem dX5_value_14 : decode cX5_value 14 = .ok (.aload_n 0, 1) := by decide +kernel
theorem dX5_value_15 : decode cX5_value 15 = .ok (.iconst 0, 1) := by decide +kernel
theorem dX5_value_16 : decode cX5_value 16 = .ok (.invokevirtual 55, 3) := by decide +kernel
theorem dX5_value_19 : decode cX5_value 19 = .ok (.ireturn, 1) := by decide +kernel
theorem dX5_value_20 : decode cX5_value 20 = .ok (.aload_n 0, 1) := by decide +kernel
theorem dX5_value_21 : decode cX5_value 21 = .ok (.getfield 10, 3) := by decide +kernel
theorem dX5_value_24 : decode cX5_value 24 = .ok (.getfield 59, 3) := by decide +kernel
theorem dX5_value_27 : decode cX5_value 27 = .ok (.iload_n 1, 1) := by decide +kernel
theorem dX5_value_28 : decode cX5_value 28 = .ok (.iload_n 2, 1) := by decide +kernel
theorem dX5_value_29 : decode cX5_value 29 = .ok (.invokevirtual 93, 3) := by decide +kernel
theorem dX5_value_32 : decode cX5_value 32 = .ok (.ireturn, 1) := by decide +kernel
set_option maxRecDepth 20000 in
theorem ggX5_eaten_X5_isThing : GoodIn wsX5_eaten wsX5_isThing := goodIn_r _ [6, 7, 8, 5, 9] (by decide +kernel) (by decide +kernel)
set_option maxRecDepth 20000 in
theorem gX5_eaten_X5_isThing : GoodIn wsX5_eaten (va_wsS RX5 48 yX5_isThing wsX5_isThing) := goodIn_app (goodIn_of _ (by decide +kernel)) ggX5_eaten_X5_isThing
set_option maxRecDepth 20000 in
theorem ggX5_eaten_X5_isIn : GoodIn wsX5_eaten wsX5_isIn := goodIn_r _ [9] (by decide +kernel) (by decide +kernel)
set_option maxRecDepth 20000 in
theorem gX5_eaten_X5_isIn : GoodIn wsX5_eaten (va_wsS RX5 68 yX5_isIn wsX5_isIn) := goodIn_app (goodIn_of _ (by decide +kernel)) ggX5_eaten_X5_isIn
set_option maxRecDepth 20000 in
theorem ggX5_eaten_X5_finding : GoodIn wsX5_eaten wsX5_finding := goodIn_r _ [13, 14, 15, 27, 28, 29, 30, 31, 32, 33] (by decide +kernel) (by decide +kernel)
set_option maxRecDepth 20000 in
theorem gX5_eaten_X5_finding : GoodIn wsX5_eaten (wsV RX5 55 RX5 yX5_finding wsX5_finding) := goodIn_app (goodIn_of _ (by decide +kernel)) ggX5_eaten_X5_finding
set_option maxRecDepth 20000 in
theorem ggX5_eaten_X1_eatenOf : GoodIn wsX5_eaten wsX1_eatenOf := goodIn_r _ [20, 21, 22, 23, 24, 25, 26, 38, 39, 40, 41, 42, 43, 44, 45, 46, 47] (by decide +kernel) (by decide +kernel)
set_option maxRecDepth 20000 in
theorem gX5_eaten_X1_eatenOf : GoodIn wsX5_eaten (wsV RX5 97 RX1 yX1_eatenOf wsX1_eatenOf) := goodIn_app (goodIn_of _ (by decide +kernel)) ggX5_eaten_X1_eatenOf
theorem dX5_eaten_0 : decode cX5_eaten 0 = .ok (.iload_n 1, 1) := by decide +kernel
theorem dX5_eaten_1 : decode cX5_eaten 1 = .ok (.invokestatic 48, 3) := by decide +kernel
theorem dX5_eaten_4 : decode cX5_eaten 4 = .ok (.ifCond .eq 13, 3) := by decide +kernel
theorem dX5_eaten_7 : decode cX5_eaten 7 = .ok (.iload_n 2, 1) := by decide +kernel
theorem dX5_eaten_8 : decode cX5_eaten 8 = .ok (.iconst 0, 1) := by decide +kernel
theorem dX5_eaten_9 : decode cX5_eaten 9 = .ok (.bipush 99, 2) := by decide +kernel
theorem dX5_eaten_11 : decode cX5_eaten 11 = .ok (.invokestatic 68, 3) := by decide +kernel
theorem dX5_eaten_14 : decode cX5_eaten 14 = .ok (.ifCond .ne 9, 3) := by decide +kernel
theorem dX5_eaten_17 : decode cX5_eaten 17 = .ok (.aload_n 0, 1) := by decide +kernel
theorem dX5_eaten_18 : decode cX5_eaten 18 = .ok (.iconst 0, 1) := by decide +kernel
theorem dX5_eaten_19 : decode cX5_eaten 19 = .ok (.invokevirtual 55, 3) := by decide +kernel
theorem dX5_eaten_22 : decode cX5_eaten 22 = .ok (.ireturn, 1) := by decide +kernel
theorem dX5_eaten_23 : decode cX5_eaten 23 = .ok (.aload_n 0, 1) := by decide +kernel
theorem dX5_eaten_24 : decode cX5_eaten 24 = .ok (.getfield 10, 3) := by decide +kernel
theorem dX5_eaten_27 : decode cX5_eaten 27 = .ok (.getfield 59, 3) := by decide +kernel
theorem dX5_eaten_30 : decode cX5_eaten 30 = .ok (.iload_n 1, 1) := by decide +kernel
theorem dX5_eaten_31 : decode cX5_eaten 31 = .ok (.iload_n 2, 1) := by decide +kernel
theorem dX5_eaten_32 : decode cX5_eaten 32 = .ok (.invokevirtual 97, 3) := by decide +kernel
theorem dX5_eaten_35 : decode cX5_eaten 35 = .ok (.ireturn, 1) := by decide +kernel
set_option maxRecDepth 20000 in
theorem ggX5_lay_X5_isSide : GoodIn wsX5_lay wsX5_isSide := goodIn_r _ [6, 7, 8, 5, 9] (by decide +kernel) (by decide +kernel)
set_option maxRecDepth 20000 in
theorem gX5_lay_X5_isSide : GoodIn wsX5_lay (va_wsS RX5 65 yX5_isSide wsX5_isSide) := goodIn_app (goodIn_of _ (by decide +kernel)) ggX5_lay_X5_isSide
set_option maxRecDepth 20000 in
theorem ggX5_lay_X5_isThing : GoodIn wsX5_lay wsX5_isThing := goodIn_r _ [12, 7, 8, 5, 9] (by decide +kernel) (by decide +kernel)
set_option maxRecDepth 20000 in
theorem gX5_lay_X5_isThing : GoodIn wsX5_lay (va_wsS RX5 48 yX5_isThing wsX5_isThing) := goodIn_app (goodIn_of _ (by decide +kernel)) ggX5_lay_X5_isThing
set_option maxRecDepth 20000 in
theorem ggX5_lay_X5_isIn : GoodIn wsX5_lay wsX5_isIn := goodIn_r _ [9] (by decide +kernel) (by decide +kernel)
set_option maxRecDepth 20000 in
theorem gX5_lay_X5_isIn : GoodIn wsX5_lay (va_wsS RX5 68 yX5_isIn wsX5_isIn) := goodIn_app (goodIn_of _ (by decide +kernel)) ggX5_lay_X5_isIn
set_option maxRecDepth 20000 in
theorem ggX5_lay_X5_finding : GoodIn wsX5_lay wsX5_finding := goodIn_r _ [16, 17, 18, 31, 32, 33, 34, 35, 36, 37] (by decide +kernel) (by decide +kernel)
set_option maxRecDepth 20000 in
theorem gX5_lay_X5_finding : GoodIn wsX5_lay (wsV RX5 55 RX5 yX5_finding wsX5_finding) := goodIn_app (goodIn_of _ (by decide +kernel)) ggX5_lay_X5_finding
set_option maxRecDepth 20000 in
theorem ggX5_lay_X1_mayLay : GoodIn wsX5_lay wsX1_mayLay := goodIn_r _ [23, 24, 25, 26, 42, 43, 44, 45, 46, 47, 48, 49, 50, 51] (by decide +kernel) (by decide +kernel)
set_option maxRecDepth 20000 in
theorem gX5_lay_X1_mayLay : GoodIn wsX5_lay (wsV RX5 100 RX1 yX1_mayLay wsX1_mayLay) := goodIn_app (goodIn_of _ (by decide +kernel)) ggX5_lay_X1_mayLay
set_option maxRecDepth 20000 in
theorem ggX5_lay_X1_layDown : GoodIn wsX5_lay wsX1_layDown := goodIn_r _ [30, 24, 26, 42, 43, 44, 45, 46, 47, 48, 49, 50, 51] (by decide +kernel) (by decide +kernel)
set_option maxRecDepth 20000 in
theorem gX5_lay_X1_layDown : GoodIn wsX5_lay (wsV RX5 103 RX1 yX1_layDown wsX1_layDown) := goodIn_app (goodIn_of _ (by decide +kernel)) ggX5_lay_X1_layDown
theorem dX5_lay_0 : decode cX5_lay 0 = .ok (.iload_n 1, 1) := by decide +kernel
theorem dX5_lay_1 : decode cX5_lay 1 = .ok (.invokestatic 65, 3) := by decide +kernel
theorem dX5_lay_4 : decode cX5_lay 4 = .ok (.ifCond .eq 20, 3) := by decide +kernel
theorem dX5_lay_7 : decode cX5_lay 7 = .ok (.iload_n 2, 1) := by decide +kernel
theorem dX5_lay_8 : decode cX5_lay 8 = .ok (.invokestatic 48, 3) := by decide +kernel
theorem dX5_lay_11 : decode cX5_lay 11 = .ok (.ifCond .eq 13, 3) := by decide +kernel
theorem dX5_lay_14 : decode cX5_lay 14 = .ok (.iload_n 3, 1) := by decide +kernel
theorem dX5_lay_15 : decode cX5_lay 15 = .ok (.iconst 1, 1) := by decide +kernel
theorem dX5_lay_16 : decode cX5_lay 16 = .ok (.bipush 99, 2) := by decide +kernel
theorem dX5_lay_18 : decode cX5_lay 18 = .ok (.invokestatic 68, 3) := by decide +kernel
theorem dX5_lay_21 : decode cX5_lay 21 = .ok (.ifCond .ne 9, 3) := by decide +kernel
theorem dX5_lay_24 : decode cX5_lay 24 = .ok (.aload_n 0, 1) := by decide +kernel
theorem dX5_lay_25 : decode cX5_lay 25 = .ok (.iconst 0, 1) := by decide +kernel
theorem dX5_lay_26 : decode cX5_lay 26 = .ok (.invokevirtual 55, 3) := by decide +kernel
theorem dX5_lay_29 : decode cX5_lay 29 = .ok (.ireturn, 1) := by decide +kernel
theorem dX5_lay_30 : decode cX5_lay 30 = .ok (.aload_n 0, 1) := by decide +kernel
theorem dX5_lay_31 : decode cX5_lay 31 = .ok (.getfield 10, 3) := by decide +kernel
theorem dX5_lay_34 : decode cX5_lay 34 = .ok (.getfield 59, 3) := by decide +kernel
theorem dX5_lay_37 : decode cX5_lay 37 = .ok (.iload_n 1, 1) := by decide +kernel
theorem dX5_lay_38 : decode cX5_lay 38 = .ok (.iload_n 2, 1) := by decide +kernel
theorem dX5_lay_39 : decode cX5_lay 39 = .ok (.iload_n 3, 1) := by decide +kernel
theorem dX5_lay_40 : decode cX5_lay 40 = .ok (.invokevirtual 100, 3) := by decide +kernel
theorem dX5_lay_43 : decode cX5_lay 43 = .ok (.ifCond .ne 9, 3) := by decide +kernel
theorem dX5_lay_46 : decode cX5_lay 46 = .ok (.aload_n 0, 1) := by decide +kernel
theorem dX5_lay_47 : decode cX5_lay 47 = .ok (.iconst 4, 1) := by decide +kernel
theorem dX5_lay_48 : decode cX5_lay 48 = .ok (.invokevirtual 55, 3) := by decide +kernel
theorem dX5_lay_51 : decode cX5_lay 51 = .ok (.ireturn, 1) := by decide +kernel
theorem dX5_lay_52 : decode cX5_lay 52 = .ok (.aload_n 0, 1) := by decide +kernel
theorem dX5_lay_53 : decode cX5_lay 53 = .ok (.getfield 10, 3) := by decide +kernel
theorem dX5_lay_56 : decode cX5_lay 56 = .ok (.getfield 59, 3) := by decide +kernel
theorem dX5_lay_59 : decode cX5_lay 59 = .ok (.iload_n 1, 1) := by decide +kernel
theorem dX5_lay_60 : decode cX5_lay 60 = .ok (.iload_n 2, 1) := by decide +kernel
theorem dX5_lay_61 : decode cX5_lay 61 = .ok (.iload_n 3, 1) := by decide +kernel
theorem dX5_lay_62 : decode cX5_lay 62 = .ok (.invokevirtual 103, 3) := by decide +kernel
theorem dX5_lay_65 : decode cX5_lay 65 = .ok (.ireturn, 1) := by decide +kernel
set_option maxRecDepth 20000 in
theorem ggX5_back_X5_isSide : GoodIn wsX5_back wsX5_isSide := goodIn_r _ [8, 9, 10, 7, 11] (by decide +kernel) (by decide +kernel)
set_option maxRecDepth 20000 in
theorem gX5_back_X5_isSide : GoodIn wsX5_back (va_wsS RX5 65 yX5_isSide wsX5_isSide) := goodIn_app (goodIn_of _ (by decide +kernel)) ggX5_back_X5_isSide
set_option maxRecDepth 20000 in
theorem ggX5_back_X5_isThing : GoodIn wsX5_back wsX5_isThing := goodIn_r _ [14, 9, 10, 7, 11] (by decide +kernel) (by decide +kernel)
set_option maxRecDepth 20000 in
theorem gX5_back_X5_isThing : GoodIn wsX5_back (va_wsS RX5 48 yX5_isThing wsX5_isThing) := goodIn_app (goodIn_of _ (by decide +kernel)) ggX5_back_X5_isThing
set_option maxRecDepth 20000 in
theorem ggX5_back_X5_isIn : GoodIn wsX5_back wsX5_isIn := goodIn_r _ [11] (by decide +kernel) (by decide +kernel)
set_option maxRecDepth 20000 in
theorem gX5_back_X5_isIn : GoodIn wsX5_back (va_wsS RX5 68 yX5_isIn wsX5_isIn) := goodIn_app (goodIn_of _ (by decide +kernel)) ggX5_back_X5_isIn
set_option maxRecDepth 20000 in
theorem ggX5_back_X5_finding : GoodIn wsX5_back wsX5_finding := goodIn_r _ [18, 19, 20, 21, 22, 23, 24, 25, 26, 27] (by decide +kernel) (by decide +kernel)
set_option maxRecDepth 20000 in
theorem gX5_back_X5_finding : GoodIn wsX5_back (wsV RX5 55 RX5 yX5_finding wsX5_finding) := goodIn_app (goodIn_of _ (by decide +kernel)) ggX5_back_X5_finding
theorem dX5_back_0 : decode cX5_back 0 = .ok (.iload_n 1, 1) := by decide +kernel
theorem dX5_back_1 : decode cX5_back 1 = .ok (.invokestatic 65, 3) := by decide +kernel
theorem dX5_back_4 : decode cX5_back 4 = .ok (.ifCond .eq 20, 3) := by decide +kernel
theorem dX5_back_7 : decode cX5_back 7 = .ok (.iload_n 2, 1) := by decide +kernel
theorem dX5_back_8 : decode cX5_back 8 = .ok (.invokestatic 48, 3) := by decide +kernel
theorem dX5_back_11 : decode cX5_back 11 = .ok (.ifCond .eq 13, 3) := by decide +kernel
theorem dX5_back_14 : decode cX5_back 14 = .ok (.iload_n 3, 1) := by decide +kernel
theorem dX5_back_15 : decode cX5_back 15 = .ok (.iconst 1, 1) := by decide +kernel
theorem dX5_back_16 : decode cX5_back 16 = .ok (.bipush 99, 2) := by decide +kernel
theorem dX5_back_18 : decode cX5_back 18 = .ok (.invokestatic 68, 3) := by decide +kernel
theorem dX5_back_21 : decode cX5_back 21 = .ok (.ifCond .ne 9, 3) := by decide +kernel
theorem dX5_back_24 : decode cX5_back 24 = .ok (.aload_n 0, 1) := by decide +kernel
theorem dX5_back_25 : decode cX5_back 25 = .ok (.iconst 0, 1) := by decide +kernel
theorem dX5_back_26 : decode cX5_back 26 = .ok (.invokevirtual 55, 3) := by decide +kernel
theorem dX5_back_29 : decode cX5_back 29 = .ok (.ireturn, 1) := by decide +kernel
theorem dX5_back_30 : decode cX5_back 30 = .ok (.iload_n 1, 1) := by decide +kernel
theorem dX5_back_31 : decode cX5_back 31 = .ok (.iconst 5, 1) := by decide +kernel
theorem dX5_back_32 : decode cX5_back 32 = .ok (.imul, 1) := by decide +kernel
theorem dX5_back_33 : decode cX5_back 33 = .ok (.iload_n 2, 1) := by decide +kernel
theorem dX5_back_34 : decode cX5_back 34 = .ok (.iadd, 1) := by decide +kernel
theorem dX5_back_35 : decode cX5_back 35 = .ok (.istore 4, 2) := by decide +kernel
theorem dX5_back_37 : decode cX5_back 37 = .ok (.aload_n 0, 1) := by decide +kernel
theorem dX5_back_38 : decode cX5_back 38 = .ok (.getfield 10, 3) := by decide +kernel
theorem dX5_back_41 : decode cX5_back 41 = .ok (.getfield 59, 3) := by decide +kernel
theorem dX5_back_44 : decode cX5_back 44 = .ok (.astore 5, 2) := by decide +kernel
theorem dX5_back_46 : decode cX5_back 46 = .ok (.aload 5, 2) := by decide +kernel
theorem dX5_back_48 : decode cX5_back 48 = .ok (.getfield 106, 3) := by decide +kernel
theorem dX5_back_51 : decode cX5_back 51 = .ok (.iload 4, 2) := by decide +kernel
theorem dX5_back_53 : decode cX5_back 53 = .ok (.iaload, 1) := by decide +kernel
theorem dX5_back_54 : decode cX5_back 54 = .ok (.iload_n 3, 1) := by decide +kernel
theorem dX5_back_55 : decode cX5_back 55 = .ok (.if_icmp .lt 18, 3) := by decide +kernel
theorem dX5_back_58 : decode cX5_back 58 = .ok (.aload 5, 2) := by decide +kernel
theorem dX5_back_60 : decode cX5_back 60 = .ok (.getfield 109, 3) := by decide +kernel
theorem dX5_back_63 : decode cX5_back 63 = .ok (.iload 4, 2) := by decide +kernel
theorem dX5_back_65 : decode cX5_back 65 = .ok (.iaload, 1) := by decide +kernel
theorem dX5_back_66 : decode cX5_back 66 = .ok (.iload_n 3, 1) := by decide +kernel
theorem dX5_back_67 : decode cX5_back 67 = .ok (.iadd, 1) := by decide +kernel
theorem dX5_back_68 : decode cX5_back 68 = .ok (.bipush 99, 2) := by decide +kernel
theorem dX5_back_70 : decode cX5_back 70 = .ok (.if_icmp .le 9, 3) := by decide +kernel
theorem dX5_back_73 : decode cX5_back 73 = .ok (.aload_n 0, 1) := by decide +kernel
theorem dX5_back_74 : decode cX5_back 74 = .ok (.iconst 4, 1) := by decide +kernel
theorem dX5_back_75 : decode cX5_back 75 = .ok (.invokevirtual 55, 3) := by decide +kernel
theorem dX5_back_78 : decode cX5_back 78 = .ok (.ireturn, 1) := by decide +kernel
theorem dX5_back_79 : decode cX5_back 79 = .ok (.aload 5, 2) := by decide +kernel
theorem dX5_back_81 : decode cX5_back 81 = .ok (.getfield 106, 3) := by decide +kernel
theorem dX5_back_84 : decode cX5_back 84 = .ok (.iload 4, 2) := by decide +kernel
theorem dX5_back_86 : decode cX5_back 86 = .ok (.dup2, 1) := by decide +kernel
theorem dX5_back_87 : decode cX5_back 87 = .ok (.iaload, 1) := by decide +kernel
theorem dX5_back_88 : decode cX5_back 88 = .ok (.iload_n 3, 1) := by decide +kernel
theorem dX5_back_89 : decode cX5_back 89 = .ok (.isub, 1) := by decide +kernel
theorem dX5_back_90 : decode cX5_back 90 = .ok (.iastore, 1) := by decide +kernel
theorem dX5_back_91 : decode cX5_back 91 = .ok (.aload 5, 2) := by decide +kernel
theorem dX5_back_93 : decode cX5_back 93 = .ok (.getfield 109, 3) := by decide +kernel
theorem dX5_back_96 : decode cX5_back 96 = .ok (.iload 4, 2) := by decide +kernel
theorem dX5_back_98 : decode cX5_back 98 = .ok (.dup2, 1) := by decide +kernel
theorem dX5_back_99 : decode cX5_back 99 = .ok (.iaload, 1) := by decide +kernel
theorem dX5_back_100 : decode cX5_back 100 = .ok (.iload_n 3, 1) := by decide +kernel
theorem dX5_back_101 : decode cX5_back 101 = .ok (.iadd, 1) := by decide +kernel
theorem dX5_back_102 : decode cX5_back 102 = .ok (.iastore, 1) := by decide +kernel
theorem dX5_back_103 : decode cX5_back 103 = .ok (.aload 5, 2) := by decide +kernel
theorem dX5_back_105 : decode cX5_back 105 = .ok (.getfield 106, 3) := by decide +kernel
theorem dX5_back_108 : decode cX5_back 108 = .ok (.iload 4, 2) := by decide +kernel
theorem dX5_back_110 : decode cX5_back 110 = .ok (.iaload, 1) := by decide +kernel
theorem dX5_back_111 : decode cX5_back 111 = .ok (.ireturn, 1) := by decide +kernel
set_option maxRecDepth 20000 in
theorem ggX5_content_X5_isSide : GoodIn wsX5_content wsX5_isSide := goodIn_r _ [6, 7, 8, 5, 9] (by decide +kernel) (by decide +kernel)
set_option maxRecDepth 20000 in
theorem gX5_content_X5_isSide : GoodIn wsX5_content (va_wsS RX5 65 yX5_isSide wsX5_isSide) := goodIn_app (goodIn_of _ (by decide +kernel)) ggX5_content_X5_isSide
set_option maxRecDepth 20000 in
theorem ggX5_content_X5_finding : GoodIn wsX5_content wsX5_finding := goodIn_r _ [13, 14, 15, 38, 39, 40, 41, 42, 43, 44] (by decide +kernel) (by decide +kernel)
set_option maxRecDepth 20000 in
theorem gX5_content_X5_finding : GoodIn wsX5_content (wsV RX5 55 RX5 yX5_finding wsX5_finding) := goodIn_app (goodIn_of _ (by decide +kernel)) ggX5_content_X5_finding
set_option maxRecDepth 20000 in
theorem ggX5_content_X1_isContent : GoodIn wsX5_content wsX1_isContent := goodIn_r _ [20, 21, 22, 23, 24, 19, 25, 26, 27, 28, 29, 30, 31, 32, 33, 34, 35, 36, 37, 49, 50, 51, 52, 53, 54, 55, 56, 57, 58] (by decide +kernel) (by decide +kernel)
set_option maxRecDepth 20000 in
theorem gX5_content_X1_isContent : GoodIn wsX5_content (wsV RX5 112 RX1 yX1_isContent wsX1_isContent) := goodIn_app (goodIn_of _ (by decide +kernel)) ggX5_content_X1_isContent
theorem dX5_content_0 : decode cX5_content 0 = .ok (.iload_n 1, 1) := by decide +kernel
theorem dX5_content_1 : decode cX5_content 1 = .ok (.invokestatic 65, 3) := by decide +kernel
theorem dX5_content_4 : decode cX5_content 4 = .ok (.ifCond .ne 9, 3) := by decide +kernel
theorem dX5_content_7 : decode cX5_content 7 = .ok (.aload_n 0, 1) := by decide +kernel
theorem dX5_content_8 : decode cX5_content 8 = .ok (.iconst 0, 1) := by decide +kernel
theorem dX5_content_9 : decode cX5_content 9 = .ok (.invokevirtual 55, 3) := by decide +kernel
theorem dX5_content_12 : decode cX5_content 12 = .ok (.ireturn, 1) := by decide +kernel
theorem dX5_content_13 : decode cX5_content 13 = .ok (.aload_n 0, 1) := by decide +kernel
theorem dX5_content_14 : decode cX5_content 14 = .ok (.getfield 10, 3) := by decide +kernel
theorem dX5_content_17 : decode cX5_content 17 = .ok (.getfield 59, 3) := by decide +kernel
theorem dX5_content_20 : decode cX5_content 20 = .ok (.iload_n 1, 1) := by decide +kernel
theorem dX5_content_21 : decode cX5_content 21 = .ok (.invokevirtual 112, 3) := by decide +kernel
theorem dX5_content_24 : decode cX5_content 24 = .ok (.ifCond .eq 7, 3) := by decide +kernel
theorem dX5_content_27 : decode cX5_content 27 = .ok (.iconst 1, 1) := by decide +kernel
theorem dX5_content_28 : decode cX5_content 28 = .ok (.goto 4, 3) := by decide +kernel
theorem dX5_content_31 : decode cX5_content 31 = .ok (.iconst 0, 1) := by decide +kernel
theorem dX5_content_32 : decode cX5_content 32 = .ok (.ireturn, 1) := by decide +kernel
set_option maxRecDepth 20000 in
theorem ggX5_does_X5_isSide : GoodIn wsX5_does wsX5_isSide := goodIn_r _ [6, 7, 8, 5, 9] (by decide +kernel) (by decide +kernel)
set_option maxRecDepth 20000 in
theorem gX5_does_X5_isSide : GoodIn wsX5_does (va_wsS RX5 65 yX5_isSide wsX5_isSide) := goodIn_app (goodIn_of _ (by decide +kernel)) ggX5_does_X5_isSide
set_option maxRecDepth 20000 in
theorem ggX5_does_X5_finding : GoodIn wsX5_does wsX5_finding := goodIn_r _ [13, 14, 15, 43, 44, 45, 46, 47, 48, 49] (by decide +kernel) (by decide +kernel)
set_option maxRecDepth 20000 in
theorem gX5_does_X5_finding : GoodIn wsX5_does (wsV RX5 55 RX5 yX5_finding wsX5_finding) := goodIn_app (goodIn_of _ (by decide +kernel)) ggX5_does_X5_finding
set_option maxRecDepth 20000 in
theorem ggX5_does_X1_deedOf : GoodIn wsX5_does wsX1_deedOf := goodIn_r _ [20, 21, 22, 23, 24, 19, 25, 26, 27, 28, 29, 30, 31, 32, 33, 34, 35, 36, 37, 38, 39, 40, 41, 42, 54, 55, 56, 57, 58, 59, 60, 61, 62, 63] (by decide +kernel) (by decide +kernel)
set_option maxRecDepth 20000 in
theorem gX5_does_X1_deedOf : GoodIn wsX5_does (wsV RX5 115 RX1 yX1_deedOf wsX1_deedOf) := goodIn_app (goodIn_of _ (by decide +kernel)) ggX5_does_X1_deedOf
theorem dX5_does_0 : decode cX5_does 0 = .ok (.iload_n 1, 1) := by decide +kernel
theorem dX5_does_1 : decode cX5_does 1 = .ok (.invokestatic 65, 3) := by decide +kernel
theorem dX5_does_4 : decode cX5_does 4 = .ok (.ifCond .ne 9, 3) := by decide +kernel
theorem dX5_does_7 : decode cX5_does 7 = .ok (.aload_n 0, 1) := by decide +kernel
theorem dX5_does_8 : decode cX5_does 8 = .ok (.iconst 0, 1) := by decide +kernel
theorem dX5_does_9 : decode cX5_does 9 = .ok (.invokevirtual 55, 3) := by decide +kernel
theorem dX5_does_12 : decode cX5_does 12 = .ok (.ireturn, 1) := by decide +kernel
theorem dX5_does_13 : decode cX5_does 13 = .ok (.aload_n 0, 1) := by decide +kernel
theorem dX5_does_14 : decode cX5_does 14 = .ok (.getfield 10, 3) := by decide +kernel
theorem dX5_does_17 : decode cX5_does 17 = .ok (.getfield 59, 3) := by decide +kernel
theorem dX5_does_20 : decode cX5_does 20 = .ok (.iload_n 1, 1) := by decide +kernel
theorem dX5_does_21 : decode cX5_does 21 = .ok (.invokevirtual 115, 3) := by decide +kernel
theorem dX5_does_24 : decode cX5_does 24 = .ok (.ireturn, 1) := by decide +kernel
set_option maxRecDepth 20000 in
theorem ggX5_less_X5_isSide : GoodIn wsX5_less wsX5_isSide := goodIn_r _ [6, 7, 8, 5, 9] (by decide +kernel) (by decide +kernel)
set_option maxRecDepth 20000 in
theorem gX5_less_X5_isSide : GoodIn wsX5_less (va_wsS RX5 65 yX5_isSide wsX5_isSide) := goodIn_app (goodIn_of _ (by decide +kernel)) ggX5_less_X5_isSide
set_option maxRecDepth 20000 in
theorem ggX5_less_X5_finding : GoodIn wsX5_less wsX5_finding := goodIn_r _ [13, 14, 15, 47, 48, 49, 50, 51, 52, 53] (by decide +kernel) (by decide +kernel)
set_option maxRecDepth 20000 in
theorem gX5_less_X5_finding : GoodIn wsX5_less (wsV RX5 55 RX5 yX5_finding wsX5_finding) := goodIn_app (goodIn_of _ (by decide +kernel)) ggX5_less_X5_finding
set_option maxRecDepth 20000 in
theorem ggX5_less_X1_deedOf : GoodIn wsX5_less wsX1_deedOf := goodIn_r _ [20, 21, 22, 23, 24, 19, 25, 26, 27, 28, 29, 30, 31, 32, 33, 34, 35, 36, 37, 38, 39, 40, 41, 42, 58, 59, 60, 61, 62, 63, 64, 65, 66, 67] (by decide +kernel) (by decide +kernel)
set_option maxRecDepth 20000 in
theorem gX5_less_X1_deedOf : GoodIn wsX5_less (wsV RX5 115 RX1 yX1_deedOf wsX1_deedOf) := goodIn_app (goodIn_of _ (by decide +kernel)) ggX5_less_X1_deedOf
set_option maxRecDepth 20000 in
theorem ggX5_less_X1_dearestLast : GoodIn wsX5_less wsX1_dearestLast := goodIn_r _ [46, 26, 36, 37, 38, 19, 39, 40, 41, 42, 58, 59, 60, 61, 62, 63, 64, 65, 66, 67] (by decide +kernel) (by decide +kernel)
set_option maxRecDepth 20000 in
theorem gX5_less_X1_dearestLast : GoodIn wsX5_less (wsV RX5 118 RX1 yX1_dearestLast wsX1_dearestLast) := goodIn_app (goodIn_of _ (by decide +kernel)) ggX5_less_X1_dearestLast
theorem dX5_less_0 : decode cX5_less 0 = .ok (.iload_n 1, 1) := by decide +kernel
theorem dX5_less_1 : decode cX5_less 1 = .ok (.invokestatic 65, 3) := by decide +kernel
theorem dX5_less_4 : decode cX5_less 4 = .ok (.ifCond .ne 9, 3) := by decide +kernel
theorem dX5_less_7 : decode cX5_less 7 = .ok (.aload_n 0, 1) := by decide +kernel
theorem dX5_less_8 : decode cX5_less 8 = .ok (.iconst 0, 1) := by decide +kernel
theorem dX5_less_9 : decode cX5_less 9 = .ok (.invokevirtual 55, 3) := by decide +kernel
theorem dX5_less_12 : decode cX5_less 12 = .ok (.ireturn, 1) := by decide +kernel
theorem dX5_less_13 : decode cX5_less 13 = .ok (.aload_n 0, 1) := by decide +kernel
theorem dX5_less_14 : decode cX5_less 14 = .ok (.getfield 10, 3) := by decide +kernel
theorem dX5_less_17 : decode cX5_less 17 = .ok (.getfield 59, 3) := by decide +kernel
theorem dX5_less_20 : decode cX5_less 20 = .ok (.iload_n 1, 1) := by decide +kernel
theorem dX5_less_21 : decode cX5_less 21 = .ok (.invokevirtual 115, 3) := by decide +kernel
theorem dX5_less_24 : decode cX5_less 24 = .ok (.iconst 2, 1) := by decide +kernel
theorem dX5_less_25 : decode cX5_less 25 = .ok (.if_icmp .eq 9, 3) := by decide +kernel
theorem dX5_less_28 : decode cX5_less 28 = .ok (.aload_n 0, 1) := by decide +kernel
theorem dX5_less_29 : decode cX5_less 29 = .ok (.iconst 3, 1) := by decide +kernel
theorem dX5_less_30 : decode cX5_less 30 = .ok (.invokevirtual 55, 3) := by decide +kernel
theorem dX5_less_33 : decode cX5_less 33 = .ok (.ireturn, 1) := by decide +kernel
theorem dX5_less_34 : decode cX5_less 34 = .ok (.aload_n 0, 1) := by decide +kernel
theorem dX5_less_35 : decode cX5_less 35 = .ok (.getfield 10, 3) := by decide +kernel
theorem dX5_less_38 : decode cX5_less 38 = .ok (.getfield 59, 3) := by decide +kernel
theorem dX5_less_41 : decode cX5_less 41 = .ok (.iload_n 1, 1) := by decide +kernel
theorem dX5_less_42 : decode cX5_less 42 = .ok (.invokevirtual 118, 3) := by decide +kernel
theorem dX5_less_45 : decode cX5_less 45 = .ok (.ireturn, 1) := by decide +kernel
set_option maxRecDepth 20000 in
theorem ggX5_steal_X5_isSide : GoodIn wsX5_steal wsX5_isSide := goodIn_r _ [7, 8, 9, 6, 10] (by decide +kernel) (by decide +kernel)
set_option maxRecDepth 20000 in
theorem gX5_steal_X5_isSide : GoodIn wsX5_steal (va_wsS RX5 65 yX5_isSide wsX5_isSide) := goodIn_app (goodIn_of _ (by decide +kernel)) ggX5_steal_X5_isSide
set_option maxRecDepth 20000 in
theorem ggX5_steal_X5_finding : GoodIn wsX5_steal wsX5_finding := goodIn_r _ [14, 15, 16, 47, 48, 49, 50, 51, 52, 53] (by decide +kernel) (by decide +kernel)
set_option maxRecDepth 20000 in
theorem gX5_steal_X5_finding : GoodIn wsX5_steal (wsV RX5 55 RX5 yX5_finding wsX5_finding) := goodIn_app (goodIn_of _ (by decide +kernel)) ggX5_steal_X5_finding
set_option maxRecDepth 20000 in
theorem ggX5_steal_X1_heapCount : GoodIn wsX5_steal wsX1_heapCount := goodIn_r _ [21, 22, 58, 59, 60, 61, 62, 63, 64, 65, 66, 67] (by decide +kernel) (by decide +kernel)
set_option maxRecDepth 20000 in
theorem gX5_steal_X1_heapCount : GoodIn wsX5_steal (wsV RX5 121 RX1 yX1_heapCount wsX1_heapCount) := goodIn_app (goodIn_of _ (by decide +kernel)) ggX5_steal_X1_heapCount
set_option maxRecDepth 20000 in
theorem ggX5_steal_X1_heapValue : GoodIn wsX5_steal wsX1_heapValue := goodIn_r _ [26, 22, 27, 28, 29, 20, 30, 31, 32, 33, 58, 59, 60, 61, 62, 63, 64, 65, 66, 67] (by decide +kernel) (by decide +kernel)
set_option maxRecDepth 20000 in
theorem gX5_steal_X1_heapValue : GoodIn wsX5_steal (wsV RX5 93 RX1 yX1_heapValue wsX1_heapValue) := goodIn_app (goodIn_of _ (by decide +kernel)) ggX5_steal_X1_heapValue
set_option maxRecDepth 20000 in
theorem ggX5_steal_X1_bringHome : GoodIn wsX5_steal wsX1_bringHome := goodIn_r _ [37, 22, 38, 39, 40, 20, 41, 42, 43, 44, 45, 46, 58, 59, 60, 61, 62, 63, 64, 65, 66, 67] (by decide +kernel) (by decide +kernel)
set_option maxRecDepth 20000 in
theorem gX5_steal_X1_bringHome : GoodIn wsX5_steal (wsV RX5 124 RX1 yX1_bringHome wsX1_bringHome) := goodIn_app (goodIn_of _ (by decide +kernel)) ggX5_steal_X1_bringHome
theorem dX5_steal_0 : decode cX5_steal 0 = .ok (.iload_n 1, 1) := by decide +kernel
theorem dX5_steal_1 : decode cX5_steal 1 = .ok (.invokestatic 65, 3) := by decide +kernel
theorem dX5_steal_4 : decode cX5_steal 4 = .ok (.ifCond .ne 9, 3) := by decide +kernel
theorem dX5_steal_7 : decode cX5_steal 7 = .ok (.aload_n 0, 1) := by decide +kernel
theorem dX5_steal_8 : decode cX5_steal 8 = .ok (.iconst 0, 1) := by decide +kernel
theorem dX5_steal_9 : decode cX5_steal 9 = .ok (.invokevirtual 55, 3) := by decide +kernel
theorem dX5_steal_12 : decode cX5_steal 12 = .ok (.ireturn, 1) := by decide +kernel
theorem dX5_steal_13 : decode cX5_steal 13 = .ok (.aload_n 0, 1) := by decide +kernel
theorem dX5_steal_14 : decode cX5_steal 14 = .ok (.getfield 10, 3) := by decide +kernel
theorem dX5_steal_17 : decode cX5_steal 17 = .ok (.getfield 59, 3) := by decide +kernel
theorem dX5_steal_20 : decode cX5_steal 20 = .ok (.astore_n 2, 1) := by decide +kernel
theorem dX5_steal_21 : decode cX5_steal 21 = .ok (.iconst 1, 1) := by decide +kernel
theorem dX5_steal_22 : decode cX5_steal 22 = .ok (.iload_n 1, 1) := by decide +kernel
theorem dX5_steal_23 : decode cX5_steal 23 = .ok (.isub, 1) := by decide +kernel
theorem dX5_steal_24 : decode cX5_steal 24 = .ok (.istore_n 3, 1) := by decide +kernel
theorem dX5_steal_25 : decode cX5_steal 25 = .ok (.aload_n 2, 1) := by decide +kernel
theorem dX5_steal_26 : decode cX5_steal 26 = .ok (.iload_n 3, 1) := by decide +kernel
theorem dX5_steal_27 : decode cX5_steal 27 = .ok (.invokevirtual 121, 3) := by decide +kernel
theorem dX5_steal_30 : decode cX5_steal 30 = .ok (.ifCond .ne 9, 3) := by decide +kernel
theorem dX5_steal_33 : decode cX5_steal 33 = .ok (.aload_n 0, 1) := by decide +kernel
theorem dX5_steal_34 : decode cX5_steal 34 = .ok (.iconst 4, 1) := by decide +kernel
theorem dX5_steal_35 : decode cX5_steal 35 = .ok (.invokevirtual 55, 3) := by decide +kernel
theorem dX5_steal_38 : decode cX5_steal 38 = .ok (.ireturn, 1) := by decide +kernel
theorem dX5_steal_39 : decode cX5_steal 39 = .ok (.aload_n 2, 1) := by decide +kernel
theorem dX5_steal_40 : decode cX5_steal 40 = .ok (.iload_n 1, 1) := by decide +kernel
theorem dX5_steal_41 : decode cX5_steal 41 = .ok (.iload_n 3, 1) := by decide +kernel
theorem dX5_steal_42 : decode cX5_steal 42 = .ok (.invokevirtual 93, 3) := by decide +kernel
theorem dX5_steal_45 : decode cX5_steal 45 = .ok (.istore 4, 2) := by decide +kernel
theorem dX5_steal_47 : decode cX5_steal 47 = .ok (.aload_n 2, 1) := by decide +kernel
theorem dX5_steal_48 : decode cX5_steal 48 = .ok (.iload_n 3, 1) := by decide +kernel
theorem dX5_steal_49 : decode cX5_steal 49 = .ok (.iload_n 1, 1) := by decide +kernel
theorem dX5_steal_50 : decode cX5_steal 50 = .ok (.invokevirtual 124, 3) := by decide +kernel
theorem dX5_steal_53 : decode cX5_steal 53 = .ok (.aload_n 2, 1) := by decide +kernel
theorem dX5_steal_54 : decode cX5_steal 54 = .ok (.getfield 82, 3) := by decide +kernel
theorem dX5_steal_57 : decode cX5_steal 57 = .ok (.iload_n 3, 1) := by decide +kernel
theorem dX5_steal_58 : decode cX5_steal 58 = .ok (.iconst 0, 1) := by decide +kernel
theorem dX5_steal_59 : decode cX5_steal 59 = .ok (.iastore, 1) := by decide +kernel
theorem dX5_steal_60 : decode cX5_steal 60 = .ok (.iload 4, 2) := by decide +kernel
theorem dX5_steal_62 : decode cX5_steal 62 = .ok (.ireturn, 1) := by decide +kernel
set_option maxRecDepth 20000 in
theorem ggX5_gift_X5_isSide : GoodIn wsX5_gift wsX5_isSide := goodIn_r _ [8, 9, 10, 7, 11] (by decide +kernel) (by decide +kernel)
set_option maxRecDepth 20000 in
theorem gX5_gift_X5_isSide : GoodIn wsX5_gift (va_wsS RX5 65 yX5_isSide wsX5_isSide) := goodIn_app (goodIn_of _ (by decide +kernel)) ggX5_gift_X5_isSide
set_option maxRecDepth 20000 in
theorem ggX5_gift_X5_isThing : GoodIn wsX5_gift wsX5_isThing := goodIn_r _ [14, 9, 10, 7, 11] (by decide +kernel) (by decide +kernel)
set_option maxRecDepth 20000 in
theorem gX5_gift_X5_isThing : GoodIn wsX5_gift (va_wsS RX5 48 yX5_isThing wsX5_isThing) := goodIn_app (goodIn_of _ (by decide +kernel)) ggX5_gift_X5_isThing
set_option maxRecDepth 20000 in
theorem ggX5_gift_X5_isIn : GoodIn wsX5_gift wsX5_isIn := goodIn_r _ [11] (by decide +kernel) (by decide +kernel)
set_option maxRecDepth 20000 in
theorem gX5_gift_X5_isIn : GoodIn wsX5_gift (va_wsS RX5 68 yX5_isIn wsX5_isIn) := goodIn_app (goodIn_of _ (by decide +kernel)) ggX5_gift_X5_isIn
set_option maxRecDepth 20000 in
theorem ggX5_gift_X5_finding : GoodIn wsX5_gift wsX5_finding := goodIn_r _ [18, 19, 20, 36, 37, 38, 39, 40, 41, 42] (by decide +kernel) (by decide +kernel)
set_option maxRecDepth 20000 in
theorem gX5_gift_X5_finding : GoodIn wsX5_gift (wsV RX5 55 RX5 yX5_finding wsX5_finding) := goodIn_app (goodIn_of _ (by decide +kernel)) ggX5_gift_X5_finding
set_option maxRecDepth 20000 in
theorem ggX5_gift_X1_addHome : GoodIn wsX5_gift wsX1_addHome := goodIn_r _ [25, 26, 27, 28, 29, 30, 47, 48, 49, 50, 51, 52, 53, 54, 55, 56] (by decide +kernel) (by decide +kernel)
set_option maxRecDepth 20000 in
theorem gX5_gift_X1_addHome : GoodIn wsX5_gift (wsV RX5 128 RX1 yX1_addHome wsX1_addHome) := goodIn_app (goodIn_of _ (by decide +kernel)) ggX5_gift_X1_addHome
set_option maxRecDepth 20000 in
theorem ggX5_gift_X1_trustMore : GoodIn wsX5_gift wsX1_trustMore := goodIn_r _ [34, 35, 27, 28, 29, 30, 47, 48, 49, 50, 51, 52, 53, 54, 55, 56] (by decide +kernel) (by decide +kernel)
set_option maxRecDepth 20000 in
theorem gX5_gift_X1_trustMore : GoodIn wsX5_gift (wsV RX5 132 RX1 yX1_trustMore wsX1_trustMore) := goodIn_app (goodIn_of _ (by decide +kernel)) ggX5_gift_X1_trustMore
theorem dX5_gift_0 : decode cX5_gift 0 = .ok (.iload_n 1, 1) := by decide +kernel
theorem dX5_gift_1 : decode cX5_gift 1 = .ok (.invokestatic 65, 3) := by decide +kernel
theorem dX5_gift_4 : decode cX5_gift 4 = .ok (.ifCond .eq 20, 3) := by decide +kernel
theorem dX5_gift_7 : decode cX5_gift 7 = .ok (.iload_n 2, 1) := by decide +kernel
theorem dX5_gift_8 : decode cX5_gift 8 = .ok (.invokestatic 48, 3) := by decide +kernel
theorem dX5_gift_11 : decode cX5_gift 11 = .ok (.ifCond .eq 13, 3) := by decide +kernel
theorem dX5_gift_14 : decode cX5_gift 14 = .ok (.iload_n 3, 1) := by decide +kernel
theorem dX5_gift_15 : decode cX5_gift 15 = .ok (.iconst 1, 1) := by decide +kernel
theorem dX5_gift_16 : decode cX5_gift 16 = .ok (.bipush 99, 2) := by decide +kernel
theorem dX5_gift_18 : decode cX5_gift 18 = .ok (.invokestatic 68, 3) := by decide +kernel
theorem dX5_gift_21 : decode cX5_gift 21 = .ok (.ifCond .ne 9, 3) := by decide +kernel
theorem dX5_gift_24 : decode cX5_gift 24 = .ok (.aload_n 0, 1) := by decide +kernel
theorem dX5_gift_25 : decode cX5_gift 25 = .ok (.iconst 0, 1) := by decide +kernel
theorem dX5_gift_26 : decode cX5_gift 26 = .ok (.invokevirtual 55, 3) := by decide +kernel
theorem dX5_gift_29 : decode cX5_gift 29 = .ok (.ireturn, 1) := by decide +kernel
theorem dX5_gift_30 : decode cX5_gift 30 = .ok (.aload_n 0, 1) := by decide +kernel
theorem dX5_gift_31 : decode cX5_gift 31 = .ok (.getfield 10, 3) := by decide +kernel
theorem dX5_gift_34 : decode cX5_gift 34 = .ok (.getfield 59, 3) := by decide +kernel
theorem dX5_gift_37 : decode cX5_gift 37 = .ok (.astore 4, 2) := by decide +kernel
theorem dX5_gift_39 : decode cX5_gift 39 = .ok (.iconst 1, 1) := by decide +kernel
theorem dX5_gift_40 : decode cX5_gift 40 = .ok (.iload_n 1, 1) := by decide +kernel
theorem dX5_gift_41 : decode cX5_gift 41 = .ok (.isub, 1) := by decide +kernel
theorem dX5_gift_42 : decode cX5_gift 42 = .ok (.istore 5, 2) := by decide +kernel
theorem dX5_gift_44 : decode cX5_gift 44 = .ok (.aload 4, 2) := by decide +kernel
theorem dX5_gift_46 : decode cX5_gift 46 = .ok (.getfield 109, 3) := by decide +kernel
theorem dX5_gift_49 : decode cX5_gift 49 = .ok (.iload_n 1, 1) := by decide +kernel
theorem dX5_gift_50 : decode cX5_gift 50 = .ok (.iconst 5, 1) := by decide +kernel
theorem dX5_gift_51 : decode cX5_gift 51 = .ok (.imul, 1) := by decide +kernel
theorem dX5_gift_52 : decode cX5_gift 52 = .ok (.iload_n 2, 1) := by decide +kernel
theorem dX5_gift_53 : decode cX5_gift 53 = .ok (.iadd, 1) := by decide +kernel
theorem dX5_gift_54 : decode cX5_gift 54 = .ok (.iaload, 1) := by decide +kernel
theorem dX5_gift_55 : decode cX5_gift 55 = .ok (.iload_n 3, 1) := by decide +kernel
theorem dX5_gift_56 : decode cX5_gift 56 = .ok (.if_icmp .ge 9, 3) := by decide +kernel
theorem dX5_gift_59 : decode cX5_gift 59 = .ok (.aload_n 0, 1) := by decide +kernel
theorem dX5_gift_60 : decode cX5_gift 60 = .ok (.iconst 4, 1) := by decide +kernel
theorem dX5_gift_61 : decode cX5_gift 61 = .ok (.invokevirtual 55, 3) := by decide +kernel
theorem dX5_gift_64 : decode cX5_gift 64 = .ok (.ireturn, 1) := by decide +kernel
theorem dX5_gift_65 : decode cX5_gift 65 = .ok (.aload 4, 2) := by decide +kernel
theorem dX5_gift_67 : decode cX5_gift 67 = .ok (.getfield 109, 3) := by decide +kernel
theorem dX5_gift_70 : decode cX5_gift 70 = .ok (.iload_n 1, 1) := by decide +kernel
theorem dX5_gift_71 : decode cX5_gift 71 = .ok (.iconst 5, 1) := by decide +kernel
theorem dX5_gift_72 : decode cX5_gift 72 = .ok (.imul, 1) := by decide +kernel
theorem dX5_gift_73 : decode cX5_gift 73 = .ok (.iload_n 2, 1) := by decide +kernel
theorem dX5_gift_74 : decode cX5_gift 74 = .ok (.iadd, 1) := by decide +kernel
theorem dX5_gift_75 : decode cX5_gift 75 = .ok (.dup2, 1) := by decide +kernel
theorem dX5_gift_76 : decode cX5_gift 76 = .ok (.iaload, 1) := by decide +kernel
theorem dX5_gift_77 : decode cX5_gift 77 = .ok (.iload_n 3, 1) := by decide +kernel
theorem dX5_gift_78 : decode cX5_gift 78 = .ok (.isub, 1) := by decide +kernel
theorem dX5_gift_79 : decode cX5_gift 79 = .ok (.iastore, 1) := by decide +kernel
theorem dX5_gift_80 : decode cX5_gift 80 = .ok (.aload 4, 2) := by decide +kernel
theorem dX5_gift_82 : decode cX5_gift 82 = .ok (.iload 5, 2) := by decide +kernel
theorem dX5_gift_84 : decode cX5_gift 84 = .ok (.iload_n 2, 1) := by decide +kernel
theorem dX5_gift_85 : decode cX5_gift 85 = .ok (.iload_n 3, 1) := by decide +kernel
theorem dX5_gift_86 : decode cX5_gift 86 = .ok (.invokevirtual 128, 3) := by decide +kernel
theorem dX5_gift_89 : decode cX5_gift 89 = .ok (.aload 4, 2) := by decide +kernel
theorem dX5_gift_91 : decode cX5_gift 91 = .ok (.iload 5, 2) := by decide +kernel
theorem dX5_gift_93 : decode cX5_gift 93 = .ok (.invokevirtual 132, 3) := by decide +kernel
theorem dX5_gift_96 : decode cX5_gift 96 = .ok (.aload 4, 2) := by decide +kernel
theorem dX5_gift_98 : decode cX5_gift 98 = .ok (.getfield 82, 3) := by decide +kernel
theorem dX5_gift_101 : decode cX5_gift 101 = .ok (.iload 5, 2) := by decide +kernel
theorem dX5_gift_103 : decode cX5_gift 103 = .ok (.iaload, 1) := by decide +kernel
theorem dX5_gift_104 : decode cX5_gift 104 = .ok (.ireturn, 1) := by decide +kernel
set_option maxRecDepth 20000 in
theorem ggX5_nights_X5_isIn : GoodIn wsX5_nights wsX5_isIn := goodIn_r _ [4] (by decide +kernel) (by decide +kernel)
set_option maxRecDepth 20000 in
theorem gX5_nights_X5_isIn : GoodIn wsX5_nights (va_wsS RX5 68 yX5_isIn wsX5_isIn) := goodIn_app (goodIn_of _ (by decide +kernel)) ggX5_nights_X5_isIn
set_option maxRecDepth 20000 in
theorem ggX5_nights_X5_finding : GoodIn wsX5_nights wsX5_finding := goodIn_r _ [8, 9, 10, 114, 115, 116, 117, 118, 119, 120] (by decide +kernel) (by decide +kernel)
set_option maxRecDepth 20000 in
theorem gX5_nights_X5_finding : GoodIn wsX5_nights (wsV RX5 55 RX5 yX5_finding wsX5_finding) := goodIn_app (goodIn_of _ (by decide +kernel)) ggX5_nights_X5_finding
set_option maxRecDepth 20000 in
theorem ggX5_nights_X5_isTooLate : GoodIn wsX5_nights wsX5_isTooLate := goodIn_r _ [14, 15, 16, 17, 114, 115, 116, 117, 118, 119, 120, 121, 122, 123, 124, 125, 126, 127, 128, 129, 130, 131, 132, 133, 134] (by decide +kernel) (by decide +kernel)
set_option maxRecDepth 20000 in
theorem gX5_nights_X5_isTooLate : GoodIn wsX5_nights (wsV RX5 136 RX5 yX5_isTooLate wsX5_isTooLate) := goodIn_app (goodIn_of _ (by decide +kernel)) ggX5_nights_X5_isTooLate
set_option maxRecDepth 20000 in
theorem ggX5_nights_X5_goNights : GoodIn wsX5_nights wsX5_goNights := goodIn_r _ [21, 15, 16, 22, 23, 24, 25, 26, 27, 28, 29, 30, 31, 32, 33, 34, 35, 36, 37, 38, 39, 40, 41, 42, 43, 44, 45, 46, 47, 48, 49, 50, 51, 52, 53, 54, 55, 56, 57, 58, 59, 60, 61, 62, 63, 64, 65, 66, 67, 68, 69, 70, 71, 72, 73, 74, 75, 76, 77, 78, 79, 80, 81, 82, 83, 84, 85, 86, 87, 88, 89, 90, 91, 92, 93, 94, 95, 96, 97, 98, 99, 100, 101, 102, 103, 104, 105, 106, 107, 108, 109, 110, 111, 112, 113, 114, 115, 116, 117, 118, 119, 120, 121, 122, 123, 124, 125, 126, 127, 128, 129, 130, 131, 132, 133, 134, 135, 136, 137] (by decide +kernel) (by decide +kernel)
set_option maxRecDepth 20000 in
theorem gX5_nights_X5_goNights : GoodIn wsX5_nights (wsV RX5 139 RX5 yX5_goNights wsX5_goNights) := goodIn_app (goodIn_of _ (by decide +kernel)) ggX5_nights_X5_goNights
theorem dX5_nights_0 : decode cX5_nights 0 = .ok (.iload_n 1, 1) := by decide +kernel
theorem dX5_nights_1 : decode cX5_nights 1 = .ok (.iconst 1, 1) := by decide +kernel
theorem dX5_nights_2 : decode cX5_nights 2 = .ok (.bipush 60, 2) := by decide +kernel
theorem dX5_nights_4 : decode cX5_nights 4 = .ok (.invokestatic 68, 3) := by decide +kernel
theorem dX5_nights_7 : decode cX5_nights 7 = .ok (.ifCond .ne 9, 3) := by decide +kernel
theorem dX5_nights_10 : decode cX5_nights 10 = .ok (.aload_n 0, 1) := by decide +kernel
theorem dX5_nights_11 : decode cX5_nights 11 = .ok (.iconst 0, 1) := by decide +kernel
theorem dX5_nights_12 : decode cX5_nights 12 = .ok (.invokevirtual 55, 3) := by decide +kernel
theorem dX5_nights_15 : decode cX5_nights 15 = .ok (.ireturn, 1) := by decide +kernel
theorem dX5_nights_16 : decode cX5_nights 16 = .ok (.aload_n 0, 1) := by decide +kernel
theorem dX5_nights_17 : decode cX5_nights 17 = .ok (.iload_n 1, 1) := by decide +kernel
theorem dX5_nights_18 : decode cX5_nights 18 = .ok (.invokevirtual 136, 3) := by decide +kernel
theorem dX5_nights_21 : decode cX5_nights 21 = .ok (.ifCond .eq 9, 3) := by decide +kernel
theorem dX5_nights_24 : decode cX5_nights 24 = .ok (.aload_n 0, 1) := by decide +kernel
theorem dX5_nights_25 : decode cX5_nights 25 = .ok (.iconst 4, 1) := by decide +kernel
theorem dX5_nights_26 : decode cX5_nights 26 = .ok (.invokevirtual 55, 3) := by decide +kernel
theorem dX5_nights_29 : decode cX5_nights 29 = .ok (.ireturn, 1) := by decide +kernel
theorem dX5_nights_30 : decode cX5_nights 30 = .ok (.aload_n 0, 1) := by decide +kernel
theorem dX5_nights_31 : decode cX5_nights 31 = .ok (.iload_n 1, 1) := by decide +kernel
theorem dX5_nights_32 : decode cX5_nights 32 = .ok (.invokevirtual 139, 3) := by decide +kernel
theorem dX5_nights_35 : decode cX5_nights 35 = .ok (.ireturn, 1) := by decide +kernel
set_option maxRecDepth 20000 in
theorem ggX5_now_X1_heapCount : GoodIn wsX5_now wsX1_heapCount := goodIn_r _ [12, 13, 37, 38, 39, 40, 41, 42, 43, 44, 45, 46] (by decide +kernel) (by decide +kernel)
set_option maxRecDepth 20000 in
theorem gX5_now_X1_heapCount : GoodIn wsX5_now (wsV RX5 121 RX1 yX1_heapCount wsX1_heapCount) := goodIn_app (goodIn_of _ (by decide +kernel)) ggX5_now_X1_heapCount
set_option maxRecDepth 20000 in
theorem ggX5_now_X1_homeCount : GoodIn wsX5_now wsX1_homeCount := goodIn_r _ [17, 18, 37, 38, 39, 40, 41, 42, 43, 44, 45, 46] (by decide +kernel) (by decide +kernel)
set_option maxRecDepth 20000 in
theorem gX5_now_X1_homeCount : GoodIn wsX5_now (wsV RX5 145 RX1 yX1_homeCount wsX1_homeCount) := goodIn_app (goodIn_of _ (by decide +kernel)) ggX5_now_X1_homeCount
set_option maxRecDepth 20000 in
theorem ggX5_now_X5_finding : GoodIn wsX5_now wsX5_finding := goodIn_r _ [23, 24, 25, 26, 27, 28, 29, 30, 31, 32] (by decide +kernel) (by decide +kernel)
set_option maxRecDepth 20000 in
theorem gX5_now_X5_finding : GoodIn wsX5_now (wsV RX5 55 RX5 yX5_finding wsX5_finding) := goodIn_app (goodIn_of _ (by decide +kernel)) ggX5_now_X5_finding
theorem dX5_now_0 : decode cX5_now 0 = .ok (.aload_n 0, 1) := by decide +kernel
theorem dX5_now_1 : decode cX5_now 1 = .ok (.getfield 10, 3) := by decide +kernel
theorem dX5_now_4 : decode cX5_now 4 = .ok (.getfield 59, 3) := by decide +kernel
theorem dX5_now_7 : decode cX5_now 7 = .ok (.astore_n 2, 1) := by decide +kernel
theorem dX5_now_8 : decode cX5_now 8 = .ok (.iload_n 1, 1) := by decide +kernel
theorem dX5_now_9 : decode cX5_now 9 = .ok (.tableswitch 86 0 6 #[43, 48, 54, 60, 65, 76, 81], 43) := by decide +kernel
theorem dX5_now_52 : decode cX5_now 52 = .ok (.aload_n 2, 1) := by decide +kernel
theorem dX5_now_53 : decode cX5_now 53 = .ok (.getfield 142, 3) := by decide +kernel
theorem dX5_now_56 : decode cX5_now 56 = .ok (.ireturn, 1) := by decide +kernel
theorem dX5_now_57 : decode cX5_now 57 = .ok (.aload_n 2, 1) := by decide +kernel
theorem dX5_now_58 : decode cX5_now 58 = .ok (.iconst 0, 1) := by decide +kernel
theorem dX5_now_59 : decode cX5_now 59 = .ok (.invokevirtual 121, 3) := by decide +kernel
theorem dX5_now_62 : decode cX5_now 62 = .ok (.ireturn, 1) := by decide +kernel
theorem dX5_now_63 : decode cX5_now 63 = .ok (.aload_n 2, 1) := by decide +kernel
theorem dX5_now_64 : decode cX5_now 64 = .ok (.iconst 1, 1) := by decide +kernel
theorem dX5_now_65 : decode cX5_now 65 = .ok (.invokevirtual 121, 3) := by decide +kernel
theorem dX5_now_68 : decode cX5_now 68 = .ok (.ireturn, 1) := by decide +kernel
theorem dX5_now_69 : decode cX5_now 69 = .ok (.aload_n 2, 1) := by decide +kernel
theorem dX5_now_70 : decode cX5_now 70 = .ok (.invokevirtual 145, 3) := by decide +kernel
theorem dX5_now_73 : decode cX5_now 73 = .ok (.ireturn, 1) := by decide +kernel
theorem dX5_now_74 : decode cX5_now 74 = .ok (.aload_n 0, 1) := by decide +kernel
theorem dX5_now_75 : decode cX5_now 75 = .ok (.getfield 10, 3) := by decide +kernel
theorem dX5_now_78 : decode cX5_now 78 = .ok (.getfield 149, 3) := by decide +kernel
theorem dX5_now_81 : decode cX5_now 81 = .ok (.getfield 153, 3) := by decide +kernel
theorem dX5_now_84 : decode cX5_now 84 = .ok (.ireturn, 1) := by decide +kernel
theorem dX5_now_85 : decode cX5_now 85 = .ok (.aload_n 2, 1) := by decide +kernel
theorem dX5_now_86 : decode cX5_now 86 = .ok (.getfield 85, 3) := by decide +kernel
theorem dX5_now_89 : decode cX5_now 89 = .ok (.ireturn, 1) := by decide +kernel
theorem dX5_now_90 : decode cX5_now 90 = .ok (.aload_n 2, 1) := by decide +kernel
theorem dX5_now_91 : decode cX5_now 91 = .ok (.getfield 158, 3) := by decide +kernel
theorem dX5_now_94 : decode cX5_now 94 = .ok (.ireturn, 1) := by decide +kernel
theorem dX5_now_95 : decode cX5_now 95 = .ok (.aload_n 0, 1) := by decide +kernel
theorem dX5_now_96 : decode cX5_now 96 = .ok (.iconst 0, 1) := by decide +kernel
theorem dX5_now_97 : decode cX5_now 97 = .ok (.invokevirtual 55, 3) := by decide +kernel
theorem dX5_now_100 : decode cX5_now 100 = .ok (.ireturn, 1) := by decide +kernel
set_option maxRecDepth 20000 in
theorem ggX5_ahead_X5_isIn : GoodIn wsX5_ahead wsX5_isIn := goodIn_r _ [8] (by decide +kernel) (by decide +kernel)
set_option maxRecDepth 20000 in
theorem gX5_ahead_X5_isIn : GoodIn wsX5_ahead (va_wsS RX5 68 yX5_isIn wsX5_isIn) := goodIn_app (goodIn_of _ (by decide +kernel)) ggX5_ahead_X5_isIn
set_option maxRecDepth 20000 in
theorem ggX5_ahead_X5_finding : GoodIn wsX5_ahead wsX5_finding := goodIn_r _ [12, 13, 14, 112, 113, 114, 115, 116, 117, 118] (by decide +kernel) (by decide +kernel)
set_option maxRecDepth 20000 in
theorem gX5_ahead_X5_finding : GoodIn wsX5_ahead (wsV RX5 55 RX5 yX5_finding wsX5_finding) := goodIn_app (goodIn_of _ (by decide +kernel)) ggX5_ahead_X5_finding
set_option maxRecDepth 20000 in
theorem ggX5_ahead_X5_isTooLate : GoodIn wsX5_ahead wsX5_isTooLate := goodIn_r _ [18, 2, 3, 19, 112, 113, 114, 115, 116, 117, 118, 119, 120, 121, 122, 123, 124, 125, 126, 127, 128, 129, 130, 131, 132] (by decide +kernel) (by decide +kernel)
set_option maxRecDepth 20000 in
theorem gX5_ahead_X5_isTooLate : GoodIn wsX5_ahead (wsV RX5 136 RX5 yX5_isTooLate wsX5_isTooLate) := goodIn_app (goodIn_of _ (by decide +kernel)) ggX5_ahead_X5_isTooLate
set_option maxRecDepth 20000 in
theorem ggX5_ahead_X1_copyFrom : GoodIn wsX5_ahead wsX1_copyFrom := goodIn_r _ [24, 25, 26, 27, 28, 29, 30, 31, 32, 33, 34, 35, 36, 37, 38, 123, 124, 125, 126, 127, 128, 129, 130, 131, 132] (by decide +kernel) (by decide +kernel)
set_option maxRecDepth 20000 in
theorem gX5_ahead_X1_copyFrom : GoodIn wsX5_ahead (wsV RX5 161 RX1 yX1_copyFrom wsX1_copyFrom) := goodIn_app (goodIn_of _ (by decide +kernel)) ggX5_ahead_X1_copyFrom
set_option maxRecDepth 20000 in
theorem ggX5_ahead_X1_passNights : GoodIn wsX5_ahead wsX1_passNights := goodIn_r _ [42, 43, 44, 45, 23, 46, 36, 47, 48, 49, 50, 34, 51, 52, 53, 54, 31, 55, 56, 57, 58, 33, 59, 60, 61, 62, 63, 64, 65, 66, 32, 25, 35, 67, 68, 69, 70, 71, 72, 73, 74, 37, 75, 76, 77, 78, 79, 80, 81, 82, 30, 83, 84, 85, 86, 87, 88, 89, 90, 91, 92, 93, 94, 95, 96, 97, 98, 99, 100, 101, 102, 38, 103, 104, 105, 106, 123, 124, 125, 126, 127, 128, 129, 130, 131, 132] (by decide +kernel) (by decide +kernel)
set_option maxRecDepth 20000 in
theorem gX5_ahead_X1_passNights : GoodIn wsX5_ahead (wsV RX5 165 RX1 yX1_passNights wsX1_passNights) := goodIn_app (goodIn_of _ (by decide +kernel)) ggX5_ahead_X1_passNights
set_option maxRecDepth 20000 in
theorem ggX5_ahead_X1_heapCount : GoodIn wsX5_ahead wsX1_heapCount := goodIn_r _ [54, 31, 123, 124, 125, 126, 127, 128, 129, 130, 131, 132] (by decide +kernel) (by decide +kernel)
set_option maxRecDepth 20000 in
theorem gX5_ahead_X1_heapCount : GoodIn wsX5_ahead (wsV RX5 121 RX1 yX1_heapCount wsX1_heapCount) := goodIn_app (goodIn_of _ (by decide +kernel)) ggX5_ahead_X1_heapCount
set_option maxRecDepth 20000 in
theorem ggX5_ahead_X1_wealth : GoodIn wsX5_ahead wsX1_wealth := goodIn_r _ [111, 30, 31, 63, 64, 65, 23, 66, 32, 25, 35, 123, 124, 125, 126, 127, 128, 129, 130, 131, 132] (by decide +kernel) (by decide +kernel)
set_option maxRecDepth 20000 in
theorem gX5_ahead_X1_wealth : GoodIn wsX5_ahead (wsV RX5 171 RX1 yX1_wealth wsX1_wealth) := goodIn_app (goodIn_of _ (by decide +kernel)) ggX5_ahead_X1_wealth
theorem dX5_ahead_0 : decode cX5_ahead 0 = .ok (.iload_n 1, 1) := by decide +kernel
theorem dX5_ahead_1 : decode cX5_ahead 1 = .ok (.iconst 0, 1) := by decide +kernel
theorem dX5_ahead_2 : decode cX5_ahead 2 = .ok (.bipush 60, 2) := by decide +kernel
theorem dX5_ahead_4 : decode cX5_ahead 4 = .ok (.invokestatic 68, 3) := by decide +kernel
theorem dX5_ahead_7 : decode cX5_ahead 7 = .ok (.ifCond .eq 12, 3) := by decide +kernel
theorem dX5_ahead_10 : decode cX5_ahead 10 = .ok (.iload_n 2, 1) := by decide +kernel
theorem dX5_ahead_11 : decode cX5_ahead 11 = .ok (.iconst 0, 1) := by decide +kernel
theorem dX5_ahead_12 : decode cX5_ahead 12 = .ok (.iconst 4, 1) := by decide +kernel
theorem dX5_ahead_13 : decode cX5_ahead 13 = .ok (.invokestatic 68, 3) := by decide +kernel
theorem dX5_ahead_16 : decode cX5_ahead 16 = .ok (.ifCond .ne 9, 3) := by decide +kernel
theorem dX5_ahead_19 : decode cX5_ahead 19 = .ok (.aload_n 0, 1) := by decide +kernel
theorem dX5_ahead_20 : decode cX5_ahead 20 = .ok (.iconst 0, 1) := by decide +kernel
theorem dX5_ahead_21 : decode cX5_ahead 21 = .ok (.invokevirtual 55, 3) := by decide +kernel
theorem dX5_ahead_24 : decode cX5_ahead 24 = .ok (.ireturn, 1) := by decide +kernel
theorem dX5_ahead_25 : decode cX5_ahead 25 = .ok (.aload_n 0, 1) := by decide +kernel
theorem dX5_ahead_26 : decode cX5_ahead 26 = .ok (.iload_n 1, 1) := by decide +kernel
theorem dX5_ahead_27 : decode cX5_ahead 27 = .ok (.invokevirtual 136, 3) := by decide +kernel
theorem dX5_ahead_30 : decode cX5_ahead 30 = .ok (.ifCond .eq 9, 3) := by decide +kernel
theorem dX5_ahead_33 : decode cX5_ahead 33 = .ok (.aload_n 0, 1) := by decide +kernel
theorem dX5_ahead_34 : decode cX5_ahead 34 = .ok (.iconst 4, 1) := by decide +kernel
theorem dX5_ahead_35 : decode cX5_ahead 35 = .ok (.invokevirtual 55, 3) := by decide +kernel
theorem dX5_ahead_38 : decode cX5_ahead 38 = .ok (.ireturn, 1) := by decide +kernel
theorem dX5_ahead_39 : decode cX5_ahead 39 = .ok (.aload_n 0, 1) := by decide +kernel
theorem dX5_ahead_40 : decode cX5_ahead 40 = .ok (.getfield 26, 3) := by decide +kernel
theorem dX5_ahead_43 : decode cX5_ahead 43 = .ok (.aload_n 0, 1) := by decide +kernel
theorem dX5_ahead_44 : decode cX5_ahead 44 = .ok (.getfield 10, 3) := by decide +kernel
theorem dX5_ahead_47 : decode cX5_ahead 47 = .ok (.getfield 59, 3) := by decide +kernel
theorem dX5_ahead_50 : decode cX5_ahead 50 = .ok (.invokevirtual 161, 3) := by decide +kernel
theorem dX5_ahead_53 : decode cX5_ahead 53 = .ok (.aload_n 0, 1) := by decide +kernel
theorem dX5_ahead_54 : decode cX5_ahead 54 = .ok (.getfield 26, 3) := by decide +kernel
theorem dX5_ahead_57 : decode cX5_ahead 57 = .ok (.iload_n 1, 1) := by decide +kernel
theorem dX5_ahead_58 : decode cX5_ahead 58 = .ok (.invokevirtual 165, 3) := by decide +kernel
theorem dX5_ahead_61 : decode cX5_ahead 61 = .ok (.istore_n 3, 1) := by decide +kernel
theorem dX5_ahead_62 : decode cX5_ahead 62 = .ok (.iload_n 2, 1) := by decide +kernel
theorem dX5_ahead_63 : decode cX5_ahead 63 = .ok (.tableswitch 64 0 2 #[25, 27, 45], 25) := by decide +kernel
theorem dX5_ahead_88 : decode cX5_ahead 88 = .ok (.iload_n 3, 1) := by decide +kernel
theorem dX5_ahead_89 : decode cX5_ahead 89 = .ok (.ireturn, 1) := by decide +kernel
theorem dX5_ahead_90 : decode cX5_ahead 90 = .ok (.aload_n 0, 1) := by decide +kernel
theorem dX5_ahead_91 : decode cX5_ahead 91 = .ok (.getfield 26, 3) := by decide +kernel
theorem dX5_ahead_94 : decode cX5_ahead 94 = .ok (.iconst 0, 1) := by decide +kernel
theorem dX5_ahead_95 : decode cX5_ahead 95 = .ok (.invokevirtual 121, 3) := by decide +kernel
theorem dX5_ahead_98 : decode cX5_ahead 98 = .ok (.aload_n 0, 1) := by decide +kernel
theorem dX5_ahead_99 : decode cX5_ahead 99 = .ok (.getfield 26, 3) := by decide +kernel
theorem dX5_ahead_102 : decode cX5_ahead 102 = .ok (.iconst 1, 1) := by decide +kernel
theorem dX5_ahead_103 : decode cX5_ahead 103 = .ok (.invokevirtual 121, 3) := by decide +kernel
theorem dX5_ahead_106 : decode cX5_ahead 106 = .ok (.iadd, 1) := by decide +kernel
theorem dX5_ahead_107 : decode cX5_ahead 107 = .ok (.ireturn, 1) := by decide +kernel
theorem dX5_ahead_108 : decode cX5_ahead 108 = .ok (.aload_n 0, 1) := by decide +kernel
theorem dX5_ahead_109 : decode cX5_ahead 109 = .ok (.getfield 26, 3) := by decide +kernel
theorem dX5_ahead_112 : decode cX5_ahead 112 = .ok (.getfield 168, 3) := by decide +kernel
theorem dX5_ahead_115 : decode cX5_ahead 115 = .ok (.aload_n 0, 1) := by decide +kernel
theorem dX5_ahead_116 : decode cX5_ahead 116 = .ok (.getfield 10, 3) := by decide +kernel
theorem dX5_ahead_119 : decode cX5_ahead 119 = .ok (.getfield 59, 3) := by decide +kernel
theorem dX5_ahead_122 : decode cX5_ahead 122 = .ok (.getfield 168, 3) := by decide +kernel
theorem dX5_ahead_125 : decode cX5_ahead 125 = .ok (.isub, 1) := by decide +kernel
theorem dX5_ahead_126 : decode cX5_ahead 126 = .ok (.ireturn, 1) := by decide +kernel
theorem dX5_ahead_127 : decode cX5_ahead 127 = .ok (.aload_n 0, 1) := by decide +kernel
theorem dX5_ahead_128 : decode cX5_ahead 128 = .ok (.getfield 26, 3) := by decide +kernel
theorem dX5_ahead_131 : decode cX5_ahead 131 = .ok (.iload_n 2, 1) := by decide +kernel
theorem dX5_ahead_132 : decode cX5_ahead 132 = .ok (.iconst 3, 1) := by decide +kernel
theorem dX5_ahead_133 : decode cX5_ahead 133 = .ok (.isub, 1) := by decide +kernel
theorem dX5_ahead_134 : decode cX5_ahead 134 = .ok (.invokevirtual 171, 3) := by decide +kernel
theorem dX5_ahead_137 : decode cX5_ahead 137 = .ok (.aload_n 0, 1) := by decide +kernel
theorem dX5_ahead_138 : decode cX5_ahead 138 = .ok (.getfield 10, 3) := by decide +kernel
theorem dX5_ahead_141 : decode cX5_ahead 141 = .ok (.getfield 59, 3) := by decide +kernel
theorem dX5_ahead_144 : decode cX5_ahead 144 = .ok (.iload_n 2, 1) := by decide +kernel
theorem dX5_ahead_145 : decode cX5_ahead 145 = .ok (.iconst 3, 1) := by decide +kernel
theorem dX5_ahead_146 : decode cX5_ahead 146 = .ok (.isub, 1) := by decide +kernel
theorem dX5_ahead_147 : decode cX5_ahead 147 = .ok (.invokevirtual 171, 3) := by decide +kernel
theorem dX5_ahead_150 : decode cX5_ahead 150 = .ok (.isub, 1) := by decide +kernel
theorem dX5_ahead_151 : decode cX5_ahead 151 = .ok (.ireturn, 1) := by decide +kernel
set_option maxRecDepth 20000 in
theorem ggX5_struck_X5_isTooLate : GoodIn wsX5_struck wsX5_isTooLate := goodIn_r _ [8, 2, 3, 9, 103, 104, 105, 106, 107, 108, 109, 110, 111, 112, 113, 114, 115, 116, 117, 118, 119, 120, 121, 122, 123] (by decide +kernel) (by decide +kernel)
set_option maxRecDepth 20000 in
theorem gX5_struck_X5_isTooLate : GoodIn wsX5_struck (wsV RX5 136 RX5 yX5_isTooLate wsX5_isTooLate) := goodIn_app (goodIn_of _ (by decide +kernel)) ggX5_struck_X5_isTooLate
set_option maxRecDepth 20000 in
theorem ggX5_struck_X5_finding : GoodIn wsX5_struck wsX5_finding := goodIn_r _ [13, 14, 15, 103, 104, 105, 106, 107, 108, 109] (by decide +kernel) (by decide +kernel)
set_option maxRecDepth 20000 in
theorem gX5_struck_X5_finding : GoodIn wsX5_struck (wsV RX5 55 RX5 yX5_finding wsX5_finding) := goodIn_app (goodIn_of _ (by decide +kernel)) ggX5_struck_X5_finding
set_option maxRecDepth 20000 in
theorem ggX5_struck_X1_copyFrom : GoodIn wsX5_struck wsX1_copyFrom := goodIn_r _ [20, 21, 22, 23, 24, 25, 26, 27, 28, 29, 30, 31, 32, 33, 34, 114, 115, 116, 117, 118, 119, 120, 121, 122, 123] (by decide +kernel) (by decide +kernel)
set_option maxRecDepth 20000 in
theorem gX5_struck_X1_copyFrom : GoodIn wsX5_struck (wsV RX5 161 RX1 yX1_copyFrom wsX1_copyFrom) := goodIn_app (goodIn_of _ (by decide +kernel)) ggX5_struck_X1_copyFrom
set_option maxRecDepth 20000 in
theorem ggX5_struck_X1_passNights : GoodIn wsX5_struck wsX1_passNights := goodIn_r _ [38, 39, 40, 41, 19, 42, 32, 43, 44, 45, 46, 30, 47, 48, 49, 50, 27, 51, 52, 53, 54, 29, 55, 56, 57, 58, 59, 60, 61, 62, 28, 21, 31, 63, 64, 65, 66, 67, 68, 69, 70, 33, 71, 72, 73, 74, 75, 76, 77, 78, 26, 79, 80, 81, 82, 83, 84, 85, 86, 87, 88, 89, 90, 91, 92, 93, 94, 95, 96, 97, 98, 34, 99, 100, 101, 102, 114, 115, 116, 117, 118, 119, 120, 121, 122, 123] (by decide +kernel) (by decide +kernel)
set_option maxRecDepth 20000 in
theorem gX5_struck_X1_passNights : GoodIn wsX5_struck (wsV RX5 165 RX1 yX1_passNights wsX1_passNights) := goodIn_app (goodIn_of _ (by decide +kernel)) ggX5_struck_X1_passNights
theorem dX5_struck_0 : decode cX5_struck 0 = .ok (.aload_n 0, 1) := by decide +kernel
theorem dX5_struck_1 : decode cX5_struck 1 = .ok (.bipush 60, 2) := by decide +kernel
theorem dX5_struck_3 : decode cX5_struck 3 = .ok (.invokevirtual 136, 3) := by decide +kernel
theorem dX5_struck_6 : decode cX5_struck 6 = .ok (.ifCond .eq 9, 3) := by decide +kernel
theorem dX5_struck_9 : decode cX5_struck 9 = .ok (.aload_n 0, 1) := by decide +kernel
theorem dX5_struck_10 : decode cX5_struck 10 = .ok (.iconst 4, 1) := by decide +kernel
theorem dX5_struck_11 : decode cX5_struck 11 = .ok (.invokevirtual 55, 3) := by decide +kernel
theorem dX5_struck_14 : decode cX5_struck 14 = .ok (.ireturn, 1) := by decide +kernel
theorem dX5_struck_15 : decode cX5_struck 15 = .ok (.aload_n 0, 1) := by decide +kernel
theorem dX5_struck_16 : decode cX5_struck 16 = .ok (.getfield 26, 3) := by decide +kernel
theorem dX5_struck_19 : decode cX5_struck 19 = .ok (.aload_n 0, 1) := by decide +kernel
theorem dX5_struck_20 : decode cX5_struck 20 = .ok (.getfield 10, 3) := by decide +kernel
theorem dX5_struck_23 : decode cX5_struck 23 = .ok (.getfield 59, 3) := by decide +kernel
theorem dX5_struck_26 : decode cX5_struck 26 = .ok (.invokevirtual 161, 3) := by decide +kernel
theorem dX5_struck_29 : decode cX5_struck 29 = .ok (.iconst 1, 1) := by decide +kernel
theorem dX5_struck_30 : decode cX5_struck 30 = .ok (.istore_n 1, 1) := by decide +kernel
theorem dX5_struck_31 : decode cX5_struck 31 = .ok (.iload_n 1, 1) := by decide +kernel
theorem dX5_struck_32 : decode cX5_struck 32 = .ok (.bipush 60, 2) := by decide +kernel
theorem dX5_struck_34 : decode cX5_struck 34 = .ok (.if_icmp .gt 23, 3) := by decide +kernel
theorem dX5_struck_37 : decode cX5_struck 37 = .ok (.aload_n 0, 1) := by decide +kernel
theorem dX5_struck_38 : decode cX5_struck 38 = .ok (.getfield 26, 3) := by decide +kernel
theorem dX5_struck_41 : decode cX5_struck 41 = .ok (.iconst 1, 1) := by decide +kernel
theorem dX5_struck_42 : decode cX5_struck 42 = .ok (.invokevirtual 165, 3) := by decide +kernel
theorem dX5_struck_45 : decode cX5_struck 45 = .ok (.iconst 1, 1) := by decide +kernel
theorem dX5_struck_46 : decode cX5_struck 46 = .ok (.if_icmp .ne 5, 3) := by decide +kernel
theorem dX5_struck_49 : decode cX5_struck 49 = .ok (.iload_n 1, 1) := by decide +kernel
theorem dX5_struck_50 : decode cX5_struck 50 = .ok (.ireturn, 1) := by decide +kernel
theorem dX5_struck_51 : decode cX5_struck 51 = .ok (.iinc 1 1, 3) := by decide +kernel
theorem dX5_struck_54 : decode cX5_struck 54 = .ok (.goto (-23), 3) := by decide +kernel
theorem dX5_struck_57 : decode cX5_struck 57 = .ok (.aload_n 0, 1) := by decide +kernel
theorem dX5_struck_58 : decode cX5_struck 58 = .ok (.iconst 3, 1) := by decide +kernel
theorem dX5_struck_59 : decode cX5_struck 59 = .ok (.invokevirtual 55, 3) := by decide +kernel
theorem dX5_struck_62 : decode cX5_struck 62 = .ok (.ireturn, 1) := by decide +kernel
set_option maxRecDepth 20000 in
theorem ggX5_empty_X5_isTooLate : GoodIn wsX5_empty wsX5_isTooLate := goodIn_r _ [8, 2, 3, 9, 104, 105, 106, 107, 108, 109, 110, 111, 112, 113, 114, 115, 116, 117, 118, 119, 120, 121, 122, 123, 124] (by decide +kernel) (by decide +kernel)
set_option maxRecDepth 20000 in
theorem gX5_empty_X5_isTooLate : GoodIn wsX5_empty (wsV RX5 136 RX5 yX5_isTooLate wsX5_isTooLate) := goodIn_app (goodIn_of _ (by decide +kernel)) ggX5_empty_X5_isTooLate
set_option maxRecDepth 20000 in
theorem ggX5_empty_X5_finding : GoodIn wsX5_empty wsX5_finding := goodIn_r _ [13, 14, 15, 104, 105, 106, 107, 108, 109, 110] (by decide +kernel) (by decide +kernel)
set_option maxRecDepth 20000 in
theorem gX5_empty_X5_finding : GoodIn wsX5_empty (wsV RX5 55 RX5 yX5_finding wsX5_finding) := goodIn_app (goodIn_of _ (by decide +kernel)) ggX5_empty_X5_finding
set_option maxRecDepth 20000 in
theorem ggX5_empty_X1_copyFrom : GoodIn wsX5_empty wsX1_copyFrom := goodIn_r _ [20, 21, 22, 23, 24, 25, 26, 27, 28, 29, 30, 31, 32, 33, 34, 115, 116, 117, 118, 119, 120, 121, 122, 123, 124] (by decide +kernel) (by decide +kernel)
set_option maxRecDepth 20000 in
theorem gX5_empty_X1_copyFrom : GoodIn wsX5_empty (wsV RX5 161 RX1 yX1_copyFrom wsX1_copyFrom) := goodIn_app (goodIn_of _ (by decide +kernel)) ggX5_empty_X1_copyFrom
set_option maxRecDepth 20000 in
theorem ggX5_empty_X1_heapCount : GoodIn wsX5_empty wsX1_heapCount := goodIn_r _ [38, 27, 115, 116, 117, 118, 119, 120, 121, 122, 123, 124] (by decide +kernel) (by decide +kernel)
set_option maxRecDepth 20000 in
theorem gX5_empty_X1_heapCount : GoodIn wsX5_empty (wsV RX5 121 RX1 yX1_heapCount wsX1_heapCount) := goodIn_app (goodIn_of _ (by decide +kernel)) ggX5_empty_X1_heapCount
set_option maxRecDepth 20000 in
theorem ggX5_empty_X1_passNights : GoodIn wsX5_empty wsX1_passNights := goodIn_r _ [42, 43, 44, 45, 19, 46, 32, 47, 48, 49, 50, 30, 51, 36, 37, 38, 27, 52, 53, 54, 55, 29, 56, 57, 58, 59, 60, 61, 62, 63, 28, 21, 31, 64, 65, 66, 67, 68, 69, 70, 71, 33, 72, 73, 74, 75, 76, 77, 78, 79, 26, 80, 81, 82, 83, 84, 85, 86, 87, 88, 89, 90, 91, 92, 93, 94, 95, 96, 97, 98, 99, 34, 100, 101, 102, 103, 115, 116, 117, 118, 119, 120, 121, 122, 123, 124] (by decide +kernel) (by decide +kernel)
set_option maxRecDepth 20000 in
theorem gX5_empty_X1_passNights : GoodIn wsX5_empty (wsV RX5 165 RX1 yX1_passNights wsX1_passNights) := goodIn_app (goodIn_of _ (by decide +kernel)) ggX5_empty_X1_passNights
theorem dX5_empty_0 : decode cX5_empty 0 = .ok (.aload_n 0, 1) := by decide +kernel
theorem dX5_empty_1 : decode cX5_empty 1 = .ok (.bipush 60, 2) := by decide +kernel
theorem dX5_empty_3 : decode cX5_empty 3 = .ok (.invokevirtual 136, 3) := by decide +kernel
theorem dX5_empty_6 : decode cX5_empty 6 = .ok (.ifCond .eq 9, 3) := by decide +kernel
theorem dX5_empty_9 : decode cX5_empty 9 = .ok (.aload_n 0, 1) := by decide +kernel
theorem dX5_empty_10 : decode cX5_empty 10 = .ok (.iconst 4, 1) := by decide +kernel
theorem dX5_empty_11 : decode cX5_empty 11 = .ok (.invokevirtual 55, 3) := by decide +kernel
theorem dX5_empty_14 : decode cX5_empty 14 = .ok (.ireturn, 1) := by decide +kernel
theorem dX5_empty_15 : decode cX5_empty 15 = .ok (.aload_n 0, 1) := by decide +kernel
theorem dX5_empty_16 : decode cX5_empty 16 = .ok (.getfield 26, 3) := by decide +kernel
theorem dX5_empty_19 : decode cX5_empty 19 = .ok (.aload_n 0, 1) := by decide +kernel
theorem dX5_empty_20 : decode cX5_empty 20 = .ok (.getfield 10, 3) := by decide +kernel
theorem dX5_empty_23 : decode cX5_empty 23 = .ok (.getfield 59, 3) := by decide +kernel
theorem dX5_empty_26 : decode cX5_empty 26 = .ok (.invokevirtual 161, 3) := by decide +kernel
theorem dX5_empty_29 : decode cX5_empty 29 = .ok (.iconst 0, 1) := by decide +kernel
theorem dX5_empty_30 : decode cX5_empty 30 = .ok (.istore_n 1, 1) := by decide +kernel
theorem dX5_empty_31 : decode cX5_empty 31 = .ok (.iload_n 1, 1) := by decide +kernel
theorem dX5_empty_32 : decode cX5_empty 32 = .ok (.bipush 60, 2) := by decide +kernel
theorem dX5_empty_34 : decode cX5_empty 34 = .ok (.if_icmp .gt 42, 3) := by decide +kernel
theorem dX5_empty_37 : decode cX5_empty 37 = .ok (.aload_n 0, 1) := by decide +kernel
theorem dX5_empty_38 : decode cX5_empty 38 = .ok (.getfield 26, 3) := by decide +kernel
theorem dX5_empty_41 : decode cX5_empty 41 = .ok (.iconst 0, 1) := by decide +kernel
theorem dX5_empty_42 : decode cX5_empty 42 = .ok (.invokevirtual 121, 3) := by decide +kernel
theorem dX5_empty_45 : decode cX5_empty 45 = .ok (.ifCond .ne 16, 3) := by decide +kernel
theorem dX5_empty_48 : decode cX5_empty 48 = .ok (.aload_n 0, 1) := by decide +kernel
theorem dX5_empty_49 : decode cX5_empty 49 = .ok (.getfield 26, 3) := by decide +kernel
theorem dX5_empty_52 : decode cX5_empty 52 = .ok (.iconst 1, 1) := by decide +kernel
theorem dX5_empty_53 : decode cX5_empty 53 = .ok (.invokevirtual 121, 3) := by decide +kernel
theorem dX5_empty_56 : decode cX5_empty 56 = .ok (.ifCond .ne 5, 3) := by decide +kernel
theorem dX5_empty_59 : decode cX5_empty 59 = .ok (.iload_n 1, 1) := by decide +kernel
theorem dX5_empty_60 : decode cX5_empty 60 = .ok (.ireturn, 1) := by decide +kernel
theorem dX5_empty_61 : decode cX5_empty 61 = .ok (.aload_n 0, 1) := by decide +kernel
theorem dX5_empty_62 : decode cX5_empty 62 = .ok (.getfield 26, 3) := by decide +kernel
theorem dX5_empty_65 : decode cX5_empty 65 = .ok (.iconst 1, 1) := by decide +kernel
theorem dX5_empty_66 : decode cX5_empty 66 = .ok (.invokevirtual 165, 3) := by decide +kernel
theorem dX5_empty_69 : decode cX5_empty 69 = .ok (.pop, 1) := by decide +kernel
theorem dX5_empty_70 : decode cX5_empty 70 = .ok (.iinc 1 1, 3) := by decide +kernel
theorem dX5_empty_73 : decode cX5_empty 73 = .ok (.goto (-42), 3) := by decide +kernel
theorem dX5_empty_76 : decode cX5_empty 76 = .ok (.aload_n 0, 1) := by decide +kernel
theorem dX5_empty_77 : decode cX5_empty 77 = .ok (.iconst 3, 1) := by decide +kernel
theorem dX5_empty_78 : decode cX5_empty 78 = .ok (.invokevirtual 55, 3) := by decide +kernel
theorem dX5_empty_81 : decode cX5_empty 81 = .ok (.ireturn, 1) := by decide +kernel
set_option maxRecDepth 20000 in
theorem ggX5_best_X5_isSide : GoodIn wsX5_best wsX5_isSide := goodIn_r _ [7, 8, 9, 6, 10] (by decide +kernel) (by decide +kernel)
set_option maxRecDepth 20000 in
theorem gX5_best_X5_isSide : GoodIn wsX5_best (va_wsS RX5 65 yX5_isSide wsX5_isSide) := goodIn_app (goodIn_of _ (by decide +kernel)) ggX5_best_X5_isSide
set_option maxRecDepth 20000 in
theorem ggX5_best_X5_isIn : GoodIn wsX5_best wsX5_isIn := goodIn_r _ [10] (by decide +kernel) (by decide +kernel)
set_option maxRecDepth 20000 in
theorem gX5_best_X5_isIn : GoodIn wsX5_best (va_wsS RX5 68 yX5_isIn wsX5_isIn) := goodIn_app (goodIn_of _ (by decide +kernel)) ggX5_best_X5_isIn
set_option maxRecDepth 20000 in
theorem ggX5_best_X5_finding : GoodIn wsX5_best wsX5_finding := goodIn_r _ [14, 15, 16, 131, 132, 133, 134, 135, 136, 137] (by decide +kernel) (by decide +kernel)
set_option maxRecDepth 20000 in
theorem gX5_best_X5_finding : GoodIn wsX5_best (wsV RX5 55 RX5 yX5_finding wsX5_finding) := goodIn_app (goodIn_of _ (by decide +kernel)) ggX5_best_X5_finding
set_option maxRecDepth 20000 in
theorem ggX5_best_X5_isTooLate : GoodIn wsX5_best wsX5_isTooLate := goodIn_r _ [20, 1, 2, 21, 131, 132, 133, 134, 135, 136, 137, 138, 139, 140, 141, 142, 143, 144, 145, 146, 147, 148, 149, 150, 151] (by decide +kernel) (by decide +kernel)
set_option maxRecDepth 20000 in
theorem gX5_best_X5_isTooLate : GoodIn wsX5_best (wsV RX5 136 RX5 yX5_isTooLate wsX5_isTooLate) := goodIn_app (goodIn_of _ (by decide +kernel)) ggX5_best_X5_isTooLate
set_option maxRecDepth 20000 in
theorem ggX5_best_X5_bestHeap : GoodIn wsX5_best wsX5_bestHeap := goodIn_r _ [25, 26, 27, 28, 29, 6, 30, 1, 2, 31, 32, 33, 34, 35, 36, 37, 38, 39, 40, 41, 42, 43, 44, 45, 46, 47, 48, 49, 50, 51, 52, 53, 54, 55, 56, 57, 58, 59, 60, 61, 62, 63, 64, 65, 66, 67, 68, 69, 70, 71, 72, 73, 74, 75, 76, 77, 78, 79, 80, 81, 82, 83, 84, 85, 86, 87, 88, 89, 90, 91, 92, 93, 94, 95, 96, 97, 98, 99, 100, 101, 102, 103, 104, 105, 106, 107, 108, 109, 110, 111, 112, 113, 114, 115, 116, 117, 118, 119, 120, 121, 122, 123, 124, 125, 126, 127, 128, 129, 130, 131, 132, 133, 134, 135, 136, 137, 138, 139, 140, 141, 142, 143, 144, 145, 146, 147, 148, 149, 150, 151] (by decide +kernel) (by decide +kernel)
set_option maxRecDepth 20000 in
theorem gX5_best_X5_bestHeap : GoodIn wsX5_best (wsV RX5 174 RX5 yX5_bestHeap wsX5_bestHeap) := goodIn_app (goodIn_of _ (by decide +kernel)) ggX5_best_X5_bestHeap
theorem dX5_best_0 : decode cX5_best 0 = .ok (.iload_n 1, 1) := by decide +kernel
theorem dX5_best_1 : decode cX5_best 1 = .ok (.invokestatic 65, 3) := by decide +kernel
theorem dX5_best_4 : decode cX5_best 4 = .ok (.ifCond .eq 13, 3) := by decide +kernel
theorem dX5_best_7 : decode cX5_best 7 = .ok (.iload_n 2, 1) := by decide +kernel
theorem dX5_best_8 : decode cX5_best 8 = .ok (.iconst 1, 1) := by decide +kernel
theorem dX5_best_9 : decode cX5_best 9 = .ok (.bipush 30, 2) := by decide +kernel
theorem dX5_best_11 : decode cX5_best 11 = .ok (.invokestatic 68, 3) := by decide +kernel
theorem dX5_best_14 : decode cX5_best 14 = .ok (.ifCond .ne 9, 3) := by decide +kernel
theorem dX5_best_17 : decode cX5_best 17 = .ok (.aload_n 0, 1) := by decide +kernel
theorem dX5_best_18 : decode cX5_best 18 = .ok (.iconst 0, 1) := by decide +kernel
theorem dX5_best_19 : decode cX5_best 19 = .ok (.invokevirtual 55, 3) := by decide +kernel
theorem dX5_best_22 : decode cX5_best 22 = .ok (.ireturn, 1) := by decide +kernel
theorem dX5_best_23 : decode cX5_best 23 = .ok (.aload_n 0, 1) := by decide +kernel
theorem dX5_best_24 : decode cX5_best 24 = .ok (.iload_n 2, 1) := by decide +kernel
theorem dX5_best_25 : decode cX5_best 25 = .ok (.invokevirtual 136, 3) := by decide +kernel
theorem dX5_best_28 : decode cX5_best 28 = .ok (.ifCond .ne 18, 3) := by decide +kernel
theorem dX5_best_31 : decode cX5_best 31 = .ok (.aload_n 0, 1) := by decide +kernel
theorem dX5_best_32 : decode cX5_best 32 = .ok (.getfield 10, 3) := by decide +kernel
theorem dX5_best_35 : decode cX5_best 35 = .ok (.getfield 59, 3) := by decide +kernel
theorem dX5_best_38 : decode cX5_best 38 = .ok (.getfield 82, 3) := by decide +kernel
theorem dX5_best_41 : decode cX5_best 41 = .ok (.iload_n 1, 1) := by decide +kernel
theorem dX5_best_42 : decode cX5_best 42 = .ok (.iaload, 1) := by decide +kernel
theorem dX5_best_43 : decode cX5_best 43 = .ok (.ifCond .ne 9, 3) := by decide +kernel
theorem dX5_best_46 : decode cX5_best 46 = .ok (.aload_n 0, 1) := by decide +kernel
theorem dX5_best_47 : decode cX5_best 47 = .ok (.iconst 4, 1) := by decide +kernel
theorem dX5_best_48 : decode cX5_best 48 = .ok (.invokevirtual 55, 3) := by decide +kernel
theorem dX5_best_51 : decode cX5_best 51 = .ok (.ireturn, 1) := by decide +kernel
theorem dX5_best_52 : decode cX5_best 52 = .ok (.aload_n 0, 1) := by decide +kernel
theorem dX5_best_53 : decode cX5_best 53 = .ok (.iload_n 1, 1) := by decide +kernel
theorem dX5_best_54 : decode cX5_best 54 = .ok (.iload_n 2, 1) := by decide +kernel
theorem dX5_best_55 : decode cX5_best 55 = .ok (.invokevirtual 174, 3) := by decide +kernel
theorem dX5_best_58 : decode cX5_best 58 = .ok (.ireturn, 1) := by decide +kernel
set_option maxRecDepth 20000 in
theorem ggX5_gain_X5_isSide : GoodIn wsX5_gain wsX5_isSide := goodIn_r _ [8, 9, 10, 7, 11] (by decide +kernel) (by decide +kernel)
set_option maxRecDepth 20000 in
theorem gX5_gain_X5_isSide : GoodIn wsX5_gain (va_wsS RX5 65 yX5_isSide wsX5_isSide) := goodIn_app (goodIn_of _ (by decide +kernel)) ggX5_gain_X5_isSide
set_option maxRecDepth 20000 in
theorem ggX5_gain_X5_isIn : GoodIn wsX5_gain wsX5_isIn := goodIn_r _ [11] (by decide +kernel) (by decide +kernel)
set_option maxRecDepth 20000 in
theorem gX5_gain_X5_isIn : GoodIn wsX5_gain (va_wsS RX5 68 yX5_isIn wsX5_isIn) := goodIn_app (goodIn_of _ (by decide +kernel)) ggX5_gain_X5_isIn
set_option maxRecDepth 20000 in
theorem ggX5_gain_X5_finding : GoodIn wsX5_gain wsX5_finding := goodIn_r _ [15, 16, 17, 131, 132, 133, 134, 135, 136, 137] (by decide +kernel) (by decide +kernel)
set_option maxRecDepth 20000 in
theorem gX5_gain_X5_finding : GoodIn wsX5_gain (wsV RX5 55 RX5 yX5_finding wsX5_finding) := goodIn_app (goodIn_of _ (by decide +kernel)) ggX5_gain_X5_finding
set_option maxRecDepth 20000 in
theorem ggX5_gain_X5_isTooLate : GoodIn wsX5_gain wsX5_isTooLate := goodIn_r _ [21, 1, 2, 22, 131, 132, 133, 134, 135, 136, 137, 138, 139, 140, 141, 142, 143, 144, 145, 146, 147, 148, 149, 150, 151] (by decide +kernel) (by decide +kernel)
set_option maxRecDepth 20000 in
theorem gX5_gain_X5_isTooLate : GoodIn wsX5_gain (wsV RX5 136 RX5 yX5_isTooLate wsX5_isTooLate) := goodIn_app (goodIn_of _ (by decide +kernel)) ggX5_gain_X5_isTooLate
set_option maxRecDepth 20000 in
theorem ggX5_gain_X5_bestHeap : GoodIn wsX5_gain wsX5_bestHeap := goodIn_r _ [26, 4, 27, 28, 29, 7, 30, 1, 2, 31, 32, 33, 34, 35, 36, 37, 38, 39, 40, 41, 42, 43, 44, 45, 46, 47, 48, 49, 50, 51, 52, 53, 54, 55, 56, 57, 58, 59, 60, 61, 62, 63, 64, 65, 66, 67, 68, 69, 70, 71, 72, 73, 74, 75, 76, 77, 78, 79, 80, 81, 82, 83, 84, 85, 86, 87, 88, 89, 90, 91, 92, 93, 94, 95, 96, 97, 98, 99, 100, 101, 102, 103, 104, 105, 106, 107, 108, 109, 110, 111, 112, 113, 114, 115, 116, 117, 118, 119, 120, 121, 122, 123, 124, 125, 126, 127, 128, 129, 130, 131, 132, 133, 134, 135, 136, 137, 138, 139, 140, 141, 142, 143, 144, 145, 146, 147, 148, 149, 150, 151] (by decide +kernel) (by decide +kernel)
set_option maxRecDepth 20000 in
theorem gX5_gain_X5_bestHeap : GoodIn wsX5_gain (wsV RX5 174 RX5 yX5_bestHeap wsX5_bestHeap) := goodIn_app (goodIn_of _ (by decide +kernel)) ggX5_gain_X5_bestHeap
set_option maxRecDepth 20000 in
theorem ggX5_gain_X5_tryHeap : GoodIn wsX5_gain wsX5_tryHeap := goodIn_r _ [30, 4, 1, 2, 31, 32, 33, 34, 35, 36, 37, 38, 39, 40, 41, 42, 43, 44, 45, 46, 47, 48, 49, 50, 51, 52, 53, 54, 55, 56, 57, 58, 59, 60, 61, 62, 63, 64, 65, 66, 67, 68, 69, 131, 132, 133, 134, 135, 136, 137, 138, 139, 140, 141, 142, 143, 144, 145, 146, 147, 148, 149, 150, 151] (by decide +kernel) (by decide +kernel)
set_option maxRecDepth 20000 in
theorem gX5_gain_X5_tryHeap : GoodIn wsX5_gain (wsV RX5 177 RX5 yX5_tryHeap wsX5_tryHeap) := goodIn_app (goodIn_of _ (by decide +kernel)) ggX5_gain_X5_tryHeap
set_option maxRecDepth 20000 in
theorem ggX5_gain_X1_passNights : GoodIn wsX5_gain wsX1_passNights := goodIn_r _ [73, 74, 75, 76, 34, 77, 47, 78, 79, 80, 81, 45, 82, 83, 84, 85, 42, 86, 87, 88, 89, 44, 90, 91, 92, 93, 94, 95, 96, 97, 43, 36, 46, 98, 99, 100, 101, 102, 103, 104, 105, 48, 106, 51, 52, 53, 54, 55, 56, 57, 41, 58, 59, 60, 61, 107, 108, 109, 110, 111, 112, 113, 114, 115, 116, 117, 118, 119, 120, 121, 122, 49, 123, 124, 125, 126, 142, 143, 144, 145, 146, 147, 148, 149, 150, 151] (by decide +kernel) (by decide +kernel)
set_option maxRecDepth 20000 in
theorem gX5_gain_X1_passNights : GoodIn wsX5_gain (wsV RX5 165 RX1 yX1_passNights wsX1_passNights) := goodIn_app (goodIn_of _ (by decide +kernel)) ggX5_gain_X1_passNights
set_option maxRecDepth 20000 in
theorem ggX5_gain_X1_wealth : GoodIn wsX5_gain wsX1_wealth := goodIn_r _ [130, 41, 42, 94, 95, 96, 34, 97, 43, 36, 46, 142, 143, 144, 145, 146, 147, 148, 149, 150, 151] (by decide +kernel) (by decide +kernel)
set_option maxRecDepth 20000 in
theorem gX5_gain_X1_wealth : GoodIn wsX5_gain (wsV RX5 171 RX1 yX1_wealth wsX1_wealth) := goodIn_app (goodIn_of _ (by decide +kernel)) ggX5_gain_X1_wealth
theorem dX5_gain_0 : decode cX5_gain 0 = .ok (.iload_n 1, 1) := by decide +kernel
theorem dX5_gain_1 : decode cX5_gain 1 = .ok (.invokestatic 65, 3) := by decide +kernel
theorem dX5_gain_4 : decode cX5_gain 4 = .ok (.ifCond .eq 13, 3) := by decide +kernel
theorem dX5_gain_7 : decode cX5_gain 7 = .ok (.iload_n 2, 1) := by decide +kernel
theorem dX5_gain_8 : decode cX5_gain 8 = .ok (.iconst 1, 1) := by decide +kernel
theorem dX5_gain_9 : decode cX5_gain 9 = .ok (.bipush 30, 2) := by decide +kernel
theorem dX5_gain_11 : decode cX5_gain 11 = .ok (.invokestatic 68, 3) := by decide +kernel
theorem dX5_gain_14 : decode cX5_gain 14 = .ok (.ifCond .ne 9, 3) := by decide +kernel
theorem dX5_gain_17 : decode cX5_gain 17 = .ok (.aload_n 0, 1) := by decide +kernel
theorem dX5_gain_18 : decode cX5_gain 18 = .ok (.iconst 0, 1) := by decide +kernel
theorem dX5_gain_19 : decode cX5_gain 19 = .ok (.invokevirtual 55, 3) := by decide +kernel
theorem dX5_gain_22 : decode cX5_gain 22 = .ok (.ireturn, 1) := by decide +kernel
theorem dX5_gain_23 : decode cX5_gain 23 = .ok (.aload_n 0, 1) := by decide +kernel
theorem dX5_gain_24 : decode cX5_gain 24 = .ok (.iload_n 2, 1) := by decide +kernel
theorem dX5_gain_25 : decode cX5_gain 25 = .ok (.invokevirtual 136, 3) := by decide +kernel
theorem dX5_gain_28 : decode cX5_gain 28 = .ok (.ifCond .ne 18, 3) := by decide +kernel
theorem dX5_gain_31 : decode cX5_gain 31 = .ok (.aload_n 0, 1) := by decide +kernel
theorem dX5_gain_32 : decode cX5_gain 32 = .ok (.getfield 10, 3) := by decide +kernel
theorem dX5_gain_35 : decode cX5_gain 35 = .ok (.getfield 59, 3) := by decide +kernel
theorem dX5_gain_38 : decode cX5_gain 38 = .ok (.getfield 82, 3) := by decide +kernel
theorem dX5_gain_41 : decode cX5_gain 41 = .ok (.iload_n 1, 1) := by decide +kernel
theorem dX5_gain_42 : decode cX5_gain 42 = .ok (.iaload, 1) := by decide +kernel
theorem dX5_gain_43 : decode cX5_gain 43 = .ok (.ifCond .ne 9, 3) := by decide +kernel
theorem dX5_gain_46 : decode cX5_gain 46 = .ok (.aload_n 0, 1) := by decide +kernel
theorem dX5_gain_47 : decode cX5_gain 47 = .ok (.iconst 4, 1) := by decide +kernel
theorem dX5_gain_48 : decode cX5_gain 48 = .ok (.invokevirtual 55, 3) := by decide +kernel
theorem dX5_gain_51 : decode cX5_gain 51 = .ok (.ireturn, 1) := by decide +kernel
theorem dX5_gain_52 : decode cX5_gain 52 = .ok (.aload_n 0, 1) := by decide +kernel
theorem dX5_gain_53 : decode cX5_gain 53 = .ok (.iload_n 1, 1) := by decide +kernel
theorem dX5_gain_54 : decode cX5_gain 54 = .ok (.aload_n 0, 1) := by decide +kernel
theorem dX5_gain_55 : decode cX5_gain 55 = .ok (.iload_n 1, 1) := by decide +kernel
theorem dX5_gain_56 : decode cX5_gain 56 = .ok (.iload_n 2, 1) := by decide +kernel
theorem dX5_gain_57 : decode cX5_gain 57 = .ok (.invokevirtual 174, 3) := by decide +kernel
theorem dX5_gain_60 : decode cX5_gain 60 = .ok (.invokevirtual 177, 3) := by decide +kernel
theorem dX5_gain_63 : decode cX5_gain 63 = .ok (.pop, 1) := by decide +kernel
theorem dX5_gain_64 : decode cX5_gain 64 = .ok (.aload_n 0, 1) := by decide +kernel
theorem dX5_gain_65 : decode cX5_gain 65 = .ok (.getfield 26, 3) := by decide +kernel
theorem dX5_gain_68 : decode cX5_gain 68 = .ok (.iload_n 2, 1) := by decide +kernel
theorem dX5_gain_69 : decode cX5_gain 69 = .ok (.invokevirtual 165, 3) := by decide +kernel
theorem dX5_gain_72 : decode cX5_gain 72 = .ok (.pop, 1) := by decide +kernel
theorem dX5_gain_73 : decode cX5_gain 73 = .ok (.aload_n 0, 1) := by decide +kernel
theorem dX5_gain_74 : decode cX5_gain 74 = .ok (.getfield 26, 3) := by decide +kernel
theorem dX5_gain_77 : decode cX5_gain 77 = .ok (.iload_n 1, 1) := by decide +kernel
theorem dX5_gain_78 : decode cX5_gain 78 = .ok (.invokevirtual 171, 3) := by decide +kernel
theorem dX5_gain_81 : decode cX5_gain 81 = .ok (.aload_n 0, 1) := by decide +kernel
theorem dX5_gain_82 : decode cX5_gain 82 = .ok (.getfield 10, 3) := by decide +kernel
theorem dX5_gain_85 : decode cX5_gain 85 = .ok (.getfield 59, 3) := by decide +kernel
theorem dX5_gain_88 : decode cX5_gain 88 = .ok (.iload_n 1, 1) := by decide +kernel
theorem dX5_gain_89 : decode cX5_gain 89 = .ok (.invokevirtual 171, 3) := by decide +kernel
theorem dX5_gain_92 : decode cX5_gain 92 = .ok (.isub, 1) := by decide +kernel
theorem dX5_gain_93 : decode cX5_gain 93 = .ok (.ireturn, 1) := by decide +kernel
set_option maxRecDepth 20000 in
theorem ggX5_greed_X5_isSide : GoodIn wsX5_greed wsX5_isSide := goodIn_r _ [8, 9, 10, 7, 11] (by decide +kernel) (by decide +kernel)
set_option maxRecDepth 20000 in
theorem gX5_greed_X5_isSide : GoodIn wsX5_greed (va_wsS RX5 65 yX5_isSide wsX5_isSide) := goodIn_app (goodIn_of _ (by decide +kernel)) ggX5_greed_X5_isSide
set_option maxRecDepth 20000 in
theorem ggX5_greed_X5_isIn : GoodIn wsX5_greed wsX5_isIn := goodIn_r _ [11] (by decide +kernel) (by decide +kernel)
set_option maxRecDepth 20000 in
theorem gX5_greed_X5_isIn : GoodIn wsX5_greed (va_wsS RX5 68 yX5_isIn wsX5_isIn) := goodIn_app (goodIn_of _ (by decide +kernel)) ggX5_greed_X5_isIn
set_option maxRecDepth 20000 in
theorem ggX5_greed_X5_finding : GoodIn wsX5_greed wsX5_finding := goodIn_r _ [15, 16, 17, 114, 115, 116, 117, 118, 119, 120] (by decide +kernel) (by decide +kernel)
set_option maxRecDepth 20000 in
theorem gX5_greed_X5_finding : GoodIn wsX5_greed (wsV RX5 55 RX5 yX5_finding wsX5_finding) := goodIn_app (goodIn_of _ (by decide +kernel)) ggX5_greed_X5_finding
set_option maxRecDepth 20000 in
theorem ggX5_greed_X5_isTooLate : GoodIn wsX5_greed wsX5_isTooLate := goodIn_r _ [21, 2, 3, 22, 114, 115, 116, 117, 118, 119, 120, 121, 122, 123, 124, 125, 126, 127, 128, 129, 130, 131, 132, 133, 134] (by decide +kernel) (by decide +kernel)
set_option maxRecDepth 20000 in
theorem gX5_greed_X5_isTooLate : GoodIn wsX5_greed (wsV RX5 136 RX5 yX5_isTooLate wsX5_isTooLate) := goodIn_app (goodIn_of _ (by decide +kernel)) ggX5_greed_X5_isTooLate
set_option maxRecDepth 20000 in
theorem ggX5_greed_X1_copyFrom : GoodIn wsX5_greed wsX1_copyFrom := goodIn_r _ [27, 28, 29, 30, 31, 32, 33, 34, 35, 36, 37, 38, 39, 40, 41, 125, 126, 127, 128, 129, 130, 131, 132, 133, 134] (by decide +kernel) (by decide +kernel)
set_option maxRecDepth 20000 in
theorem gX5_greed_X1_copyFrom : GoodIn wsX5_greed (wsV RX5 161 RX1 yX1_copyFrom wsX1_copyFrom) := goodIn_app (goodIn_of _ (by decide +kernel)) ggX5_greed_X1_copyFrom
set_option maxRecDepth 20000 in
theorem ggX5_greed_X1_passNights : GoodIn wsX5_greed wsX1_passNights := goodIn_r _ [45, 46, 47, 48, 26, 49, 39, 50, 51, 52, 53, 37, 54, 55, 56, 57, 34, 58, 59, 60, 61, 36, 62, 63, 64, 65, 66, 67, 68, 69, 35, 28, 38, 70, 71, 72, 73, 74, 75, 76, 77, 40, 78, 79, 80, 81, 82, 83, 84, 85, 33, 86, 87, 88, 89, 90, 91, 92, 93, 94, 95, 96, 97, 98, 99, 100, 101, 102, 103, 104, 105, 41, 106, 107, 108, 109, 125, 126, 127, 128, 129, 130, 131, 132, 133, 134] (by decide +kernel) (by decide +kernel)
set_option maxRecDepth 20000 in
theorem gX5_greed_X1_passNights : GoodIn wsX5_greed (wsV RX5 165 RX1 yX1_passNights wsX1_passNights) := goodIn_app (goodIn_of _ (by decide +kernel)) ggX5_greed_X1_passNights
set_option maxRecDepth 20000 in
theorem ggX5_greed_X1_wealth : GoodIn wsX5_greed wsX1_wealth := goodIn_r _ [113, 33, 34, 66, 67, 68, 26, 69, 35, 28, 38, 125, 126, 127, 128, 129, 130, 131, 132, 133, 134] (by decide +kernel) (by decide +kernel)
set_option maxRecDepth 20000 in
theorem gX5_greed_X1_wealth : GoodIn wsX5_greed (wsV RX5 171 RX1 yX1_wealth wsX1_wealth) := goodIn_app (goodIn_of _ (by decide +kernel)) ggX5_greed_X1_wealth
theorem dX5_greed_0 : decode cX5_greed 0 = .ok (.iload_n 1, 1) := by decide +kernel
theorem dX5_greed_1 : decode cX5_greed 1 = .ok (.invokestatic 65, 3) := by decide +kernel
theorem dX5_greed_4 : decode cX5_greed 4 = .ok (.ifCond .eq 13, 3) := by decide +kernel
theorem dX5_greed_7 : decode cX5_greed 7 = .ok (.iload_n 2, 1) := by decide +kernel
theorem dX5_greed_8 : decode cX5_greed 8 = .ok (.iconst 1, 1) := by decide +kernel
theorem dX5_greed_9 : decode cX5_greed 9 = .ok (.bipush 30, 2) := by decide +kernel
theorem dX5_greed_11 : decode cX5_greed 11 = .ok (.invokestatic 68, 3) := by decide +kernel
theorem dX5_greed_14 : decode cX5_greed 14 = .ok (.ifCond .ne 9, 3) := by decide +kernel
theorem dX5_greed_17 : decode cX5_greed 17 = .ok (.aload_n 0, 1) := by decide +kernel
theorem dX5_greed_18 : decode cX5_greed 18 = .ok (.iconst 0, 1) := by decide +kernel
theorem dX5_greed_19 : decode cX5_greed 19 = .ok (.invokevirtual 55, 3) := by decide +kernel
theorem dX5_greed_22 : decode cX5_greed 22 = .ok (.ireturn, 1) := by decide +kernel
theorem dX5_greed_23 : decode cX5_greed 23 = .ok (.aload_n 0, 1) := by decide +kernel
theorem dX5_greed_24 : decode cX5_greed 24 = .ok (.iload_n 2, 1) := by decide +kernel
theorem dX5_greed_25 : decode cX5_greed 25 = .ok (.invokevirtual 136, 3) := by decide +kernel
theorem dX5_greed_28 : decode cX5_greed 28 = .ok (.ifCond .eq 9, 3) := by decide +kernel
theorem dX5_greed_31 : decode cX5_greed 31 = .ok (.aload_n 0, 1) := by decide +kernel
theorem dX5_greed_32 : decode cX5_greed 32 = .ok (.iconst 4, 1) := by decide +kernel
theorem dX5_greed_33 : decode cX5_greed 33 = .ok (.invokevirtual 55, 3) := by decide +kernel
theorem dX5_greed_36 : decode cX5_greed 36 = .ok (.ireturn, 1) := by decide +kernel
theorem dX5_greed_37 : decode cX5_greed 37 = .ok (.iconst 0, 1) := by decide +kernel
theorem dX5_greed_38 : decode cX5_greed 38 = .ok (.istore_n 3, 1) := by decide +kernel
theorem dX5_greed_39 : decode cX5_greed 39 = .ok (.iconst 0, 1) := by decide +kernel
theorem dX5_greed_40 : decode cX5_greed 40 = .ok (.istore 4, 2) := by decide +kernel
theorem dX5_greed_42 : decode cX5_greed 42 = .ok (.iconst 0, 1) := by decide +kernel
theorem dX5_greed_43 : decode cX5_greed 43 = .ok (.istore 5, 2) := by decide +kernel
theorem dX5_greed_45 : decode cX5_greed 45 = .ok (.iload 5, 2) := by decide +kernel
theorem dX5_greed_47 : decode cX5_greed 47 = .ok (.bipush 50, 2) := by decide +kernel
theorem dX5_greed_49 : decode cX5_greed 49 = .ok (.if_icmp .gt 72, 3) := by decide +kernel
theorem dX5_greed_52 : decode cX5_greed 52 = .ok (.aload_n 0, 1) := by decide +kernel
theorem dX5_greed_53 : decode cX5_greed 53 = .ok (.getfield 26, 3) := by decide +kernel
theorem dX5_greed_56 : decode cX5_greed 56 = .ok (.aload_n 0, 1) := by decide +kernel
theorem dX5_greed_57 : decode cX5_greed 57 = .ok (.getfield 10, 3) := by decide +kernel
theorem dX5_greed_60 : decode cX5_greed 60 = .ok (.getfield 59, 3) := by decide +kernel
theorem dX5_greed_63 : decode cX5_greed 63 = .ok (.invokevirtual 161, 3) := by decide +kernel
theorem dX5_greed_66 : decode cX5_greed 66 = .ok (.aload_n 0, 1) := by decide +kernel
theorem dX5_greed_67 : decode cX5_greed 67 = .ok (.getfield 26, 3) := by decide +kernel
theorem dX5_greed_70 : decode cX5_greed 70 = .ok (.getfield 79, 3) := by decide +kernel
theorem dX5_greed_73 : decode cX5_greed 73 = .ok (.iload_n 1, 1) := by decide +kernel
theorem dX5_greed_74 : decode cX5_greed 74 = .ok (.iload 5, 2) := by decide +kernel
theorem dX5_greed_76 : decode cX5_greed 76 = .ok (.iastore, 1) := by decide +kernel
theorem dX5_greed_77 : decode cX5_greed 77 = .ok (.aload_n 0, 1) := by decide +kernel
theorem dX5_greed_78 : decode cX5_greed 78 = .ok (.getfield 26, 3) := by decide +kernel
theorem dX5_greed_81 : decode cX5_greed 81 = .ok (.iload_n 2, 1) := by decide +kernel
theorem dX5_greed_82 : decode cX5_greed 82 = .ok (.invokevirtual 165, 3) := by decide +kernel
theorem dX5_greed_85 : decode cX5_greed 85 = .ok (.pop, 1) := by decide +kernel
theorem dX5_greed_86 : decode cX5_greed 86 = .ok (.aload_n 0, 1) := by decide +kernel
theorem dX5_greed_87 : decode cX5_greed 87 = .ok (.getfield 26, 3) := by decide +kernel
theorem dX5_greed_90 : decode cX5_greed 90 = .ok (.iload_n 1, 1) := by decide +kernel
theorem dX5_greed_91 : decode cX5_greed 91 = .ok (.invokevirtual 171, 3) := by decide +kernel
theorem dX5_greed_94 : decode cX5_greed 94 = .ok (.istore 6, 2) := by decide +kernel
theorem dX5_greed_96 : decode cX5_greed 96 = .ok (.iload 5, 2) := by decide +kernel
theorem dX5_greed_98 : decode cX5_greed 98 = .ok (.ifCond .eq 10, 3) := by decide +kernel
theorem dX5_greed_101 : decode cX5_greed 101 = .ok (.iload 6, 2) := by decide +kernel
theorem dX5_greed_103 : decode cX5_greed 103 = .ok (.iload 4, 2) := by decide +kernel
theorem dX5_greed_105 : decode cX5_greed 105 = .ok (.if_icmp .le 10, 3) := by decide +kernel
theorem dX5_greed_108 : decode cX5_greed 108 = .ok (.iload 5, 2) := by decide +kernel
theorem dX5_greed_110 : decode cX5_greed 110 = .ok (.istore_n 3, 1) := by decide +kernel
theorem dX5_greed_111 : decode cX5_greed 111 = .ok (.iload 6, 2) := by decide +kernel
theorem dX5_greed_113 : decode cX5_greed 113 = .ok (.istore 4, 2) := by decide +kernel
theorem dX5_greed_115 : decode cX5_greed 115 = .ok (.iinc 5 1, 3) := by decide +kernel
theorem dX5_greed_118 : decode cX5_greed 118 = .ok (.goto (-73), 3) := by decide +kernel
theorem dX5_greed_121 : decode cX5_greed 121 = .ok (.iload_n 3, 1) := by decide +kernel
theorem dX5_greed_122 : decode cX5_greed 122 = .ok (.ireturn, 1) := by decide +kernel
set_option maxRecDepth 20000 in
theorem ggX5_kindFor_X5_isThing : GoodIn wsX5_kindFor wsX5_isThing := goodIn_r _ [8, 9, 10, 7, 11] (by decide +kernel) (by decide +kernel)
set_option maxRecDepth 20000 in
theorem gX5_kindFor_X5_isThing : GoodIn wsX5_kindFor (va_wsS RX5 48 yX5_isThing wsX5_isThing) := goodIn_app (goodIn_of _ (by decide +kernel)) ggX5_kindFor_X5_isThing
set_option maxRecDepth 20000 in
theorem ggX5_kindFor_X5_isIn : GoodIn wsX5_kindFor wsX5_isIn := goodIn_r _ [11] (by decide +kernel) (by decide +kernel)
set_option maxRecDepth 20000 in
theorem gX5_kindFor_X5_isIn : GoodIn wsX5_kindFor (va_wsS RX5 68 yX5_isIn wsX5_isIn) := goodIn_app (goodIn_of _ (by decide +kernel)) ggX5_kindFor_X5_isIn
set_option maxRecDepth 20000 in
theorem ggX5_kindFor_X5_finding : GoodIn wsX5_kindFor wsX5_finding := goodIn_r _ [15, 16, 17, 114, 115, 116, 117, 118, 119, 120] (by decide +kernel) (by decide +kernel)
set_option maxRecDepth 20000 in
theorem gX5_kindFor_X5_finding : GoodIn wsX5_kindFor (wsV RX5 55 RX5 yX5_finding wsX5_finding) := goodIn_app (goodIn_of _ (by decide +kernel)) ggX5_kindFor_X5_finding
set_option maxRecDepth 20000 in
theorem ggX5_kindFor_X5_isTooLate : GoodIn wsX5_kindFor wsX5_isTooLate := goodIn_r _ [21, 2, 3, 22, 114, 115, 116, 117, 118, 119, 120, 121, 122, 123, 124, 125, 126, 127, 128, 129, 130, 131, 132, 133, 134] (by decide +kernel) (by decide +kernel)
set_option maxRecDepth 20000 in
theorem gX5_kindFor_X5_isTooLate : GoodIn wsX5_kindFor (wsV RX5 136 RX5 yX5_isTooLate wsX5_isTooLate) := goodIn_app (goodIn_of _ (by decide +kernel)) ggX5_kindFor_X5_isTooLate
set_option maxRecDepth 20000 in
theorem ggX5_kindFor_X1_copyFrom : GoodIn wsX5_kindFor wsX1_copyFrom := goodIn_r _ [27, 28, 29, 30, 31, 32, 33, 34, 35, 36, 37, 38, 39, 40, 41, 125, 126, 127, 128, 129, 130, 131, 132, 133, 134] (by decide +kernel) (by decide +kernel)
set_option maxRecDepth 20000 in
theorem gX5_kindFor_X1_copyFrom : GoodIn wsX5_kindFor (wsV RX5 161 RX1 yX1_copyFrom wsX1_copyFrom) := goodIn_app (goodIn_of _ (by decide +kernel)) ggX5_kindFor_X1_copyFrom
set_option maxRecDepth 20000 in
theorem ggX5_kindFor_X1_wealth : GoodIn wsX5_kindFor wsX1_wealth := goodIn_r _ [45, 33, 34, 46, 47, 48, 26, 49, 35, 28, 38, 125, 126, 127, 128, 129, 130, 131, 132, 133, 134] (by decide +kernel) (by decide +kernel)
set_option maxRecDepth 20000 in
theorem gX5_kindFor_X1_wealth : GoodIn wsX5_kindFor (wsV RX5 171 RX1 yX1_wealth wsX1_wealth) := goodIn_app (goodIn_of _ (by decide +kernel)) ggX5_kindFor_X1_wealth
set_option maxRecDepth 20000 in
theorem ggX5_kindFor_X1_passNights : GoodIn wsX5_kindFor wsX1_passNights := goodIn_r _ [53, 54, 55, 56, 26, 57, 39, 58, 59, 60, 61, 37, 62, 63, 64, 65, 34, 66, 67, 68, 69, 36, 70, 71, 72, 73, 46, 47, 48, 49, 35, 28, 38, 74, 75, 76, 77, 78, 79, 80, 81, 40, 82, 83, 84, 85, 86, 87, 88, 89, 33, 90, 91, 92, 93, 94, 95, 96, 97, 98, 99, 100, 101, 102, 103, 104, 105, 106, 107, 108, 109, 41, 110, 111, 112, 113, 125, 126, 127, 128, 129, 130, 131, 132, 133, 134] (by decide +kernel) (by decide +kernel)
set_option maxRecDepth 20000 in
theorem gX5_kindFor_X1_passNights : GoodIn wsX5_kindFor (wsV RX5 165 RX1 yX1_passNights wsX1_passNights) := goodIn_app (goodIn_of _ (by decide +kernel)) ggX5_kindFor_X1_passNights
theorem dX5_kindFor_0 : decode cX5_kindFor 0 = .ok (.iload_n 1, 1) := by decide +kernel
theorem dX5_kindFor_1 : decode cX5_kindFor 1 = .ok (.invokestatic 48, 3) := by decide +kernel
theorem dX5_kindFor_4 : decode cX5_kindFor 4 = .ok (.ifCond .eq 13, 3) := by decide +kernel
theorem dX5_kindFor_7 : decode cX5_kindFor 7 = .ok (.iload_n 2, 1) := by decide +kernel
theorem dX5_kindFor_8 : decode cX5_kindFor 8 = .ok (.iconst 1, 1) := by decide +kernel
theorem dX5_kindFor_9 : decode cX5_kindFor 9 = .ok (.bipush 30, 2) := by decide +kernel
theorem dX5_kindFor_11 : decode cX5_kindFor 11 = .ok (.invokestatic 68, 3) := by decide +kernel
theorem dX5_kindFor_14 : decode cX5_kindFor 14 = .ok (.ifCond .ne 9, 3) := by decide +kernel
theorem dX5_kindFor_17 : decode cX5_kindFor 17 = .ok (.aload_n 0, 1) := by decide +kernel
theorem dX5_kindFor_18 : decode cX5_kindFor 18 = .ok (.iconst 0, 1) := by decide +kernel
theorem dX5_kindFor_19 : decode cX5_kindFor 19 = .ok (.invokevirtual 55, 3) := by decide +kernel
theorem dX5_kindFor_22 : decode cX5_kindFor 22 = .ok (.ireturn, 1) := by decide +kernel
theorem dX5_kindFor_23 : decode cX5_kindFor 23 = .ok (.aload_n 0, 1) := by decide +kernel
theorem dX5_kindFor_24 : decode cX5_kindFor 24 = .ok (.iload_n 2, 1) := by decide +kernel
theorem dX5_kindFor_25 : decode cX5_kindFor 25 = .ok (.invokevirtual 136, 3) := by decide +kernel
theorem dX5_kindFor_28 : decode cX5_kindFor 28 = .ok (.ifCond .eq 9, 3) := by decide +kernel
theorem dX5_kindFor_31 : decode cX5_kindFor 31 = .ok (.aload_n 0, 1) := by decide +kernel
theorem dX5_kindFor_32 : decode cX5_kindFor 32 = .ok (.iconst 4, 1) := by decide +kernel
theorem dX5_kindFor_33 : decode cX5_kindFor 33 = .ok (.invokevirtual 55, 3) := by decide +kernel
theorem dX5_kindFor_36 : decode cX5_kindFor 36 = .ok (.ireturn, 1) := by decide +kernel
theorem dX5_kindFor_37 : decode cX5_kindFor 37 = .ok (.iconst 0, 1) := by decide +kernel
theorem dX5_kindFor_38 : decode cX5_kindFor 38 = .ok (.istore_n 3, 1) := by decide +kernel
theorem dX5_kindFor_39 : decode cX5_kindFor 39 = .ok (.iconst 0, 1) := by decide +kernel
theorem dX5_kindFor_40 : decode cX5_kindFor 40 = .ok (.istore 4, 2) := by decide +kernel
theorem dX5_kindFor_42 : decode cX5_kindFor 42 = .ok (.iconst 0, 1) := by decide +kernel
theorem dX5_kindFor_43 : decode cX5_kindFor 43 = .ok (.istore 5, 2) := by decide +kernel
theorem dX5_kindFor_45 : decode cX5_kindFor 45 = .ok (.iload 5, 2) := by decide +kernel
theorem dX5_kindFor_47 : decode cX5_kindFor 47 = .ok (.bipush 7, 2) := by decide +kernel
theorem dX5_kindFor_49 : decode cX5_kindFor 49 = .ok (.if_icmp .ge 103, 3) := by decide +kernel
theorem dX5_kindFor_52 : decode cX5_kindFor 52 = .ok (.aload_n 0, 1) := by decide +kernel
theorem dX5_kindFor_53 : decode cX5_kindFor 53 = .ok (.getfield 26, 3) := by decide +kernel
theorem dX5_kindFor_56 : decode cX5_kindFor 56 = .ok (.aload_n 0, 1) := by decide +kernel
theorem dX5_kindFor_57 : decode cX5_kindFor 57 = .ok (.getfield 10, 3) := by decide +kernel
theorem dX5_kindFor_60 : decode cX5_kindFor 60 = .ok (.getfield 59, 3) := by decide +kernel
theorem dX5_kindFor_63 : decode cX5_kindFor 63 = .ok (.invokevirtual 161, 3) := by decide +kernel
theorem dX5_kindFor_66 : decode cX5_kindFor 66 = .ok (.aload_n 0, 1) := by decide +kernel
theorem dX5_kindFor_67 : decode cX5_kindFor 67 = .ok (.getfield 26, 3) := by decide +kernel
theorem dX5_kindFor_70 : decode cX5_kindFor 70 = .ok (.getfield 62, 3) := by decide +kernel
theorem dX5_kindFor_73 : decode cX5_kindFor 73 = .ok (.iload_n 1, 1) := by decide +kernel
theorem dX5_kindFor_74 : decode cX5_kindFor 74 = .ok (.iload 5, 2) := by decide +kernel
theorem dX5_kindFor_76 : decode cX5_kindFor 76 = .ok (.iastore, 1) := by decide +kernel
theorem dX5_kindFor_77 : decode cX5_kindFor 77 = .ok (.aload_n 0, 1) := by decide +kernel
theorem dX5_kindFor_78 : decode cX5_kindFor 78 = .ok (.getfield 26, 3) := by decide +kernel
theorem dX5_kindFor_81 : decode cX5_kindFor 81 = .ok (.iconst 0, 1) := by decide +kernel
theorem dX5_kindFor_82 : decode cX5_kindFor 82 = .ok (.invokevirtual 171, 3) := by decide +kernel
theorem dX5_kindFor_85 : decode cX5_kindFor 85 = .ok (.aload_n 0, 1) := by decide +kernel
theorem dX5_kindFor_86 : decode cX5_kindFor 86 = .ok (.getfield 26, 3) := by decide +kernel
theorem dX5_kindFor_89 : decode cX5_kindFor 89 = .ok (.iconst 1, 1) := by decide +kernel
theorem dX5_kindFor_90 : decode cX5_kindFor 90 = .ok (.invokevirtual 171, 3) := by decide +kernel
theorem dX5_kindFor_93 : decode cX5_kindFor 93 = .ok (.iadd, 1) := by decide +kernel
theorem dX5_kindFor_94 : decode cX5_kindFor 94 = .ok (.istore 6, 2) := by decide +kernel
theorem dX5_kindFor_96 : decode cX5_kindFor 96 = .ok (.aload_n 0, 1) := by decide +kernel
theorem dX5_kindFor_97 : decode cX5_kindFor 97 = .ok (.getfield 26, 3) := by decide +kernel
theorem dX5_kindFor_100 : decode cX5_kindFor 100 = .ok (.iload_n 2, 1) := by decide +kernel
theorem dX5_kindFor_101 : decode cX5_kindFor 101 = .ok (.invokevirtual 165, 3) := by decide +kernel
theorem dX5_kindFor_104 : decode cX5_kindFor 104 = .ok (.pop, 1) := by decide +kernel
theorem dX5_kindFor_105 : decode cX5_kindFor 105 = .ok (.aload_n 0, 1) := by decide +kernel
theorem dX5_kindFor_106 : decode cX5_kindFor 106 = .ok (.getfield 26, 3) := by decide +kernel
theorem dX5_kindFor_109 : decode cX5_kindFor 109 = .ok (.iconst 0, 1) := by decide +kernel
theorem dX5_kindFor_110 : decode cX5_kindFor 110 = .ok (.invokevirtual 171, 3) := by decide +kernel
theorem dX5_kindFor_113 : decode cX5_kindFor 113 = .ok (.aload_n 0, 1) := by decide +kernel
theorem dX5_kindFor_114 : decode cX5_kindFor 114 = .ok (.getfield 26, 3) := by decide +kernel
theorem dX5_kindFor_117 : decode cX5_kindFor 117 = .ok (.iconst 1, 1) := by decide +kernel
theorem dX5_kindFor_118 : decode cX5_kindFor 118 = .ok (.invokevirtual 171, 3) := by decide +kernel
theorem dX5_kindFor_121 : decode cX5_kindFor 121 = .ok (.iadd, 1) := by decide +kernel
theorem dX5_kindFor_122 : decode cX5_kindFor 122 = .ok (.iload 6, 2) := by decide +kernel
theorem dX5_kindFor_124 : decode cX5_kindFor 124 = .ok (.isub, 1) := by decide +kernel
theorem dX5_kindFor_125 : decode cX5_kindFor 125 = .ok (.istore 7, 2) := by decide +kernel
theorem dX5_kindFor_127 : decode cX5_kindFor 127 = .ok (.iload 5, 2) := by decide +kernel
theorem dX5_kindFor_129 : decode cX5_kindFor 129 = .ok (.ifCond .eq 10, 3) := by decide +kernel
theorem dX5_kindFor_132 : decode cX5_kindFor 132 = .ok (.iload 7, 2) := by decide +kernel
theorem dX5_kindFor_134 : decode cX5_kindFor 134 = .ok (.iload 4, 2) := by decide +kernel
theorem dX5_kindFor_136 : decode cX5_kindFor 136 = .ok (.if_icmp .le 10, 3) := by decide +kernel
theorem dX5_kindFor_139 : decode cX5_kindFor 139 = .ok (.iload 5, 2) := by decide +kernel
theorem dX5_kindFor_141 : decode cX5_kindFor 141 = .ok (.istore_n 3, 1) := by decide +kernel
theorem dX5_kindFor_142 : decode cX5_kindFor 142 = .ok (.iload 7, 2) := by decide +kernel
theorem dX5_kindFor_144 : decode cX5_kindFor 144 = .ok (.istore 4, 2) := by decide +kernel
theorem dX5_kindFor_146 : decode cX5_kindFor 146 = .ok (.iinc 5 1, 3) := by decide +kernel
theorem dX5_kindFor_149 : decode cX5_kindFor 149 = .ok (.goto (-104), 3) := by decide +kernel
theorem dX5_kindFor_152 : decode cX5_kindFor 152 = .ok (.iload_n 3, 1) := by decide +kernel
theorem dX5_kindFor_153 : decode cX5_kindFor 153 = .ok (.ireturn, 1) := by decide +kernel
set_option maxRecDepth 20000 in
theorem ggX5_temptation_X5_isSide : GoodIn wsX5_temptation wsX5_isSide := goodIn_r _ [7, 8, 9, 6, 10] (by decide +kernel) (by decide +kernel)
set_option maxRecDepth 20000 in
theorem gX5_temptation_X5_isSide : GoodIn wsX5_temptation (va_wsS RX5 65 yX5_isSide wsX5_isSide) := goodIn_app (goodIn_of _ (by decide +kernel)) ggX5_temptation_X5_isSide
set_option maxRecDepth 20000 in
theorem ggX5_temptation_X5_isIn : GoodIn wsX5_temptation wsX5_isIn := goodIn_r _ [10] (by decide +kernel) (by decide +kernel)
set_option maxRecDepth 20000 in
theorem gX5_temptation_X5_isIn : GoodIn wsX5_temptation (va_wsS RX5 68 yX5_isIn wsX5_isIn) := goodIn_app (goodIn_of _ (by decide +kernel)) ggX5_temptation_X5_isIn
set_option maxRecDepth 20000 in
theorem ggX5_temptation_X5_finding : GoodIn wsX5_temptation wsX5_finding := goodIn_r _ [14, 15, 16, 114, 115, 116, 117, 118, 119, 120] (by decide +kernel) (by decide +kernel)
set_option maxRecDepth 20000 in
theorem gX5_temptation_X5_finding : GoodIn wsX5_temptation (wsV RX5 55 RX5 yX5_finding wsX5_finding) := goodIn_app (goodIn_of _ (by decide +kernel)) ggX5_temptation_X5_finding
set_option maxRecDepth 20000 in
theorem ggX5_temptation_X5_isTooLate : GoodIn wsX5_temptation wsX5_isTooLate := goodIn_r _ [20, 2, 3, 21, 114, 115, 116, 117, 118, 119, 120, 121, 122, 123, 124, 125, 126, 127, 128, 129, 130, 131, 132, 133, 134] (by decide +kernel) (by decide +kernel)
set_option maxRecDepth 20000 in
theorem gX5_temptation_X5_isTooLate : GoodIn wsX5_temptation (wsV RX5 136 RX5 yX5_isTooLate wsX5_isTooLate) := goodIn_app (goodIn_of _ (by decide +kernel)) ggX5_temptation_X5_isTooLate
set_option maxRecDepth 20000 in
theorem ggX5_temptation_X1_copyFrom : GoodIn wsX5_temptation wsX1_copyFrom := goodIn_r _ [26, 27, 28, 29, 30, 31, 32, 33, 34, 35, 36, 37, 38, 39, 40, 125, 126, 127, 128, 129, 130, 131, 132, 133, 134] (by decide +kernel) (by decide +kernel)
set_option maxRecDepth 20000 in
theorem gX5_temptation_X1_copyFrom : GoodIn wsX5_temptation (wsV RX5 161 RX1 yX1_copyFrom wsX1_copyFrom) := goodIn_app (goodIn_of _ (by decide +kernel)) ggX5_temptation_X1_copyFrom
set_option maxRecDepth 20000 in
theorem ggX5_temptation_X1_bringHome : GoodIn wsX5_temptation wsX1_bringHome := goodIn_r _ [44, 33, 45, 46, 47, 25, 48, 32, 49, 50, 51, 52, 125, 126, 127, 128, 129, 130, 131, 132, 133, 134] (by decide +kernel) (by decide +kernel)
set_option maxRecDepth 20000 in
theorem gX5_temptation_X1_bringHome : GoodIn wsX5_temptation (wsV RX5 124 RX1 yX1_bringHome wsX1_bringHome) := goodIn_app (goodIn_of _ (by decide +kernel)) ggX5_temptation_X1_bringHome
set_option maxRecDepth 20000 in
theorem ggX5_temptation_X1_wealth : GoodIn wsX5_temptation wsX1_wealth := goodIn_r _ [56, 32, 33, 57, 58, 59, 25, 60, 34, 27, 37, 125, 126, 127, 128, 129, 130, 131, 132, 133, 134] (by decide +kernel) (by decide +kernel)
set_option maxRecDepth 20000 in
theorem gX5_temptation_X1_wealth : GoodIn wsX5_temptation (wsV RX5 171 RX1 yX1_wealth wsX1_wealth) := goodIn_app (goodIn_of _ (by decide +kernel)) ggX5_temptation_X1_wealth
set_option maxRecDepth 20000 in
theorem ggX5_temptation_X1_passNights : GoodIn wsX5_temptation wsX1_passNights := goodIn_r _ [64, 65, 66, 67, 25, 68, 38, 69, 70, 71, 72, 36, 73, 74, 75, 76, 33, 77, 78, 79, 80, 35, 81, 82, 83, 84, 57, 58, 59, 60, 34, 27, 37, 85, 86, 87, 88, 89, 90, 91, 92, 39, 93, 42, 43, 44, 45, 46, 47, 48, 32, 49, 50, 51, 52, 94, 95, 96, 97, 98, 99, 100, 101, 102, 103, 104, 105, 106, 107, 108, 109, 40, 110, 111, 112, 113, 125, 126, 127, 128, 129, 130, 131, 132, 133, 134] (by decide +kernel) (by decide +kernel)
set_option maxRecDepth 20000 in
theorem gX5_temptation_X1_passNights : GoodIn wsX5_temptation (wsV RX5 165 RX1 yX1_passNights wsX1_passNights) := goodIn_app (goodIn_of _ (by decide +kernel)) ggX5_temptation_X1_passNights
theorem dX5_temptation_0 : decode cX5_temptation 0 = .ok (.iload_n 1, 1) := by decide +kernel
theorem dX5_temptation_1 : decode cX5_temptation 1 = .ok (.invokestatic 65, 3) := by decide +kernel
theorem dX5_temptation_4 : decode cX5_temptation 4 = .ok (.ifCond .eq 13, 3) := by decide +kernel
theorem dX5_temptation_7 : decode cX5_temptation 7 = .ok (.iload_n 2, 1) := by decide +kernel
theorem dX5_temptation_8 : decode cX5_temptation 8 = .ok (.iconst 1, 1) := by decide +kernel
theorem dX5_temptation_9 : decode cX5_temptation 9 = .ok (.bipush 60, 2) := by decide +kernel
theorem dX5_temptation_11 : decode cX5_temptation 11 = .ok (.invokestatic 68, 3) := by decide +kernel
theorem dX5_temptation_14 : decode cX5_temptation 14 = .ok (.ifCond .ne 9, 3) := by decide +kernel
theorem dX5_temptation_17 : decode cX5_temptation 17 = .ok (.aload_n 0, 1) := by decide +kernel
theorem dX5_temptation_18 : decode cX5_temptation 18 = .ok (.iconst 0, 1) := by decide +kernel
theorem dX5_temptation_19 : decode cX5_temptation 19 = .ok (.invokevirtual 55, 3) := by decide +kernel
theorem dX5_temptation_22 : decode cX5_temptation 22 = .ok (.ireturn, 1) := by decide +kernel
theorem dX5_temptation_23 : decode cX5_temptation 23 = .ok (.aload_n 0, 1) := by decide +kernel
theorem dX5_temptation_24 : decode cX5_temptation 24 = .ok (.iload_n 2, 1) := by decide +kernel
theorem dX5_temptation_25 : decode cX5_temptation 25 = .ok (.invokevirtual 136, 3) := by decide +kernel
theorem dX5_temptation_28 : decode cX5_temptation 28 = .ok (.ifCond .eq 9, 3) := by decide +kernel
theorem dX5_temptation_31 : decode cX5_temptation 31 = .ok (.aload_n 0, 1) := by decide +kernel
theorem dX5_temptation_32 : decode cX5_temptation 32 = .ok (.iconst 4, 1) := by decide +kernel
theorem dX5_temptation_33 : decode cX5_temptation 33 = .ok (.invokevirtual 55, 3) := by decide +kernel
theorem dX5_temptation_36 : decode cX5_temptation 36 = .ok (.ireturn, 1) := by decide +kernel
theorem dX5_temptation_37 : decode cX5_temptation 37 = .ok (.aload_n 0, 1) := by decide +kernel
theorem dX5_temptation_38 : decode cX5_temptation 38 = .ok (.getfield 26, 3) := by decide +kernel
theorem dX5_temptation_41 : decode cX5_temptation 41 = .ok (.aload_n 0, 1) := by decide +kernel
theorem dX5_temptation_42 : decode cX5_temptation 42 = .ok (.getfield 10, 3) := by decide +kernel
theorem dX5_temptation_45 : decode cX5_temptation 45 = .ok (.getfield 59, 3) := by decide +kernel
theorem dX5_temptation_48 : decode cX5_temptation 48 = .ok (.invokevirtual 161, 3) := by decide +kernel
theorem dX5_temptation_51 : decode cX5_temptation 51 = .ok (.aload_n 0, 1) := by decide +kernel
theorem dX5_temptation_52 : decode cX5_temptation 52 = .ok (.getfield 26, 3) := by decide +kernel
theorem dX5_temptation_55 : decode cX5_temptation 55 = .ok (.iconst 1, 1) := by decide +kernel
theorem dX5_temptation_56 : decode cX5_temptation 56 = .ok (.iload_n 1, 1) := by decide +kernel
theorem dX5_temptation_57 : decode cX5_temptation 57 = .ok (.isub, 1) := by decide +kernel
theorem dX5_temptation_58 : decode cX5_temptation 58 = .ok (.iload_n 1, 1) := by decide +kernel
theorem dX5_temptation_59 : decode cX5_temptation 59 = .ok (.invokevirtual 124, 3) := by decide +kernel
theorem dX5_temptation_62 : decode cX5_temptation 62 = .ok (.aload_n 0, 1) := by decide +kernel
theorem dX5_temptation_63 : decode cX5_temptation 63 = .ok (.getfield 26, 3) := by decide +kernel
theorem dX5_temptation_66 : decode cX5_temptation 66 = .ok (.iload_n 1, 1) := by decide +kernel
theorem dX5_temptation_67 : decode cX5_temptation 67 = .ok (.invokevirtual 171, 3) := by decide +kernel
theorem dX5_temptation_70 : decode cX5_temptation 70 = .ok (.istore_n 3, 1) := by decide +kernel
theorem dX5_temptation_71 : decode cX5_temptation 71 = .ok (.aload_n 0, 1) := by decide +kernel
theorem dX5_temptation_72 : decode cX5_temptation 72 = .ok (.getfield 26, 3) := by decide +kernel
theorem dX5_temptation_75 : decode cX5_temptation 75 = .ok (.aload_n 0, 1) := by decide +kernel
theorem dX5_temptation_76 : decode cX5_temptation 76 = .ok (.getfield 10, 3) := by decide +kernel
theorem dX5_temptation_79 : decode cX5_temptation 79 = .ok (.getfield 59, 3) := by decide +kernel
theorem dX5_temptation_82 : decode cX5_temptation 82 = .ok (.invokevirtual 161, 3) := by decide +kernel
theorem dX5_temptation_85 : decode cX5_temptation 85 = .ok (.aload_n 0, 1) := by decide +kernel
theorem dX5_temptation_86 : decode cX5_temptation 86 = .ok (.getfield 26, 3) := by decide +kernel
theorem dX5_temptation_89 : decode cX5_temptation 89 = .ok (.iload_n 2, 1) := by decide +kernel
theorem dX5_temptation_90 : decode cX5_temptation 90 = .ok (.invokevirtual 165, 3) := by decide +kernel
theorem dX5_temptation_93 : decode cX5_temptation 93 = .ok (.pop, 1) := by decide +kernel
theorem dX5_temptation_94 : decode cX5_temptation 94 = .ok (.iload_n 3, 1) := by decide +kernel
theorem dX5_temptation_95 : decode cX5_temptation 95 = .ok (.aload_n 0, 1) := by decide +kernel
theorem dX5_temptation_96 : decode cX5_temptation 96 = .ok (.getfield 26, 3) := by decide +kernel
theorem dX5_temptation_99 : decode cX5_temptation 99 = .ok (.iload_n 1, 1) := by decide +kernel
theorem dX5_temptation_100 : decode cX5_temptation 100 = .ok (.invokevirtual 171, 3) := by decide +kernel
theorem dX5_temptation_103 : decode cX5_temptation 103 = .ok (.isub, 1) := by decide +kernel
theorem dX5_temptation_104 : decode cX5_temptation 104 = .ok (.ireturn, 1) := by decide +kernel
set_option maxRecDepth 20000 in
theorem ggX5_bundle_X5_bundleGains : GoodIn wsX5_bundle wsX5_bundleGains := goodIn_r _ [5, 6, 7, 8, 9, 10, 11, 12, 13, 14, 15, 16, 23, 24, 25, 26, 27, 28, 29, 30, 31, 32, 33, 34, 35, 36, 37, 38, 39, 40, 41, 42, 43] (by decide +kernel) (by decide +kernel)
set_option maxRecDepth 20000 in
theorem gX5_bundle_X5_bundleGains : GoodIn wsX5_bundle (wsV RX5 181 RX5 yX5_bundleGains wsX5_bundleGains) := goodIn_app (goodIn_of _ (by decide +kernel)) ggX5_bundle_X5_bundleGains
set_option maxRecDepth 20000 in
theorem ggX5_bundle_X5_finding : GoodIn wsX5_bundle wsX5_finding := goodIn_r _ [20, 21, 22, 23, 24, 25, 26, 27, 28, 29] (by decide +kernel) (by decide +kernel)
set_option maxRecDepth 20000 in
theorem gX5_bundle_X5_finding : GoodIn wsX5_bundle (wsV RX5 55 RX5 yX5_finding wsX5_finding) := goodIn_app (goodIn_of _ (by decide +kernel)) ggX5_bundle_X5_finding
theorem dX5_bundle_0 : decode cX5_bundle 0 = .ok (.iconst (-1), 1) := by decide +kernel
theorem dX5_bundle_1 : decode cX5_bundle 1 = .ok (.istore_n 1, 1) := by decide +kernel
theorem dX5_bundle_2 : decode cX5_bundle 2 = .ok (.iconst 0, 1) := by decide +kernel
theorem dX5_bundle_3 : decode cX5_bundle 3 = .ok (.istore_n 2, 1) := by decide +kernel
theorem dX5_bundle_4 : decode cX5_bundle 4 = .ok (.iconst 0, 1) := by decide +kernel
theorem dX5_bundle_5 : decode cX5_bundle 5 = .ok (.istore_n 3, 1) := by decide +kernel
theorem dX5_bundle_6 : decode cX5_bundle 6 = .ok (.iload_n 3, 1) := by decide +kernel
theorem dX5_bundle_7 : decode cX5_bundle 7 = .ok (.iconst 5, 1) := by decide +kernel
theorem dX5_bundle_8 : decode cX5_bundle 8 = .ok (.if_icmp .ge 50, 3) := by decide +kernel
theorem dX5_bundle_11 : decode cX5_bundle 11 = .ok (.iconst 0, 1) := by decide +kernel
theorem dX5_bundle_12 : decode cX5_bundle 12 = .ok (.istore 4, 2) := by decide +kernel
theorem dX5_bundle_14 : decode cX5_bundle 14 = .ok (.iload 4, 2) := by decide +kernel
theorem dX5_bundle_16 : decode cX5_bundle 16 = .ok (.iconst 5, 1) := by decide +kernel
theorem dX5_bundle_17 : decode cX5_bundle 17 = .ok (.if_icmp .ge 35, 3) := by decide +kernel
theorem dX5_bundle_20 : decode cX5_bundle 20 = .ok (.aload_n 0, 1) := by decide +kernel
theorem dX5_bundle_21 : decode cX5_bundle 21 = .ok (.iload_n 3, 1) := by decide +kernel
theorem dX5_bundle_22 : decode cX5_bundle 22 = .ok (.iload 4, 2) := by decide +kernel
theorem dX5_bundle_24 : decode cX5_bundle 24 = .ok (.invokevirtual 181, 3) := by decide +kernel
theorem dX5_bundle_27 : decode cX5_bundle 27 = .ok (.istore 5, 2) := by decide +kernel
theorem dX5_bundle_29 : decode cX5_bundle 29 = .ok (.iload 5, 2) := by decide +kernel
theorem dX5_bundle_31 : decode cX5_bundle 31 = .ok (.iload_n 2, 1) := by decide +kernel
theorem dX5_bundle_32 : decode cX5_bundle 32 = .ok (.if_icmp .le 14, 3) := by decide +kernel
theorem dX5_bundle_35 : decode cX5_bundle 35 = .ok (.iload 5, 2) := by decide +kernel
theorem dX5_bundle_37 : decode cX5_bundle 37 = .ok (.istore_n 2, 1) := by decide +kernel
theorem dX5_bundle_38 : decode cX5_bundle 38 = .ok (.bipush 10, 2) := by decide +kernel
theorem dX5_bundle_40 : decode cX5_bundle 40 = .ok (.iload_n 3, 1) := by decide +kernel
theorem dX5_bundle_41 : decode cX5_bundle 41 = .ok (.imul, 1) := by decide +kernel
theorem dX5_bundle_42 : decode cX5_bundle 42 = .ok (.iload 4, 2) := by decide +kernel
theorem dX5_bundle_44 : decode cX5_bundle 44 = .ok (.iadd, 1) := by decide +kernel
theorem dX5_bundle_45 : decode cX5_bundle 45 = .ok (.istore_n 1, 1) := by decide +kernel
theorem dX5_bundle_46 : decode cX5_bundle 46 = .ok (.iinc 4 1, 3) := by decide +kernel
theorem dX5_bundle_49 : decode cX5_bundle 49 = .ok (.goto (-35), 3) := by decide +kernel
theorem dX5_bundle_52 : decode cX5_bundle 52 = .ok (.iinc 3 1, 3) := by decide +kernel
theorem dX5_bundle_55 : decode cX5_bundle 55 = .ok (.goto (-49), 3) := by decide +kernel
theorem dX5_bundle_58 : decode cX5_bundle 58 = .ok (.iload_n 1, 1) := by decide +kernel
theorem dX5_bundle_59 : decode cX5_bundle 59 = .ok (.ifCond .ge 11, 3) := by decide +kernel
theorem dX5_bundle_62 : decode cX5_bundle 62 = .ok (.aload_n 0, 1) := by decide +kernel
theorem dX5_bundle_63 : decode cX5_bundle 63 = .ok (.iconst 3, 1) := by decide +kernel
theorem dX5_bundle_64 : decode cX5_bundle 64 = .ok (.invokevirtual 55, 3) := by decide +kernel
theorem dX5_bundle_67 : decode cX5_bundle 67 = .ok (.goto 4, 3) := by decide +kernel
theorem dX5_bundle_70 : decode cX5_bundle 70 = .ok (.iload_n 1, 1) := by decide +kernel
theorem dX5_bundle_71 : decode cX5_bundle 71 = .ok (.ireturn, 1) := by decide +kernel
set_option maxRecDepth 20000 in
theorem ggX5_book_X5_isIn : GoodIn wsX5_book wsX5_isIn := goodIn_r _ [7] (by decide +kernel) (by decide +kernel)
set_option maxRecDepth 20000 in
theorem gX5_book_X5_isIn : GoodIn wsX5_book (va_wsS RX5 68 yX5_isIn wsX5_isIn) := goodIn_app (goodIn_of _ (by decide +kernel)) ggX5_book_X5_isIn
set_option maxRecDepth 20000 in
theorem ggX5_book_X5_finding : GoodIn wsX5_book wsX5_finding := goodIn_r _ [11, 12, 13, 25, 26, 27, 28, 29, 30, 31] (by decide +kernel) (by decide +kernel)
set_option maxRecDepth 20000 in
theorem gX5_book_X5_finding : GoodIn wsX5_book (wsV RX5 55 RX5 yX5_finding wsX5_finding) := goodIn_app (goodIn_of _ (by decide +kernel)) ggX5_book_X5_finding
set_option maxRecDepth 20000 in
theorem ggX5_book_X0_latest : GoodIn wsX5_book wsX0_latest := goodIn_r _ [18, 19, 20, 21, 22, 23, 24, 36, 37, 38] (by decide +kernel) (by decide +kernel)
set_option maxRecDepth 20000 in
theorem gX5_book_X0_latest : GoodIn wsX5_book (wsV RX5 184 RX0 yX0_latest wsX0_latest) := goodIn_app (goodIn_of _ (by decide +kernel)) ggX5_book_X0_latest
theorem dX5_book_0 : decode cX5_book 0 = .ok (.iload_n 1, 1) := by decide +kernel
theorem dX5_book_1 : decode cX5_book 1 = .ok (.ifCond .lt 13, 3) := by decide +kernel
theorem dX5_book_4 : decode cX5_book 4 = .ok (.iload_n 2, 1) := by decide +kernel
theorem dX5_book_5 : decode cX5_book 5 = .ok (.iconst 0, 1) := by decide +kernel
theorem dX5_book_6 : decode cX5_book 6 = .ok (.bipush 6, 2) := by decide +kernel
theorem dX5_book_8 : decode cX5_book 8 = .ok (.invokestatic 68, 3) := by decide +kernel
theorem dX5_book_11 : decode cX5_book 11 = .ok (.ifCond .ne 9, 3) := by decide +kernel
theorem dX5_book_14 : decode cX5_book 14 = .ok (.aload_n 0, 1) := by decide +kernel
theorem dX5_book_15 : decode cX5_book 15 = .ok (.iconst 0, 1) := by decide +kernel
theorem dX5_book_16 : decode cX5_book 16 = .ok (.invokevirtual 55, 3) := by decide +kernel
theorem dX5_book_19 : decode cX5_book 19 = .ok (.ireturn, 1) := by decide +kernel
theorem dX5_book_20 : decode cX5_book 20 = .ok (.iload_n 1, 1) := by decide +kernel
theorem dX5_book_21 : decode cX5_book 21 = .ok (.aload_n 0, 1) := by decide +kernel
theorem dX5_book_22 : decode cX5_book 22 = .ok (.getfield 10, 3) := by decide +kernel
theorem dX5_book_25 : decode cX5_book 25 = .ok (.getfield 149, 3) := by decide +kernel
theorem dX5_book_28 : decode cX5_book 28 = .ok (.getfield 153, 3) := by decide +kernel
theorem dX5_book_31 : decode cX5_book 31 = .ok (.if_icmp .lt 9, 3) := by decide +kernel
theorem dX5_book_34 : decode cX5_book 34 = .ok (.aload_n 0, 1) := by decide +kernel
theorem dX5_book_35 : decode cX5_book 35 = .ok (.iconst 3, 1) := by decide +kernel
theorem dX5_book_36 : decode cX5_book 36 = .ok (.invokevirtual 55, 3) := by decide +kernel
theorem dX5_book_39 : decode cX5_book 39 = .ok (.ireturn, 1) := by decide +kernel
theorem dX5_book_40 : decode cX5_book 40 = .ok (.aload_n 0, 1) := by decide +kernel
theorem dX5_book_41 : decode cX5_book 41 = .ok (.getfield 10, 3) := by decide +kernel
theorem dX5_book_44 : decode cX5_book 44 = .ok (.getfield 149, 3) := by decide +kernel
theorem dX5_book_47 : decode cX5_book 47 = .ok (.iload_n 1, 1) := by decide +kernel
theorem dX5_book_48 : decode cX5_book 48 = .ok (.invokevirtual 184, 3) := by decide +kernel
theorem dX5_book_51 : decode cX5_book 51 = .ok (.astore_n 3, 1) := by decide +kernel
theorem dX5_book_52 : decode cX5_book 52 = .ok (.iload_n 2, 1) := by decide +kernel
theorem dX5_book_53 : decode cX5_book 53 = .ok (.lookupswitch 37 #[(0, 27), (1, 32)], 27) := by decide +kernel
theorem dX5_book_80 : decode cX5_book 80 = .ok (.aload_n 3, 1) := by decide +kernel
theorem dX5_book_81 : decode cX5_book 81 = .ok (.bipush 13, 2) := by decide +kernel
theorem dX5_book_83 : decode cX5_book 83 = .ok (.iaload, 1) := by decide +kernel
theorem dX5_book_84 : decode cX5_book 84 = .ok (.ireturn, 1) := by decide +kernel
theorem dX5_book_85 : decode cX5_book 85 = .ok (.aload_n 3, 1) := by decide +kernel
theorem dX5_book_86 : decode cX5_book 86 = .ok (.bipush 12, 2) := by decide +kernel
theorem dX5_book_88 : decode cX5_book 88 = .ok (.iaload, 1) := by decide +kernel
theorem dX5_book_89 : decode cX5_book 89 = .ok (.ireturn, 1) := by decide +kernel
theorem dX5_book_90 : decode cX5_book 90 = .ok (.aload_n 3, 1) := by decide +kernel
theorem dX5_book_91 : decode cX5_book 91 = .ok (.aload_n 3, 1) := by decide +kernel
theorem dX5_book_92 : decode cX5_book 92 = .ok (.bipush 12, 2) := by decide +kernel
theorem dX5_book_94 : decode cX5_book 94 = .ok (.iaload, 1) := by decide +kernel
theorem dX5_book_95 : decode cX5_book 95 = .ok (.iconst 5, 1) := by decide +kernel
theorem dX5_book_96 : decode cX5_book 96 = .ok (.imul, 1) := by decide +kernel
theorem dX5_book_97 : decode cX5_book 97 = .ok (.iload_n 2, 1) := by decide +kernel
theorem dX5_book_98 : decode cX5_book 98 = .ok (.iadd, 1) := by decide +kernel
theorem dX5_book_99 : decode cX5_book 99 = .ok (.iconst 2, 1) := by decide +kernel
theorem dX5_book_100 : decode cX5_book 100 = .ok (.isub, 1) := by decide +kernel
theorem dX5_book_101 : decode cX5_book 101 = .ok (.iaload, 1) := by decide +kernel
theorem dX5_book_102 : decode cX5_book 102 = .ok (.ireturn, 1) := by decide +kernel
set_option maxRecDepth 20000 in
theorem ggX5_fits_X5_isSide : GoodIn wsX5_fits wsX5_isSide := goodIn_r _ [4, 5, 6, 3, 7] (by decide +kernel) (by decide +kernel)
set_option maxRecDepth 20000 in
theorem gX5_fits_X5_isSide : GoodIn wsX5_fits (va_wsS RX5 65 yX5_isSide wsX5_isSide) := goodIn_app (goodIn_of _ (by decide +kernel)) ggX5_fits_X5_isSide
set_option maxRecDepth 20000 in
theorem ggX5_fits_X5_isThing : GoodIn wsX5_fits wsX5_isThing := goodIn_r _ [10, 5, 6, 3, 7] (by decide +kernel) (by decide +kernel)
set_option maxRecDepth 20000 in
theorem gX5_fits_X5_isThing : GoodIn wsX5_fits (va_wsS RX5 48 yX5_isThing wsX5_isThing) := goodIn_app (goodIn_of _ (by decide +kernel)) ggX5_fits_X5_isThing
set_option maxRecDepth 20000 in
theorem ggX5_fits_X5_finding : GoodIn wsX5_fits wsX5_finding := goodIn_r _ [14, 15, 16, 85, 86, 87, 88, 89, 90, 91] (by decide +kernel) (by decide +kernel)
set_option maxRecDepth 20000 in
theorem gX5_fits_X5_finding : GoodIn wsX5_fits (wsV RX5 55 RX5 yX5_finding wsX5_finding) := goodIn_app (goodIn_of _ (by decide +kernel)) ggX5_fits_X5_finding
set_option maxRecDepth 20000 in
theorem ggX5_fits_X5_fittingWorths : GoodIn wsX5_fits wsX5_fittingWorths := goodIn_r _ [20, 21, 22, 23, 24, 25, 26, 27, 28, 29, 30, 31, 32, 33, 34, 35, 36, 37, 38, 39, 40, 41, 42, 43, 44, 45, 46, 3, 47, 48, 49, 50, 51, 52, 53, 54, 55, 56, 57, 58, 59, 60, 61, 62, 63, 64, 65, 66, 67, 68, 69, 70, 71, 72, 73, 74, 75, 76, 77, 78, 79, 80, 81, 82, 83, 84, 85, 86, 87, 88, 89, 90, 91, 92, 93, 94, 95, 96, 97, 98, 99, 100, 101, 102, 103, 104, 105, 106, 107, 108] (by decide +kernel) (by decide +kernel)
set_option maxRecDepth 20000 in
theorem gX5_fits_X5_fittingWorths : GoodIn wsX5_fits (wsV RX5 187 RX5 yX5_fittingWorths wsX5_fittingWorths) := goodIn_app (goodIn_of _ (by decide +kernel)) ggX5_fits_X5_fittingWorths
theorem dX5_fits_0 : decode cX5_fits 0 = .ok (.iload_n 1, 1) := by decide +kernel
theorem dX5_fits_1 : decode cX5_fits 1 = .ok (.invokestatic 65, 3) := by decide +kernel
theorem dX5_fits_4 : decode cX5_fits 4 = .ok (.ifCond .eq 10, 3) := by decide +kernel
theorem dX5_fits_7 : decode cX5_fits 7 = .ok (.iload_n 2, 1) := by decide +kernel
theorem dX5_fits_8 : decode cX5_fits 8 = .ok (.invokestatic 48, 3) := by decide +kernel
theorem dX5_fits_11 : decode cX5_fits 11 = .ok (.ifCond .ne 9, 3) := by decide +kernel
theorem dX5_fits_14 : decode cX5_fits 14 = .ok (.aload_n 0, 1) := by decide +kernel
theorem dX5_fits_15 : decode cX5_fits 15 = .ok (.iconst 0, 1) := by decide +kernel
theorem dX5_fits_16 : decode cX5_fits 16 = .ok (.invokevirtual 55, 3) := by decide +kernel
theorem dX5_fits_19 : decode cX5_fits 19 = .ok (.ireturn, 1) := by decide +kernel
theorem dX5_fits_20 : decode cX5_fits 20 = .ok (.aload_n 0, 1) := by decide +kernel
theorem dX5_fits_21 : decode cX5_fits 21 = .ok (.iload_n 1, 1) := by decide +kernel
theorem dX5_fits_22 : decode cX5_fits 22 = .ok (.iload_n 2, 1) := by decide +kernel
theorem dX5_fits_23 : decode cX5_fits 23 = .ok (.invokevirtual 187, 3) := by decide +kernel
theorem dX5_fits_26 : decode cX5_fits 26 = .ok (.ireturn, 1) := by decide +kernel
set_option maxRecDepth 20000 in
theorem ggX5_greeds_X5_isSide : GoodIn wsX5_greeds wsX5_isSide := goodIn_r _ [8, 9, 10, 7, 11] (by decide +kernel) (by decide +kernel)
set_option maxRecDepth 20000 in
theorem gX5_greeds_X5_isSide : GoodIn wsX5_greeds (va_wsS RX5 65 yX5_isSide wsX5_isSide) := goodIn_app (goodIn_of _ (by decide +kernel)) ggX5_greeds_X5_isSide
set_option maxRecDepth 20000 in
theorem ggX5_greeds_X5_finding : GoodIn wsX5_greeds wsX5_finding := goodIn_r _ [15, 16, 17, 78, 79, 80, 81, 82, 83, 84] (by decide +kernel) (by decide +kernel)
set_option maxRecDepth 20000 in
theorem gX5_greeds_X5_finding : GoodIn wsX5_greeds (wsV RX5 55 RX5 yX5_finding wsX5_finding) := goodIn_app (goodIn_of _ (by decide +kernel)) ggX5_greeds_X5_finding
set_option maxRecDepth 20000 in
theorem ggX5_greeds_X1_copyFrom : GoodIn wsX5_greeds wsX1_copyFrom := goodIn_r _ [22, 23, 24, 25, 26, 27, 28, 29, 30, 31, 32, 33, 34, 35, 36, 89, 90, 91, 92, 93, 94, 95, 96, 97, 98] (by decide +kernel) (by decide +kernel)
set_option maxRecDepth 20000 in
theorem gX5_greeds_X1_copyFrom : GoodIn wsX5_greeds (wsV RX5 161 RX1 yX1_copyFrom wsX1_copyFrom) := goodIn_app (goodIn_of _ (by decide +kernel)) ggX5_greeds_X1_copyFrom
set_option maxRecDepth 20000 in
theorem ggX5_greeds_X5_trialAgreesWithBooks : GoodIn wsX5_greeds wsX5_trialAgreesWithBooks := goodIn_r _ [40, 2, 41, 42, 1, 43, 44, 45, 46, 47, 48, 49, 50, 51, 52, 53, 54, 55, 56, 21, 57, 29, 24, 25, 26, 27, 33, 32, 58, 59, 60, 61, 62, 63, 64, 65, 66, 67, 68, 69, 31, 70, 71, 72, 73, 74, 75, 76, 77, 30, 23, 78, 79, 80, 81, 82, 83, 84, 85, 86, 87, 88, 99, 100, 101, 89, 90, 91, 92, 93, 94, 95, 96, 97, 98] (by decide +kernel) (by decide +kernel)
set_option maxRecDepth 20000 in
theorem gX5_greeds_X5_trialAgreesWithBooks : GoodIn wsX5_greeds (wsV RX5 190 RX5 yX5_trialAgreesWithBooks wsX5_trialAgreesWithBooks) := goodIn_app (goodIn_of _ (by decide +kernel)) ggX5_greeds_X5_trialAgreesWithBooks
theorem dX5_greeds_0 : decode cX5_greeds 0 = .ok (.iload_n 1, 1) := by decide +kernel
theorem dX5_greeds_1 : decode cX5_greeds 1 = .ok (.invokestatic 65, 3) := by decide +kernel
theorem dX5_greeds_4 : decode cX5_greeds 4 = .ok (.ifCond .ne 9, 3) := by decide +kernel
theorem dX5_greeds_7 : decode cX5_greeds 7 = .ok (.aload_n 0, 1) := by decide +kernel
theorem dX5_greeds_8 : decode cX5_greeds 8 = .ok (.iconst 0, 1) := by decide +kernel
theorem dX5_greeds_9 : decode cX5_greeds 9 = .ok (.invokevirtual 55, 3) := by decide +kernel
theorem dX5_greeds_12 : decode cX5_greeds 12 = .ok (.ireturn, 1) := by decide +kernel
theorem dX5_greeds_13 : decode cX5_greeds 13 = .ok (.aload_n 0, 1) := by decide +kernel
theorem dX5_greeds_14 : decode cX5_greeds 14 = .ok (.getfield 26, 3) := by decide +kernel
theorem dX5_greeds_17 : decode cX5_greeds 17 = .ok (.aload_n 0, 1) := by decide +kernel
theorem dX5_greeds_18 : decode cX5_greeds 18 = .ok (.getfield 10, 3) := by decide +kernel
theorem dX5_greeds_21 : decode cX5_greeds 21 = .ok (.getfield 59, 3) := by decide +kernel
theorem dX5_greeds_24 : decode cX5_greeds 24 = .ok (.invokevirtual 161, 3) := by decide +kernel
theorem dX5_greeds_27 : decode cX5_greeds 27 = .ok (.iconst 0, 1) := by decide +kernel
theorem dX5_greeds_28 : decode cX5_greeds 28 = .ok (.istore_n 2, 1) := by decide +kernel
theorem dX5_greeds_29 : decode cX5_greeds 29 = .ok (.iconst 0, 1) := by decide +kernel
theorem dX5_greeds_30 : decode cX5_greeds 30 = .ok (.istore_n 3, 1) := by decide +kernel
theorem dX5_greeds_31 : decode cX5_greeds 31 = .ok (.iload_n 3, 1) := by decide +kernel
theorem dX5_greeds_32 : decode cX5_greeds 32 = .ok (.bipush 30, 2) := by decide +kernel
theorem dX5_greeds_34 : decode cX5_greeds 34 = .ok (.if_icmp .gt 33, 3) := by decide +kernel
theorem dX5_greeds_37 : decode cX5_greeds 37 = .ok (.aload_n 0, 1) := by decide +kernel
theorem dX5_greeds_38 : decode cX5_greeds 38 = .ok (.getfield 26, 3) := by decide +kernel
theorem dX5_greeds_41 : decode cX5_greeds 41 = .ok (.getfield 79, 3) := by decide +kernel
theorem dX5_greeds_44 : decode cX5_greeds 44 = .ok (.iload_n 1, 1) := by decide +kernel
theorem dX5_greeds_45 : decode cX5_greeds 45 = .ok (.iload_n 3, 1) := by decide +kernel
theorem dX5_greeds_46 : decode cX5_greeds 46 = .ok (.iastore, 1) := by decide +kernel
theorem dX5_greeds_47 : decode cX5_greeds 47 = .ok (.aload_n 0, 1) := by decide +kernel
theorem dX5_greeds_48 : decode cX5_greeds 48 = .ok (.iload_n 1, 1) := by decide +kernel
theorem dX5_greeds_49 : decode cX5_greeds 49 = .ok (.invokevirtual 190, 3) := by decide +kernel
theorem dX5_greeds_52 : decode cX5_greeds 52 = .ok (.ifCond .eq 9, 3) := by decide +kernel
theorem dX5_greeds_55 : decode cX5_greeds 55 = .ok (.iload_n 2, 1) := by decide +kernel
theorem dX5_greeds_56 : decode cX5_greeds 56 = .ok (.iconst 1, 1) := by decide +kernel
theorem dX5_greeds_57 : decode cX5_greeds 57 = .ok (.iload_n 3, 1) := by decide +kernel
theorem dX5_greeds_58 : decode cX5_greeds 58 = .ok (.ishl, 1) := by decide +kernel
theorem dX5_greeds_59 : decode cX5_greeds 59 = .ok (.ior, 1) := by decide +kernel
theorem dX5_greeds_60 : decode cX5_greeds 60 = .ok (.istore_n 2, 1) := by decide +kernel
theorem dX5_greeds_61 : decode cX5_greeds 61 = .ok (.iinc 3 1, 3) := by decide +kernel
theorem dX5_greeds_64 : decode cX5_greeds 64 = .ok (.goto (-33), 3) := by decide +kernel
theorem dX5_greeds_67 : decode cX5_greeds 67 = .ok (.iload_n 2, 1) := by decide +kernel
theorem dX5_greeds_68 : decode cX5_greeds 68 = .ok (.ireturn, 1) := by decide +kernel
set_option maxRecDepth 20000 in
theorem ggX5_known_X5_isSide : GoodIn wsX5_known wsX5_isSide := goodIn_r _ [4, 5, 6, 3, 7] (by decide +kernel) (by decide +kernel)
set_option maxRecDepth 20000 in
theorem gX5_known_X5_isSide : GoodIn wsX5_known (va_wsS RX5 65 yX5_isSide wsX5_isSide) := goodIn_app (goodIn_of _ (by decide +kernel)) ggX5_known_X5_isSide
set_option maxRecDepth 20000 in
theorem ggX5_known_X5_finding : GoodIn wsX5_known wsX5_finding := goodIn_r _ [11, 12, 13, 89, 90, 91, 92, 93, 94, 95] (by decide +kernel) (by decide +kernel)
set_option maxRecDepth 20000 in
theorem gX5_known_X5_finding : GoodIn wsX5_known (wsV RX5 55 RX5 yX5_finding wsX5_finding) := goodIn_app (goodIn_of _ (by decide +kernel)) ggX5_known_X5_finding
