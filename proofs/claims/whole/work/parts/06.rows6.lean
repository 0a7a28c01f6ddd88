theorem dX5_tryHeap_39 : decode cX5_tryHeap 39 = .ok (.aload_n 0, 1) := by decide +kernel
theorem dX5_tryHeap_40 : decode cX5_tryHeap 40 = .ok (.getfield 26, 3) := by decide +kernel
theorem dX5_tryHeap_43 : decode cX5_tryHeap 43 = .ok (.iload_n 1, 1) := by decide +kernel
theorem dX5_tryHeap_44 : decode cX5_tryHeap 44 = .ok (.iload_n 3, 1) := by decide +kernel
theorem dX5_tryHeap_45 : decode cX5_tryHeap 45 = .ok (.iload 4, 2) := by decide +kernel
theorem dX5_tryHeap_47 : decode cX5_tryHeap 47 = .ok (.invokevirtual 100, 3) := by decide +kernel
theorem dX5_tryHeap_50 : decode cX5_tryHeap 50 = .ok (.ifCond .ne 5, 3) := by decide +kernel
theorem dX5_tryHeap_53 : decode cX5_tryHeap 53 = .ok (.iconst 0, 1) := by decide +kernel
theorem dX5_tryHeap_54 : decode cX5_tryHeap 54 = .ok (.ireturn, 1) := by decide +kernel
theorem dX5_tryHeap_55 : decode cX5_tryHeap 55 = .ok (.aload_n 0, 1) := by decide +kernel
theorem dX5_tryHeap_56 : decode cX5_tryHeap 56 = .ok (.getfield 26, 3) := by decide +kernel
theorem dX5_tryHeap_59 : decode cX5_tryHeap 59 = .ok (.iload_n 1, 1) := by decide +kernel
theorem dX5_tryHeap_60 : decode cX5_tryHeap 60 = .ok (.iload_n 3, 1) := by decide +kernel
theorem dX5_tryHeap_61 : decode cX5_tryHeap 61 = .ok (.iload 4, 2) := by decide +kernel
theorem dX5_tryHeap_63 : decode cX5_tryHeap 63 = .ok (.invokevirtual 103, 3) := by decide +kernel
theorem dX5_tryHeap_66 : decode cX5_tryHeap 66 = .ok (.pop, 1) := by decide +kernel
theorem dX5_tryHeap_67 : decode cX5_tryHeap 67 = .ok (.iinc 3 1, 3) := by decide +kernel
theorem dX5_tryHeap_70 : decode cX5_tryHeap 70 = .ok (.goto (-45), 3) := by decide +kernel
theorem dX5_tryHeap_73 : decode cX5_tryHeap 73 = .ok (.iconst 1, 1) := by decide +kernel
theorem dX5_tryHeap_74 : decode cX5_tryHeap 74 = .ok (.ireturn, 1) := by decide +kernel
set_option maxRecDepth 20000 in
theorem ggX5_bundleGains_X1_priceOf : GoodIn wsX5_bundleGains wsX1_priceOf := goodIn_r _ [8, 9, 10, 11, 23, 24, 25, 26, 27, 28, 29, 30, 31, 32] (by decide +kernel) (by decide +kernel)
set_option maxRecDepth 20000 in
theorem gX5_bundleGains_X1_priceOf : GoodIn wsX5_bundleGains (wsV RX5 89 RX1 yX1_priceOf wsX1_priceOf) := goodIn_app (goodIn_of _ (by decide +kernel)) ggX5_bundleGains_X1_priceOf
theorem dX5_bundleGains_0 : decode cX5_bundleGains 0 = .ok (.aload_n 0, 1) := by decide +kernel
theorem dX5_bundleGains_1 : decode cX5_bundleGains 1 = .ok (.getfield 10, 3) := by decide +kernel
theorem dX5_bundleGains_4 : decode cX5_bundleGains 4 = .ok (.getfield 59, 3) := by decide +kernel
theorem dX5_bundleGains_7 : decode cX5_bundleGains 7 = .ok (.astore_n 3, 1) := by decide +kernel
theorem dX5_bundleGains_8 : decode cX5_bundleGains 8 = .ok (.aload_n 3, 1) := by decide +kernel
theorem dX5_bundleGains_9 : decode cX5_bundleGains 9 = .ok (.getfield 109, 3) := by decide +kernel
theorem dX5_bundleGains_12 : decode cX5_bundleGains 12 = .ok (.iload_n 1, 1) := by decide +kernel
theorem dX5_bundleGains_13 : decode cX5_bundleGains 13 = .ok (.iaload, 1) := by decide +kernel
theorem dX5_bundleGains_14 : decode cX5_bundleGains 14 = .ok (.ifCond .eq 14, 3) := by decide +kernel
theorem dX5_bundleGains_17 : decode cX5_bundleGains 17 = .ok (.aload_n 3, 1) := by decide +kernel
theorem dX5_bundleGains_18 : decode cX5_bundleGains 18 = .ok (.getfield 109, 3) := by decide +kernel
theorem dX5_bundleGains_21 : decode cX5_bundleGains 21 = .ok (.iconst 5, 1) := by decide +kernel
theorem dX5_bundleGains_22 : decode cX5_bundleGains 22 = .ok (.iload_n 2, 1) := by decide +kernel
theorem dX5_bundleGains_23 : decode cX5_bundleGains 23 = .ok (.iadd, 1) := by decide +kernel
theorem dX5_bundleGains_24 : decode cX5_bundleGains 24 = .ok (.iaload, 1) := by decide +kernel
theorem dX5_bundleGains_25 : decode cX5_bundleGains 25 = .ok (.ifCond .ne 5, 3) := by decide +kernel
theorem dX5_bundleGains_28 : decode cX5_bundleGains 28 = .ok (.iconst 0, 1) := by decide +kernel
theorem dX5_bundleGains_29 : decode cX5_bundleGains 29 = .ok (.ireturn, 1) := by decide +kernel
theorem dX5_bundleGains_30 : decode cX5_bundleGains 30 = .ok (.aload_n 3, 1) := by decide +kernel
theorem dX5_bundleGains_31 : decode cX5_bundleGains 31 = .ok (.iconst 0, 1) := by decide +kernel
theorem dX5_bundleGains_32 : decode cX5_bundleGains 32 = .ok (.iload_n 2, 1) := by decide +kernel
theorem dX5_bundleGains_33 : decode cX5_bundleGains 33 = .ok (.iconst 1, 1) := by decide +kernel
theorem dX5_bundleGains_34 : decode cX5_bundleGains 34 = .ok (.invokevirtual 89, 3) := by decide +kernel
theorem dX5_bundleGains_37 : decode cX5_bundleGains 37 = .ok (.aload_n 3, 1) := by decide +kernel
theorem dX5_bundleGains_38 : decode cX5_bundleGains 38 = .ok (.iconst 0, 1) := by decide +kernel
theorem dX5_bundleGains_39 : decode cX5_bundleGains 39 = .ok (.iload_n 1, 1) := by decide +kernel
theorem dX5_bundleGains_40 : decode cX5_bundleGains 40 = .ok (.iconst 1, 1) := by decide +kernel
theorem dX5_bundleGains_41 : decode cX5_bundleGains 41 = .ok (.invokevirtual 89, 3) := by decide +kernel
theorem dX5_bundleGains_44 : decode cX5_bundleGains 44 = .ok (.isub, 1) := by decide +kernel
theorem dX5_bundleGains_45 : decode cX5_bundleGains 45 = .ok (.istore 4, 2) := by decide +kernel
theorem dX5_bundleGains_47 : decode cX5_bundleGains 47 = .ok (.aload_n 3, 1) := by decide +kernel
theorem dX5_bundleGains_48 : decode cX5_bundleGains 48 = .ok (.iconst 1, 1) := by decide +kernel
theorem dX5_bundleGains_49 : decode cX5_bundleGains 49 = .ok (.iload_n 1, 1) := by decide +kernel
theorem dX5_bundleGains_50 : decode cX5_bundleGains 50 = .ok (.iconst 1, 1) := by decide +kernel
theorem dX5_bundleGains_51 : decode cX5_bundleGains 51 = .ok (.invokevirtual 89, 3) := by decide +kernel
theorem dX5_bundleGains_54 : decode cX5_bundleGains 54 = .ok (.aload_n 3, 1) := by decide +kernel
theorem dX5_bundleGains_55 : decode cX5_bundleGains 55 = .ok (.iconst 1, 1) := by decide +kernel
theorem dX5_bundleGains_56 : decode cX5_bundleGains 56 = .ok (.iload_n 2, 1) := by decide +kernel
theorem dX5_bundleGains_57 : decode cX5_bundleGains 57 = .ok (.iconst 1, 1) := by decide +kernel
theorem dX5_bundleGains_58 : decode cX5_bundleGains 58 = .ok (.invokevirtual 89, 3) := by decide +kernel
theorem dX5_bundleGains_61 : decode cX5_bundleGains 61 = .ok (.isub, 1) := by decide +kernel
theorem dX5_bundleGains_62 : decode cX5_bundleGains 62 = .ok (.istore 5, 2) := by decide +kernel
theorem dX5_bundleGains_64 : decode cX5_bundleGains 64 = .ok (.iload 4, 2) := by decide +kernel
theorem dX5_bundleGains_66 : decode cX5_bundleGains 66 = .ok (.ifCond .le 16, 3) := by decide +kernel
theorem dX5_bundleGains_69 : decode cX5_bundleGains 69 = .ok (.iload 5, 2) := by decide +kernel
theorem dX5_bundleGains_71 : decode cX5_bundleGains 71 = .ok (.ifCond .le 11, 3) := by decide +kernel
theorem dX5_bundleGains_74 : decode cX5_bundleGains 74 = .ok (.iload 4, 2) := by decide +kernel
theorem dX5_bundleGains_76 : decode cX5_bundleGains 76 = .ok (.iload 5, 2) := by decide +kernel
theorem dX5_bundleGains_78 : decode cX5_bundleGains 78 = .ok (.iadd, 1) := by decide +kernel
theorem dX5_bundleGains_79 : decode cX5_bundleGains 79 = .ok (.goto 4, 3) := by decide +kernel
theorem dX5_bundleGains_82 : decode cX5_bundleGains 82 = .ok (.iconst 0, 1) := by decide +kernel
theorem dX5_bundleGains_83 : decode cX5_bundleGains 83 = .ok (.ireturn, 1) := by decide +kernel
set_option maxRecDepth 20000 in
theorem ggX5_fittingWorths_X1_copyFrom : GoodIn wsX5_fittingWorths wsX1_copyFrom := goodIn_r _ [9, 10, 11, 12, 13, 14, 15, 16, 17, 18, 19, 20, 21, 22, 23, 77, 78, 79, 80, 81, 82, 83, 84, 85, 86] (by decide +kernel) (by decide +kernel)
set_option maxRecDepth 20000 in
theorem gX5_fittingWorths_X1_copyFrom : GoodIn wsX5_fittingWorths (wsV RX5 161 RX1 yX1_copyFrom wsX1_copyFrom) := goodIn_app (goodIn_of _ (by decide +kernel)) ggX5_fittingWorths_X1_copyFrom
set_option maxRecDepth 20000 in
theorem ggX5_fittingWorths_X5_trialAgreesWithBooks : GoodIn wsX5_fittingWorths wsX5_trialAgreesWithBooks := goodIn_r _ [28, 2, 29, 30, 1, 31, 32, 33, 34, 35, 36, 37, 38, 39, 40, 41, 42, 43, 44, 8, 45, 16, 11, 12, 13, 14, 20, 19, 46, 47, 48, 49, 50, 51, 52, 53, 54, 55, 56, 57, 18, 58, 59, 60, 61, 62, 63, 64, 65, 17, 10, 66, 67, 68, 69, 70, 71, 72, 73, 74, 75, 76, 87, 88, 89, 77, 78, 79, 80, 81, 82, 83, 84, 85, 86] (by decide +kernel) (by decide +kernel)
set_option maxRecDepth 20000 in
theorem gX5_fittingWorths_X5_trialAgreesWithBooks : GoodIn wsX5_fittingWorths (wsV RX5 190 RX5 yX5_trialAgreesWithBooks wsX5_trialAgreesWithBooks) := goodIn_app (goodIn_of _ (by decide +kernel)) ggX5_fittingWorths_X5_trialAgreesWithBooks
theorem dX5_fittingWorths_0 : decode cX5_fittingWorths 0 = .ok (.aload_n 0, 1) := by decide +kernel
theorem dX5_fittingWorths_1 : decode cX5_fittingWorths 1 = .ok (.getfield 26, 3) := by decide +kernel
theorem dX5_fittingWorths_4 : decode cX5_fittingWorths 4 = .ok (.aload_n 0, 1) := by decide +kernel
theorem dX5_fittingWorths_5 : decode cX5_fittingWorths 5 = .ok (.getfield 10, 3) := by decide +kernel
theorem dX5_fittingWorths_8 : decode cX5_fittingWorths 8 = .ok (.getfield 59, 3) := by decide +kernel
theorem dX5_fittingWorths_11 : decode cX5_fittingWorths 11 = .ok (.invokevirtual 161, 3) := by decide +kernel
theorem dX5_fittingWorths_14 : decode cX5_fittingWorths 14 = .ok (.iconst 0, 1) := by decide +kernel
theorem dX5_fittingWorths_15 : decode cX5_fittingWorths 15 = .ok (.istore_n 3, 1) := by decide +kernel
theorem dX5_fittingWorths_16 : decode cX5_fittingWorths 16 = .ok (.iconst 0, 1) := by decide +kernel
theorem dX5_fittingWorths_17 : decode cX5_fittingWorths 17 = .ok (.istore 4, 2) := by decide +kernel
theorem dX5_fittingWorths_19 : decode cX5_fittingWorths 19 = .ok (.iload 4, 2) := by decide +kernel
theorem dX5_fittingWorths_21 : decode cX5_fittingWorths 21 = .ok (.bipush 20, 2) := by decide +kernel
theorem dX5_fittingWorths_23 : decode cX5_fittingWorths 23 = .ok (.if_icmp .gt 39, 3) := by decide +kernel
theorem dX5_fittingWorths_26 : decode cX5_fittingWorths 26 = .ok (.aload_n 0, 1) := by decide +kernel
theorem dX5_fittingWorths_27 : decode cX5_fittingWorths 27 = .ok (.getfield 26, 3) := by decide +kernel
theorem dX5_fittingWorths_30 : decode cX5_fittingWorths 30 = .ok (.getfield 247, 3) := by decide +kernel
theorem dX5_fittingWorths_33 : decode cX5_fittingWorths 33 = .ok (.iload_n 1, 1) := by decide +kernel
theorem dX5_fittingWorths_34 : decode cX5_fittingWorths 34 = .ok (.iconst 5, 1) := by decide +kernel
theorem dX5_fittingWorths_35 : decode cX5_fittingWorths 35 = .ok (.imul, 1) := by decide +kernel
theorem dX5_fittingWorths_36 : decode cX5_fittingWorths 36 = .ok (.iload_n 2, 1) := by decide +kernel
theorem dX5_fittingWorths_37 : decode cX5_fittingWorths 37 = .ok (.iadd, 1) := by decide +kernel
theorem dX5_fittingWorths_38 : decode cX5_fittingWorths 38 = .ok (.iload 4, 2) := by decide +kernel
theorem dX5_fittingWorths_40 : decode cX5_fittingWorths 40 = .ok (.iastore, 1) := by decide +kernel
theorem dX5_fittingWorths_41 : decode cX5_fittingWorths 41 = .ok (.aload_n 0, 1) := by decide +kernel
theorem dX5_fittingWorths_42 : decode cX5_fittingWorths 42 = .ok (.iload_n 1, 1) := by decide +kernel
theorem dX5_fittingWorths_43 : decode cX5_fittingWorths 43 = .ok (.invokevirtual 190, 3) := by decide +kernel
theorem dX5_fittingWorths_46 : decode cX5_fittingWorths 46 = .ok (.ifCond .eq 10, 3) := by decide +kernel
theorem dX5_fittingWorths_49 : decode cX5_fittingWorths 49 = .ok (.iload_n 3, 1) := by decide +kernel
theorem dX5_fittingWorths_50 : decode cX5_fittingWorths 50 = .ok (.iconst 1, 1) := by decide +kernel
theorem dX5_fittingWorths_51 : decode cX5_fittingWorths 51 = .ok (.iload 4, 2) := by decide +kernel
theorem dX5_fittingWorths_53 : decode cX5_fittingWorths 53 = .ok (.ishl, 1) := by decide +kernel
theorem dX5_fittingWorths_54 : decode cX5_fittingWorths 54 = .ok (.ior, 1) := by decide +kernel
theorem dX5_fittingWorths_55 : decode cX5_fittingWorths 55 = .ok (.istore_n 3, 1) := by decide +kernel
theorem dX5_fittingWorths_56 : decode cX5_fittingWorths 56 = .ok (.iinc 4 1, 3) := by decide +kernel
theorem dX5_fittingWorths_59 : decode cX5_fittingWorths 59 = .ok (.goto (-40), 3) := by decide +kernel
theorem dX5_fittingWorths_62 : decode cX5_fittingWorths 62 = .ok (.iload_n 3, 1) := by decide +kernel
theorem dX5_fittingWorths_63 : decode cX5_fittingWorths 63 = .ok (.ireturn, 1) := by decide +kernel
set_option maxRecDepth 20000 in
theorem ggX5_trialAgreesWithBooks_X0_latest : GoodIn wsX5_trialAgreesWithBooks wsX0_latest := goodIn_r _ [9, 10, 11, 12, 13, 14, 15, 62, 63, 64] (by decide +kernel) (by decide +kernel)
set_option maxRecDepth 20000 in
theorem gX5_trialAgreesWithBooks_X0_latest : GoodIn wsX5_trialAgreesWithBooks (wsV RX5 184 RX0 yX0_latest wsX0_latest) := goodIn_app (goodIn_of _ (by decide +kernel)) ggX5_trialAgreesWithBooks_X0_latest
set_option maxRecDepth 20000 in
theorem ggX5_trialAgreesWithBooks_X1_standAs : GoodIn wsX5_trialAgreesWithBooks wsX1_standAs := goodIn_r _ [20, 21, 22, 23, 24, 25, 26, 27, 65, 66, 67, 68, 69, 70, 71, 72, 73, 74] (by decide +kernel) (by decide +kernel)
set_option maxRecDepth 20000 in
theorem gX5_trialAgreesWithBooks_X1_standAs : GoodIn wsX5_trialAgreesWithBooks (wsV RX5 270 RX1 yX1_standAs wsX1_standAs) := goodIn_app (goodIn_of _ (by decide +kernel)) ggX5_trialAgreesWithBooks_X1_standAs
set_option maxRecDepth 20000 in
theorem ggX5_trialAgreesWithBooks_X1_deedOf : GoodIn wsX5_trialAgreesWithBooks wsX1_deedOf := goodIn_r _ [31, 27, 32, 33, 34, 19, 35, 21, 36, 37, 38, 39, 40, 41, 42, 43, 44, 45, 46, 47, 48, 49, 50, 26, 65, 66, 67, 68, 69, 70, 71, 72, 73, 74] (by decide +kernel) (by decide +kernel)
set_option maxRecDepth 20000 in
theorem gX5_trialAgreesWithBooks_X1_deedOf : GoodIn wsX5_trialAgreesWithBooks (wsV RX5 115 RX1 yX1_deedOf wsX1_deedOf) := goodIn_app (goodIn_of _ (by decide +kernel)) ggX5_trialAgreesWithBooks_X1_deedOf
theorem dX5_trialAgreesWithBooks_0 : decode cX5_trialAgreesWithBooks 0 = .ok (.aload_n 0, 1) := by decide +kernel
theorem dX5_trialAgreesWithBooks_1 : decode cX5_trialAgreesWithBooks 1 = .ok (.getfield 10, 3) := by decide +kernel
theorem dX5_trialAgreesWithBooks_4 : decode cX5_trialAgreesWithBooks 4 = .ok (.getfield 149, 3) := by decide +kernel
theorem dX5_trialAgreesWithBooks_7 : decode cX5_trialAgreesWithBooks 7 = .ok (.astore_n 2, 1) := by decide +kernel
theorem dX5_trialAgreesWithBooks_8 : decode cX5_trialAgreesWithBooks 8 = .ok (.iconst 0, 1) := by decide +kernel
theorem dX5_trialAgreesWithBooks_9 : decode cX5_trialAgreesWithBooks 9 = .ok (.istore_n 3, 1) := by decide +kernel
theorem dX5_trialAgreesWithBooks_10 : decode cX5_trialAgreesWithBooks 10 = .ok (.iload_n 3, 1) := by decide +kernel
theorem dX5_trialAgreesWithBooks_11 : decode cX5_trialAgreesWithBooks 11 = .ok (.aload_n 2, 1) := by decide +kernel
theorem dX5_trialAgreesWithBooks_12 : decode cX5_trialAgreesWithBooks 12 = .ok (.getfield 153, 3) := by decide +kernel
theorem dX5_trialAgreesWithBooks_15 : decode cX5_trialAgreesWithBooks 15 = .ok (.if_icmp .ge 60, 3) := by decide +kernel
theorem dX5_trialAgreesWithBooks_18 : decode cX5_trialAgreesWithBooks 18 = .ok (.aload_n 2, 1) := by decide +kernel
theorem dX5_trialAgreesWithBooks_19 : decode cX5_trialAgreesWithBooks 19 = .ok (.iload_n 3, 1) := by decide +kernel
theorem dX5_trialAgreesWithBooks_20 : decode cX5_trialAgreesWithBooks 20 = .ok (.invokevirtual 184, 3) := by decide +kernel
theorem dX5_trialAgreesWithBooks_23 : decode cX5_trialAgreesWithBooks 23 = .ok (.astore 4, 2) := by decide +kernel
theorem dX5_trialAgreesWithBooks_25 : decode cX5_trialAgreesWithBooks 25 = .ok (.aload 4, 2) := by decide +kernel
theorem dX5_trialAgreesWithBooks_27 : decode cX5_trialAgreesWithBooks 27 = .ok (.bipush 12, 2) := by decide +kernel
theorem dX5_trialAgreesWithBooks_29 : decode cX5_trialAgreesWithBooks 29 = .ok (.iaload, 1) := by decide +kernel
theorem dX5_trialAgreesWithBooks_30 : decode cX5_trialAgreesWithBooks 30 = .ok (.iload_n 1, 1) := by decide +kernel
theorem dX5_trialAgreesWithBooks_31 : decode cX5_trialAgreesWithBooks 31 = .ok (.if_icmp .ne 38, 3) := by decide +kernel
theorem dX5_trialAgreesWithBooks_34 : decode cX5_trialAgreesWithBooks 34 = .ok (.aload 4, 2) := by decide +kernel
theorem dX5_trialAgreesWithBooks_36 : decode cX5_trialAgreesWithBooks 36 = .ok (.bipush 11, 2) := by decide +kernel
theorem dX5_trialAgreesWithBooks_38 : decode cX5_trialAgreesWithBooks 38 = .ok (.iaload, 1) := by decide +kernel
theorem dX5_trialAgreesWithBooks_39 : decode cX5_trialAgreesWithBooks 39 = .ok (.ifCond .le 30, 3) := by decide +kernel
theorem dX5_trialAgreesWithBooks_42 : decode cX5_trialAgreesWithBooks 42 = .ok (.aload_n 0, 1) := by decide +kernel
theorem dX5_trialAgreesWithBooks_43 : decode cX5_trialAgreesWithBooks 43 = .ok (.getfield 26, 3) := by decide +kernel
theorem dX5_trialAgreesWithBooks_46 : decode cX5_trialAgreesWithBooks 46 = .ok (.aload 4, 2) := by decide +kernel
theorem dX5_trialAgreesWithBooks_48 : decode cX5_trialAgreesWithBooks 48 = .ok (.invokevirtual 270, 3) := by decide +kernel
theorem dX5_trialAgreesWithBooks_51 : decode cX5_trialAgreesWithBooks 51 = .ok (.aload_n 0, 1) := by decide +kernel
theorem dX5_trialAgreesWithBooks_52 : decode cX5_trialAgreesWithBooks 52 = .ok (.getfield 26, 3) := by decide +kernel
theorem dX5_trialAgreesWithBooks_55 : decode cX5_trialAgreesWithBooks 55 = .ok (.iload_n 1, 1) := by decide +kernel
theorem dX5_trialAgreesWithBooks_56 : decode cX5_trialAgreesWithBooks 56 = .ok (.invokevirtual 115, 3) := by decide +kernel
theorem dX5_trialAgreesWithBooks_59 : decode cX5_trialAgreesWithBooks 59 = .ok (.aload 4, 2) := by decide +kernel
theorem dX5_trialAgreesWithBooks_61 : decode cX5_trialAgreesWithBooks 61 = .ok (.bipush 13, 2) := by decide +kernel
theorem dX5_trialAgreesWithBooks_63 : decode cX5_trialAgreesWithBooks 63 = .ok (.iaload, 1) := by decide +kernel
theorem dX5_trialAgreesWithBooks_64 : decode cX5_trialAgreesWithBooks 64 = .ok (.if_icmp .eq 5, 3) := by decide +kernel
theorem dX5_trialAgreesWithBooks_67 : decode cX5_trialAgreesWithBooks 67 = .ok (.iconst 0, 1) := by decide +kernel
theorem dX5_trialAgreesWithBooks_68 : decode cX5_trialAgreesWithBooks 68 = .ok (.ireturn, 1) := by decide +kernel
theorem dX5_trialAgreesWithBooks_69 : decode cX5_trialAgreesWithBooks 69 = .ok (.iinc 3 1, 3) := by decide +kernel
theorem dX5_trialAgreesWithBooks_72 : decode cX5_trialAgreesWithBooks 72 = .ok (.goto (-62), 3) := by decide +kernel
theorem dX5_trialAgreesWithBooks_75 : decode cX5_trialAgreesWithBooks 75 = .ok (.iconst 1, 1) := by decide +kernel
theorem dX5_trialAgreesWithBooks_76 : decode cX5_trialAgreesWithBooks 76 = .ok (.ireturn, 1) := by decide +kernel
set_option maxRecDepth 20000 in
theorem ggX6_init_X6_at : GoodIn wsX6_init wsX6_at := goodIn_r _ [20] (by decide +kernel) (by decide +kernel)
set_option maxRecDepth 20000 in
theorem gX6_init_X6_at : GoodIn wsX6_init (va_wsS RX6 60 yX6_at wsX6_at) := goodIn_app (goodIn_of _ (by decide +kernel)) ggX6_init_X6_at
theorem dX6_init_0 : decode cX6_init 0 = .ok (.aload_n 0, 1) := by decide +kernel
theorem dX6_init_1 : decode cX6_init 1 = .ok (.invokespecial 1, 3) := by decide +kernel
theorem dX6_init_4 : decode cX6_init 4 = .ok (.aload_n 0, 1) := by decide +kernel
theorem dX6_init_5 : decode cX6_init 5 = .ok (.sipush 210, 3) := by decide +kernel
theorem dX6_init_8 : decode cX6_init 8 = .ok (.newarray .int, 2) := by decide +kernel
theorem dX6_init_10 : decode cX6_init 10 = .ok (.putfield 9, 3) := by decide +kernel
theorem dX6_init_13 : decode cX6_init 13 = .ok (.aload_n 0, 1) := by decide +kernel
theorem dX6_init_14 : decode cX6_init 14 = .ok (.sipush 210, 3) := by decide +kernel
theorem dX6_init_17 : decode cX6_init 17 = .ok (.newarray .int, 2) := by decide +kernel
theorem dX6_init_19 : decode cX6_init 19 = .ok (.putfield 13, 3) := by decide +kernel
theorem dX6_init_22 : decode cX6_init 22 = .ok (.aload_n 0, 1) := by decide +kernel
theorem dX6_init_23 : decode cX6_init 23 = .ok (.sipush 210, 3) := by decide +kernel
theorem dX6_init_26 : decode cX6_init 26 = .ok (.newarray .int, 2) := by decide +kernel
theorem dX6_init_28 : decode cX6_init 28 = .ok (.putfield 16, 3) := by decide +kernel
theorem dX6_init_31 : decode cX6_init 31 = .ok (.aload_n 0, 1) := by decide +kernel
theorem dX6_init_32 : decode cX6_init 32 = .ok (.bipush 8, 2) := by decide +kernel
theorem dX6_init_34 : decode cX6_init 34 = .ok (.newarray .int, 2) := by decide +kernel
theorem dX6_init_36 : decode cX6_init 36 = .ok (.putfield 19, 3) := by decide +kernel
theorem dX6_init_39 : decode cX6_init 39 = .ok (.aload_n 0, 1) := by decide +kernel
theorem dX6_init_40 : decode cX6_init 40 = .ok (.bipush 120, 2) := by decide +kernel
theorem dX6_init_42 : decode cX6_init 42 = .ok (.newarray .int, 2) := by decide +kernel
theorem dX6_init_44 : decode cX6_init 44 = .ok (.putfield 22, 3) := by decide +kernel
theorem dX6_init_47 : decode cX6_init 47 = .ok (.aload_n 0, 1) := by decide +kernel
theorem dX6_init_48 : decode cX6_init 48 = .ok (.bipush 7, 2) := by decide +kernel
theorem dX6_init_50 : decode cX6_init 50 = .ok (.anewarray 25, 3) := by decide +kernel
theorem dX6_init_53 : decode cX6_init 53 = .ok (.dup, 1) := by decide +kernel
theorem dX6_init_54 : decode cX6_init 54 = .ok (.iconst 0, 1) := by decide +kernel
theorem dX6_init_55 : decode cX6_init 55 = .ok (.ldc 27, 2) := by decide +kernel
theorem dX6_init_57 : decode cX6_init 57 = .ok (.aastore, 1) := by decide +kernel
theorem dX6_init_58 : decode cX6_init 58 = .ok (.dup, 1) := by decide +kernel
theorem dX6_init_59 : decode cX6_init 59 = .ok (.iconst 1, 1) := by decide +kernel
theorem dX6_init_60 : decode cX6_init 60 = .ok (.ldc 29, 2) := by decide +kernel
theorem dX6_init_62 : decode cX6_init 62 = .ok (.aastore, 1) := by decide +kernel
theorem dX6_init_63 : decode cX6_init 63 = .ok (.dup, 1) := by decide +kernel
theorem dX6_init_64 : decode cX6_init 64 = .ok (.iconst 2, 1) := by decide +kernel
theorem dX6_init_65 : decode cX6_init 65 = .ok (.ldc 31, 2) := by decide +kernel
theorem dX6_init_67 : decode cX6_init 67 = .ok (.aastore, 1) := by decide +kernel
theorem dX6_init_68 : decode cX6_init 68 = .ok (.dup, 1) := by decide +kernel
theorem dX6_init_69 : decode cX6_init 69 = .ok (.iconst 3, 1) := by decide +kernel
theorem dX6_init_70 : decode cX6_init 70 = .ok (.ldc 33, 2) := by decide +kernel
theorem dX6_init_72 : decode cX6_init 72 = .ok (.aastore, 1) := by decide +kernel
theorem dX6_init_73 : decode cX6_init 73 = .ok (.dup, 1) := by decide +kernel
theorem dX6_init_74 : decode cX6_init 74 = .ok (.iconst 4, 1) := by decide +kernel
theorem dX6_init_75 : decode cX6_init 75 = .ok (.ldc 35, 2) := by decide +kernel
theorem dX6_init_77 : decode cX6_init 77 = .ok (.aastore, 1) := by decide +kernel
theorem dX6_init_78 : decode cX6_init 78 = .ok (.dup, 1) := by decide +kernel
theorem dX6_init_79 : decode cX6_init 79 = .ok (.iconst 5, 1) := by decide +kernel
theorem dX6_init_80 : decode cX6_init 80 = .ok (.ldc 37, 2) := by decide +kernel
theorem dX6_init_82 : decode cX6_init 82 = .ok (.aastore, 1) := by decide +kernel
theorem dX6_init_83 : decode cX6_init 83 = .ok (.dup, 1) := by decide +kernel
theorem dX6_init_84 : decode cX6_init 84 = .ok (.bipush 6, 2) := by decide +kernel
theorem dX6_init_86 : decode cX6_init 86 = .ok (.ldc 39, 2) := by decide +kernel
theorem dX6_init_88 : decode cX6_init 88 = .ok (.aastore, 1) := by decide +kernel
theorem dX6_init_89 : decode cX6_init 89 = .ok (.putfield 41, 3) := by decide +kernel
theorem dX6_init_92 : decode cX6_init 92 = .ok (.aload_n 0, 1) := by decide +kernel
theorem dX6_init_93 : decode cX6_init 93 = .ok (.sipush 480, 3) := by decide +kernel
theorem dX6_init_96 : decode cX6_init 96 = .ok (.newarray .int, 2) := by decide +kernel
theorem dX6_init_98 : decode cX6_init 98 = .ok (.putfield 45, 3) := by decide +kernel
theorem dX6_init_101 : decode cX6_init 101 = .ok (.aload_n 0, 1) := by decide +kernel
theorem dX6_init_102 : decode cX6_init 102 = .ok (.iconst 4, 1) := by decide +kernel
theorem dX6_init_103 : decode cX6_init 103 = .ok (.newarray .int, 2) := by decide +kernel
theorem dX6_init_105 : decode cX6_init 105 = .ok (.putfield 48, 3) := by decide +kernel
theorem dX6_init_108 : decode cX6_init 108 = .ok (.aload_n 0, 1) := by decide +kernel
theorem dX6_init_109 : decode cX6_init 109 = .ok (.iconst 4, 1) := by decide +kernel
theorem dX6_init_110 : decode cX6_init 110 = .ok (.newarray .int, 2) := by decide +kernel
theorem dX6_init_112 : decode cX6_init 112 = .ok (.putfield 51, 3) := by decide +kernel
theorem dX6_init_115 : decode cX6_init 115 = .ok (.aload_n 0, 1) := by decide +kernel
theorem dX6_init_116 : decode cX6_init 116 = .ok (.sipush 160, 3) := by decide +kernel
theorem dX6_init_119 : decode cX6_init 119 = .ok (.newarray .int, 2) := by decide +kernel
theorem dX6_init_121 : decode cX6_init 121 = .ok (.putfield 54, 3) := by decide +kernel
theorem dX6_init_124 : decode cX6_init 124 = .ok (.aload_n 0, 1) := by decide +kernel
theorem dX6_init_125 : decode cX6_init 125 = .ok (.bipush 40, 2) := by decide +kernel
theorem dX6_init_127 : decode cX6_init 127 = .ok (.newarray .int, 2) := by decide +kernel
theorem dX6_init_129 : decode cX6_init 129 = .ok (.putfield 57, 3) := by decide +kernel
theorem dX6_init_132 : decode cX6_init 132 = .ok (.aload_n 0, 1) := by decide +kernel
theorem dX6_init_133 : decode cX6_init 133 = .ok (.getfield 9, 3) := by decide +kernel
theorem dX6_init_136 : decode cX6_init 136 = .ok (.iconst 4, 1) := by decide +kernel
theorem dX6_init_137 : decode cX6_init 137 = .ok (.iconst 1, 1) := by decide +kernel
theorem dX6_init_138 : decode cX6_init 138 = .ok (.iastore, 1) := by decide +kernel
theorem dX6_init_139 : decode cX6_init 139 = .ok (.iconst 0, 1) := by decide +kernel
theorem dX6_init_140 : decode cX6_init 140 = .ok (.istore_n 1, 1) := by decide +kernel
theorem dX6_init_141 : decode cX6_init 141 = .ok (.iload_n 1, 1) := by decide +kernel
theorem dX6_init_142 : decode cX6_init 142 = .ok (.bipush 10, 2) := by decide +kernel
theorem dX6_init_144 : decode cX6_init 144 = .ok (.if_icmp .ge 18, 3) := by decide +kernel
theorem dX6_init_147 : decode cX6_init 147 = .ok (.aload_n 0, 1) := by decide +kernel
theorem dX6_init_148 : decode cX6_init 148 = .ok (.getfield 9, 3) := by decide +kernel
theorem dX6_init_151 : decode cX6_init 151 = .ok (.iconst 5, 1) := by decide +kernel
theorem dX6_init_152 : decode cX6_init 152 = .ok (.iload_n 1, 1) := by decide +kernel
theorem dX6_init_153 : decode cX6_init 153 = .ok (.iadd, 1) := by decide +kernel
theorem dX6_init_154 : decode cX6_init 154 = .ok (.iconst (-1), 1) := by decide +kernel
theorem dX6_init_155 : decode cX6_init 155 = .ok (.iastore, 1) := by decide +kernel
theorem dX6_init_156 : decode cX6_init 156 = .ok (.iinc 1 1, 3) := by decide +kernel
theorem dX6_init_159 : decode cX6_init 159 = .ok (.goto (-18), 3) := by decide +kernel
theorem dX6_init_162 : decode cX6_init 162 = .ok (.iconst 0, 1) := by decide +kernel
theorem dX6_init_163 : decode cX6_init 163 = .ok (.istore_n 1, 1) := by decide +kernel
theorem dX6_init_164 : decode cX6_init 164 = .ok (.iload_n 1, 1) := by decide +kernel
theorem dX6_init_165 : decode cX6_init 165 = .ok (.iconst 2, 1) := by decide +kernel
theorem dX6_init_166 : decode cX6_init 166 = .ok (.if_icmp .ge 72, 3) := by decide +kernel
theorem dX6_init_169 : decode cX6_init 169 = .ok (.aload_n 0, 1) := by decide +kernel
theorem dX6_init_170 : decode cX6_init 170 = .ok (.getfield 9, 3) := by decide +kernel
theorem dX6_init_173 : decode cX6_init 173 = .ok (.iload_n 1, 1) := by decide +kernel
theorem dX6_init_174 : decode cX6_init 174 = .ok (.iconst 0, 1) := by decide +kernel
theorem dX6_init_175 : decode cX6_init 175 = .ok (.invokestatic 60, 3) := by decide +kernel
theorem dX6_init_178 : decode cX6_init 178 = .ok (.iconst 2, 1) := by decide +kernel
theorem dX6_init_179 : decode cX6_init 179 = .ok (.iastore, 1) := by decide +kernel
theorem dX6_init_180 : decode cX6_init 180 = .ok (.aload_n 0, 1) := by decide +kernel
theorem dX6_init_181 : decode cX6_init 181 = .ok (.getfield 9, 3) := by decide +kernel
theorem dX6_init_184 : decode cX6_init 184 = .ok (.iload_n 1, 1) := by decide +kernel
theorem dX6_init_185 : decode cX6_init 185 = .ok (.iconst 1, 1) := by decide +kernel
theorem dX6_init_186 : decode cX6_init 186 = .ok (.invokestatic 60, 3) := by decide +kernel
theorem dX6_init_189 : decode cX6_init 189 = .ok (.iconst 5, 1) := by decide +kernel
theorem dX6_init_190 : decode cX6_init 190 = .ok (.iastore, 1) := by decide +kernel
theorem dX6_init_191 : decode cX6_init 191 = .ok (.iconst 0, 1) := by decide +kernel
theorem dX6_init_192 : decode cX6_init 192 = .ok (.istore_n 2, 1) := by decide +kernel
theorem dX6_init_193 : decode cX6_init 193 = .ok (.iload_n 2, 1) := by decide +kernel
theorem dX6_init_194 : decode cX6_init 194 = .ok (.iconst 5, 1) := by decide +kernel
theorem dX6_init_195 : decode cX6_init 195 = .ok (.if_icmp .ge 37, 3) := by decide +kernel
theorem dX6_init_198 : decode cX6_init 198 = .ok (.aload_n 0, 1) := by decide +kernel
theorem dX6_init_199 : decode cX6_init 199 = .ok (.getfield 9, 3) := by decide +kernel
theorem dX6_init_202 : decode cX6_init 202 = .ok (.iload_n 1, 1) := by decide +kernel
theorem dX6_init_203 : decode cX6_init 203 = .ok (.iconst 2, 1) := by decide +kernel
theorem dX6_init_204 : decode cX6_init 204 = .ok (.iload_n 2, 1) := by decide +kernel
theorem dX6_init_205 : decode cX6_init 205 = .ok (.iadd, 1) := by decide +kernel
theorem dX6_init_206 : decode cX6_init 206 = .ok (.invokestatic 60, 3) := by decide +kernel
theorem dX6_init_209 : decode cX6_init 209 = .ok (.bipush 10, 2) := by decide +kernel
theorem dX6_init_211 : decode cX6_init 211 = .ok (.iastore, 1) := by decide +kernel
theorem dX6_init_212 : decode cX6_init 212 = .ok (.aload_n 0, 1) := by decide +kernel
theorem dX6_init_213 : decode cX6_init 213 = .ok (.getfield 9, 3) := by decide +kernel
theorem dX6_init_216 : decode cX6_init 216 = .ok (.iload_n 1, 1) := by decide +kernel
theorem dX6_init_217 : decode cX6_init 217 = .ok (.bipush 12, 2) := by decide +kernel
theorem dX6_init_219 : decode cX6_init 219 = .ok (.iload_n 2, 1) := by decide +kernel
theorem dX6_init_220 : decode cX6_init 220 = .ok (.iadd, 1) := by decide +kernel
theorem dX6_init_221 : decode cX6_init 221 = .ok (.invokestatic 60, 3) := by decide +kernel
theorem dX6_init_224 : decode cX6_init 224 = .ok (.iconst 5, 1) := by decide +kernel
theorem dX6_init_225 : decode cX6_init 225 = .ok (.iastore, 1) := by decide +kernel
theorem dX6_init_226 : decode cX6_init 226 = .ok (.iinc 2 1, 3) := by decide +kernel
theorem dX6_init_229 : decode cX6_init 229 = .ok (.goto (-36), 3) := by decide +kernel
theorem dX6_init_232 : decode cX6_init 232 = .ok (.iinc 1 1, 3) := by decide +kernel
theorem dX6_init_235 : decode cX6_init 235 = .ok (.goto (-71), 3) := by decide +kernel
theorem dX6_init_238 : decode cX6_init 238 = .ok (.return_, 1) := by decide +kernel
theorem dX6_finding_0 : decode cX6_finding 0 = .ok (.aload_n 0, 1) := by decide +kernel
theorem dX6_finding_1 : decode cX6_finding 1 = .ok (.getfield 19, 3) := by decide +kernel
theorem dX6_finding_4 : decode cX6_finding 4 = .ok (.ldc 64, 2) := by decide +kernel
theorem dX6_finding_6 : decode cX6_finding 6 = .ok (.iload_n 1, 1) := by decide +kernel
theorem dX6_finding_7 : decode cX6_finding 7 = .ok (.isub, 1) := by decide +kernel
theorem dX6_finding_8 : decode cX6_finding 8 = .ok (.iconst 1, 1) := by decide +kernel
theorem dX6_finding_9 : decode cX6_finding 9 = .ok (.iadd, 1) := by decide +kernel
theorem dX6_finding_10 : decode cX6_finding 10 = .ok (.dup2, 1) := by decide +kernel
theorem dX6_finding_11 : decode cX6_finding 11 = .ok (.iaload, 1) := by decide +kernel
theorem dX6_finding_12 : decode cX6_finding 12 = .ok (.iconst 1, 1) := by decide +kernel
theorem dX6_finding_13 : decode cX6_finding 13 = .ok (.iadd, 1) := by decide +kernel
theorem dX6_finding_14 : decode cX6_finding 14 = .ok (.iastore, 1) := by decide +kernel
theorem dX6_finding_15 : decode cX6_finding 15 = .ok (.aload_n 0, 1) := by decide +kernel
theorem dX6_finding_16 : decode cX6_finding 16 = .ok (.getfield 19, 3) := by decide +kernel
theorem dX6_finding_19 : decode cX6_finding 19 = .ok (.iconst 0, 1) := by decide +kernel
theorem dX6_finding_20 : decode cX6_finding 20 = .ok (.dup2, 1) := by decide +kernel
theorem dX6_finding_21 : decode cX6_finding 21 = .ok (.iaload, 1) := by decide +kernel
theorem dX6_finding_22 : decode cX6_finding 22 = .ok (.iconst 1, 1) := by decide +kernel
theorem dX6_finding_23 : decode cX6_finding 23 = .ok (.iadd, 1) := by decide +kernel
theorem dX6_finding_24 : decode cX6_finding 24 = .ok (.iastore, 1) := by decide +kernel
theorem dX6_finding_25 : decode cX6_finding 25 = .ok (.iload_n 1, 1) := by decide +kernel
theorem dX6_finding_26 : decode cX6_finding 26 = .ok (.ireturn, 1) := by decide +kernel
theorem dX6_within_0 : decode cX6_within 0 = .ok (.iload_n 0, 1) := by decide +kernel
theorem dX6_within_1 : decode cX6_within 1 = .ok (.iload_n 1, 1) := by decide +kernel
theorem dX6_within_2 : decode cX6_within 2 = .ok (.if_icmp .lt 12, 3) := by decide +kernel
theorem dX6_within_5 : decode cX6_within 5 = .ok (.iload_n 0, 1) := by decide +kernel
theorem dX6_within_6 : decode cX6_within 6 = .ok (.iload_n 2, 1) := by decide +kernel
theorem dX6_within_7 : decode cX6_within 7 = .ok (.if_icmp .gt 7, 3) := by decide +kernel
theorem dX6_within_10 : decode cX6_within 10 = .ok (.iconst 1, 1) := by decide +kernel
theorem dX6_within_11 : decode cX6_within 11 = .ok (.goto 4, 3) := by decide +kernel
theorem dX6_within_14 : decode cX6_within 14 = .ok (.iconst 0, 1) := by decide +kernel
theorem dX6_within_15 : decode cX6_within 15 = .ok (.ireturn, 1) := by decide +kernel
theorem dX6_become_0 : decode cX6_become 0 = .ok (.aload_n 0, 1) := by decide +kernel
theorem dX6_become_1 : decode cX6_become 1 = .ok (.getfield 9, 3) := by decide +kernel
theorem dX6_become_4 : decode cX6_become 4 = .ok (.iload_n 1, 1) := by decide +kernel
theorem dX6_become_5 : decode cX6_become 5 = .ok (.iaload, 1) := by decide +kernel
theorem dX6_become_6 : decode cX6_become 6 = .ok (.istore_n 3, 1) := by decide +kernel
theorem dX6_become_7 : decode cX6_become 7 = .ok (.aload_n 0, 1) := by decide +kernel
theorem dX6_become_8 : decode cX6_become 8 = .ok (.getfield 9, 3) := by decide +kernel
theorem dX6_become_11 : decode cX6_become 11 = .ok (.iload_n 1, 1) := by decide +kernel
theorem dX6_become_12 : decode cX6_become 12 = .ok (.iload_n 2, 1) := by decide +kernel
theorem dX6_become_13 : decode cX6_become 13 = .ok (.iastore, 1) := by decide +kernel
theorem dX6_become_14 : decode cX6_become 14 = .ok (.iload_n 3, 1) := by decide +kernel
theorem dX6_become_15 : decode cX6_become 15 = .ok (.ireturn, 1) := by decide +kernel
theorem dX6_copyRow_0 : decode cX6_copyRow 0 = .ok (.iconst 0, 1) := by decide +kernel
theorem dX6_copyRow_1 : decode cX6_copyRow 1 = .ok (.istore_n 2, 1) := by decide +kernel
theorem dX6_copyRow_2 : decode cX6_copyRow 2 = .ok (.iload_n 2, 1) := by decide +kernel
theorem dX6_copyRow_3 : decode cX6_copyRow 3 = .ok (.sipush 210, 3) := by decide +kernel
theorem dX6_copyRow_6 : decode cX6_copyRow 6 = .ok (.if_icmp .ge 15, 3) := by decide +kernel
theorem dX6_copyRow_9 : decode cX6_copyRow 9 = .ok (.aload_n 1, 1) := by decide +kernel
theorem dX6_copyRow_10 : decode cX6_copyRow 10 = .ok (.iload_n 2, 1) := by decide +kernel
theorem dX6_copyRow_11 : decode cX6_copyRow 11 = .ok (.aload_n 0, 1) := by decide +kernel
theorem dX6_copyRow_12 : decode cX6_copyRow 12 = .ok (.iload_n 2, 1) := by decide +kernel
theorem dX6_copyRow_13 : decode cX6_copyRow 13 = .ok (.iaload, 1) := by decide +kernel
theorem dX6_copyRow_14 : decode cX6_copyRow 14 = .ok (.iastore, 1) := by decide +kernel
theorem dX6_copyRow_15 : decode cX6_copyRow 15 = .ok (.iinc 2 1, 3) := by decide +kernel
theorem dX6_copyRow_18 : decode cX6_copyRow 18 = .ok (.goto (-16), 3) := by decide +kernel
theorem dX6_copyRow_21 : decode cX6_copyRow 21 = .ok (.return_, 1) := by decide +kernel
set_option maxRecDepth 20000 in
theorem ggX6_putBack_X6_copyRow : GoodIn wsX6_putBack wsX6_copyRow := goodIn_r _ [6] (by decide +kernel) (by decide +kernel)
set_option maxRecDepth 20000 in
theorem gX6_putBack_X6_copyRow : GoodIn wsX6_putBack (va_wsS RX6 65 yX6_copyRow wsX6_copyRow) := goodIn_app (goodIn_of _ (by decide +kernel)) ggX6_putBack_X6_copyRow
theorem dX6_putBack_0 : decode cX6_putBack 0 = .ok (.aload_n 0, 1) := by decide +kernel
theorem dX6_putBack_1 : decode cX6_putBack 1 = .ok (.getfield 16, 3) := by decide +kernel
theorem dX6_putBack_4 : decode cX6_putBack 4 = .ok (.aload_n 0, 1) := by decide +kernel
theorem dX6_putBack_5 : decode cX6_putBack 5 = .ok (.getfield 9, 3) := by decide +kernel
theorem dX6_putBack_8 : decode cX6_putBack 8 = .ok (.invokestatic 65, 3) := by decide +kernel
theorem dX6_putBack_11 : decode cX6_putBack 11 = .ok (.iload_n 1, 1) := by decide +kernel
theorem dX6_putBack_12 : decode cX6_putBack 12 = .ok (.ireturn, 1) := by decide +kernel
theorem dX6_bits_0 : decode cX6_bits 0 = .ok (.iconst 0, 1) := by decide +kernel
theorem dX6_bits_1 : decode cX6_bits 1 = .ok (.istore_n 1, 1) := by decide +kernel
theorem dX6_bits_2 : decode cX6_bits 2 = .ok (.iload_n 0, 1) := by decide +kernel
theorem dX6_bits_3 : decode cX6_bits 3 = .ok (.istore_n 2, 1) := by decide +kernel
theorem dX6_bits_4 : decode cX6_bits 4 = .ok (.iload_n 2, 1) := by decide +kernel
theorem dX6_bits_5 : decode cX6_bits 5 = .ok (.ifCond .eq 15, 3) := by decide +kernel
theorem dX6_bits_8 : decode cX6_bits 8 = .ok (.iinc 1 1, 3) := by decide +kernel
theorem dX6_bits_11 : decode cX6_bits 11 = .ok (.iload_n 2, 1) := by decide +kernel
theorem dX6_bits_12 : decode cX6_bits 12 = .ok (.iload_n 2, 1) := by decide +kernel
theorem dX6_bits_13 : decode cX6_bits 13 = .ok (.iconst 1, 1) := by decide +kernel
theorem dX6_bits_14 : decode cX6_bits 14 = .ok (.isub, 1) := by decide +kernel
theorem dX6_bits_15 : decode cX6_bits 15 = .ok (.iand, 1) := by decide +kernel
theorem dX6_bits_16 : decode cX6_bits 16 = .ok (.istore_n 2, 1) := by decide +kernel
theorem dX6_bits_17 : decode cX6_bits 17 = .ok (.goto (-13), 3) := by decide +kernel
theorem dX6_bits_20 : decode cX6_bits 20 = .ok (.iload_n 1, 1) := by decide +kernel
theorem dX6_bits_21 : decode cX6_bits 21 = .ok (.ireturn, 1) := by decide +kernel
set_option maxRecDepth 20000 in
theorem ggX6_isThing_X6_within : GoodIn wsX6_isThing wsX6_within := goodIn_r _ [4] (by decide +kernel) (by decide +kernel)
set_option maxRecDepth 20000 in
theorem gX6_isThing_X6_within : GoodIn wsX6_isThing (va_wsS RX6 69 yX6_within wsX6_within) := goodIn_app (goodIn_of _ (by decide +kernel)) ggX6_isThing_X6_within
theorem dX6_isThing_0 : decode cX6_isThing 0 = .ok (.iload_n 0, 1) := by decide +kernel
theorem dX6_isThing_1 : decode cX6_isThing 1 = .ok (.iconst 0, 1) := by decide +kernel
theorem dX6_isThing_2 : decode cX6_isThing 2 = .ok (.iconst 4, 1) := by decide +kernel
theorem dX6_isThing_3 : decode cX6_isThing 3 = .ok (.invokestatic 69, 3) := by decide +kernel
theorem dX6_isThing_6 : decode cX6_isThing 6 = .ok (.ireturn, 1) := by decide +kernel
set_option maxRecDepth 20000 in
theorem ggX6_isSide_X6_within : GoodIn wsX6_isSide wsX6_within := goodIn_r _ [4] (by decide +kernel) (by decide +kernel)
set_option maxRecDepth 20000 in
theorem gX6_isSide_X6_within : GoodIn wsX6_isSide (va_wsS RX6 69 yX6_within wsX6_within) := goodIn_app (goodIn_of _ (by decide +kernel)) ggX6_isSide_X6_within
theorem dX6_isSide_0 : decode cX6_isSide 0 = .ok (.iload_n 0, 1) := by decide +kernel
theorem dX6_isSide_1 : decode cX6_isSide 1 = .ok (.iconst 0, 1) := by decide +kernel
theorem dX6_isSide_2 : decode cX6_isSide 2 = .ok (.iconst 1, 1) := by decide +kernel
theorem dX6_isSide_3 : decode cX6_isSide 3 = .ok (.invokestatic 69, 3) := by decide +kernel
theorem dX6_isSide_6 : decode cX6_isSide 6 = .ok (.ireturn, 1) := by decide +kernel
set_option maxRecDepth 20000 in
theorem ggX6_isKind_X6_within : GoodIn wsX6_isKind wsX6_within := goodIn_r _ [4] (by decide +kernel) (by decide +kernel)
set_option maxRecDepth 20000 in
theorem gX6_isKind_X6_within : GoodIn wsX6_isKind (va_wsS RX6 69 yX6_within wsX6_within) := goodIn_app (goodIn_of _ (by decide +kernel)) ggX6_isKind_X6_within
theorem dX6_isKind_0 : decode cX6_isKind 0 = .ok (.iload_n 0, 1) := by decide +kernel
theorem dX6_isKind_1 : decode cX6_isKind 1 = .ok (.iconst 0, 1) := by decide +kernel
theorem dX6_isKind_2 : decode cX6_isKind 2 = .ok (.bipush 6, 2) := by decide +kernel
theorem dX6_isKind_4 : decode cX6_isKind 4 = .ok (.invokestatic 69, 3) := by decide +kernel
theorem dX6_isKind_7 : decode cX6_isKind 7 = .ok (.ireturn, 1) := by decide +kernel
theorem dX6_at_0 : decode cX6_at 0 = .ok (.bipush 20, 2) := by decide +kernel
theorem dX6_at_2 : decode cX6_at 2 = .ok (.bipush 17, 2) := by decide +kernel
theorem dX6_at_4 : decode cX6_at 4 = .ok (.iload_n 0, 1) := by decide +kernel
theorem dX6_at_5 : decode cX6_at 5 = .ok (.imul, 1) := by decide +kernel
theorem dX6_at_6 : decode cX6_at 6 = .ok (.iadd, 1) := by decide +kernel
theorem dX6_at_7 : decode cX6_at 7 = .ok (.iload_n 1, 1) := by decide +kernel
theorem dX6_at_8 : decode cX6_at 8 = .ok (.iadd, 1) := by decide +kernel
theorem dX6_at_9 : decode cX6_at 9 = .ok (.ireturn, 1) := by decide +kernel
set_option maxRecDepth 20000 in
theorem ggX6_sideIs_X6_at : GoodIn wsX6_sideIs wsX6_at := goodIn_r _ [5] (by decide +kernel) (by decide +kernel)
set_option maxRecDepth 20000 in
theorem gX6_sideIs_X6_at : GoodIn wsX6_sideIs (va_wsS RX6 60 yX6_at wsX6_at) := goodIn_app (goodIn_of _ (by decide +kernel)) ggX6_sideIs_X6_at
theorem dX6_sideIs_0 : decode cX6_sideIs 0 = .ok (.aload_n 0, 1) := by decide +kernel
theorem dX6_sideIs_1 : decode cX6_sideIs 1 = .ok (.getfield 9, 3) := by decide +kernel
theorem dX6_sideIs_4 : decode cX6_sideIs 4 = .ok (.iload_n 1, 1) := by decide +kernel
theorem dX6_sideIs_5 : decode cX6_sideIs 5 = .ok (.iload_n 2, 1) := by decide +kernel
theorem dX6_sideIs_6 : decode cX6_sideIs 6 = .ok (.invokestatic 60, 3) := by decide +kernel
theorem dX6_sideIs_9 : decode cX6_sideIs 9 = .ok (.iaload, 1) := by decide +kernel
theorem dX6_sideIs_10 : decode cX6_sideIs 10 = .ok (.ireturn, 1) := by decide +kernel
set_option maxRecDepth 20000 in
theorem ggX6_kind_X6_isThing : GoodIn wsX6_kind wsX6_isThing := goodIn_r _ [5, 6, 7, 4, 8] (by decide +kernel) (by decide +kernel)
set_option maxRecDepth 20000 in
theorem gX6_kind_X6_isThing : GoodIn wsX6_kind (va_wsS RX6 73 yX6_isThing wsX6_isThing) := goodIn_app (goodIn_of _ (by decide +kernel)) ggX6_kind_X6_isThing
set_option maxRecDepth 20000 in
theorem ggX6_kind_X6_isKind : GoodIn wsX6_kind wsX6_isKind := goodIn_r _ [11, 6, 7, 4, 8] (by decide +kernel) (by decide +kernel)
set_option maxRecDepth 20000 in
theorem gX6_kind_X6_isKind : GoodIn wsX6_kind (va_wsS RX6 77 yX6_isKind wsX6_isKind) := goodIn_app (goodIn_of _ (by decide +kernel)) ggX6_kind_X6_isKind
set_option maxRecDepth 20000 in
theorem ggX6_kind_X6_become : GoodIn wsX6_kind wsX6_become := goodIn_r _ [15, 16, 22, 23, 24, 25, 26, 27, 28, 29, 30, 31, 32, 33, 34, 35, 36, 37, 38, 39, 40, 41, 42, 43] (by decide +kernel) (by decide +kernel)
set_option maxRecDepth 20000 in
theorem gX6_kind_X6_become : GoodIn wsX6_kind (wsV RX6 80 RX6 yX6_become wsX6_become) := goodIn_app (goodIn_of _ (by decide +kernel)) ggX6_kind_X6_become
set_option maxRecDepth 20000 in
theorem ggX6_kind_X6_finding : GoodIn wsX6_kind wsX6_finding := goodIn_r _ [20, 21, 1, 22, 23, 24, 25, 26, 27, 28, 29, 30, 31, 32, 33, 34, 35, 36, 37, 38, 39, 40, 41, 42, 43] (by decide +kernel) (by decide +kernel)
set_option maxRecDepth 20000 in
theorem gX6_kind_X6_finding : GoodIn wsX6_kind (wsV RX6 83 RX6 yX6_finding wsX6_finding) := goodIn_app (goodIn_of _ (by decide +kernel)) ggX6_kind_X6_finding
theorem dX6_kind_0 : decode cX6_kind 0 = .ok (.iload_n 1, 1) := by decide +kernel
theorem dX6_kind_1 : decode cX6_kind 1 = .ok (.invokestatic 73, 3) := by decide +kernel
theorem dX6_kind_4 : decode cX6_kind 4 = .ok (.ifCond .eq 22, 3) := by decide +kernel
theorem dX6_kind_7 : decode cX6_kind 7 = .ok (.iload_n 2, 1) := by decide +kernel
theorem dX6_kind_8 : decode cX6_kind 8 = .ok (.invokestatic 77, 3) := by decide +kernel
theorem dX6_kind_11 : decode cX6_kind 11 = .ok (.ifCond .eq 15, 3) := by decide +kernel
theorem dX6_kind_14 : decode cX6_kind 14 = .ok (.aload_n 0, 1) := by decide +kernel
theorem dX6_kind_15 : decode cX6_kind 15 = .ok (.bipush 15, 2) := by decide +kernel
theorem dX6_kind_17 : decode cX6_kind 17 = .ok (.iload_n 1, 1) := by decide +kernel
theorem dX6_kind_18 : decode cX6_kind 18 = .ok (.iadd, 1) := by decide +kernel
theorem dX6_kind_19 : decode cX6_kind 19 = .ok (.iload_n 2, 1) := by decide +kernel
theorem dX6_kind_20 : decode cX6_kind 20 = .ok (.invokevirtual 80, 3) := by decide +kernel
theorem dX6_kind_23 : decode cX6_kind 23 = .ok (.goto 9, 3) := by decide +kernel
theorem dX6_kind_26 : decode cX6_kind 26 = .ok (.aload_n 0, 1) := by decide +kernel
theorem dX6_kind_27 : decode cX6_kind 27 = .ok (.ldc 64, 2) := by decide +kernel
theorem dX6_kind_29 : decode cX6_kind 29 = .ok (.invokevirtual 83, 3) := by decide +kernel
theorem dX6_kind_32 : decode cX6_kind 32 = .ok (.ireturn, 1) := by decide +kernel
theorem dX6_fieldOf_0 : decode cX6_fieldOf 0 = .ok (.iload_n 0, 1) := by decide +kernel
theorem dX6_fieldOf_1 : decode cX6_fieldOf 1 = .ok (.ifCond .ne 7, 3) := by decide +kernel
theorem dX6_fieldOf_4 : decode cX6_fieldOf 4 = .ok (.iconst 2, 1) := by decide +kernel
theorem dX6_fieldOf_5 : decode cX6_fieldOf 5 = .ok (.goto 15, 3) := by decide +kernel
theorem dX6_fieldOf_8 : decode cX6_fieldOf 8 = .ok (.iload_n 0, 1) := by decide +kernel
theorem dX6_fieldOf_9 : decode cX6_fieldOf 9 = .ok (.iconst 1, 1) := by decide +kernel
theorem dX6_fieldOf_10 : decode cX6_fieldOf 10 = .ok (.if_icmp .ne 8, 3) := by decide +kernel
theorem dX6_fieldOf_13 : decode cX6_fieldOf 13 = .ok (.bipush 7, 2) := by decide +kernel
theorem dX6_fieldOf_15 : decode cX6_fieldOf 15 = .ok (.goto 5, 3) := by decide +kernel
theorem dX6_fieldOf_18 : decode cX6_fieldOf 18 = .ok (.bipush 12, 2) := by decide +kernel
theorem dX6_fieldOf_20 : decode cX6_fieldOf 20 = .ok (.ireturn, 1) := by decide +kernel
set_option maxRecDepth 20000 in
theorem ggX6_of_X6_isSide : GoodIn wsX6_of wsX6_isSide := goodIn_r _ [5, 6, 7, 4, 8] (by decide +kernel) (by decide +kernel)
set_option maxRecDepth 20000 in
theorem gX6_of_X6_isSide : GoodIn wsX6_of (va_wsS RX6 87 yX6_isSide wsX6_isSide) := goodIn_app (goodIn_of _ (by decide +kernel)) ggX6_of_X6_isSide
set_option maxRecDepth 20000 in
theorem ggX6_of_X6_isThing : GoodIn wsX6_of wsX6_isThing := goodIn_r _ [11, 6, 7, 4, 8] (by decide +kernel) (by decide +kernel)
set_option maxRecDepth 20000 in
theorem gX6_of_X6_isThing : GoodIn wsX6_of (va_wsS RX6 73 yX6_isThing wsX6_isThing) := goodIn_app (goodIn_of _ (by decide +kernel)) ggX6_of_X6_isThing
set_option maxRecDepth 20000 in
theorem ggX6_of_X6_within : GoodIn wsX6_of wsX6_within := goodIn_r _ [8] (by decide +kernel) (by decide +kernel)
set_option maxRecDepth 20000 in
theorem gX6_of_X6_within : GoodIn wsX6_of (va_wsS RX6 69 yX6_within wsX6_within) := goodIn_app (goodIn_of _ (by decide +kernel)) ggX6_of_X6_within
set_option maxRecDepth 20000 in
theorem ggX6_of_X6_fieldOf : GoodIn wsX6_of wsX6_fieldOf := goodIn_r _ [14] (by decide +kernel) (by decide +kernel)
set_option maxRecDepth 20000 in
theorem gX6_of_X6_fieldOf : GoodIn wsX6_of (va_wsS RX6 90 yX6_fieldOf wsX6_fieldOf) := goodIn_app (goodIn_of _ (by decide +kernel)) ggX6_of_X6_fieldOf
set_option maxRecDepth 20000 in
theorem ggX6_of_X6_sideIs : GoodIn wsX6_of wsX6_sideIs := goodIn_r _ [18, 19, 20, 21, 4, 22, 28, 29, 30, 31, 32, 33, 34, 35, 36, 37, 38, 39, 40, 41, 42, 43, 44, 45, 46, 47, 48, 49] (by decide +kernel) (by decide +kernel)
set_option maxRecDepth 20000 in
theorem gX6_of_X6_sideIs : GoodIn wsX6_of (wsV RX6 93 RX6 yX6_sideIs wsX6_sideIs) := goodIn_app (goodIn_of _ (by decide +kernel)) ggX6_of_X6_sideIs
set_option maxRecDepth 20000 in
theorem ggX6_of_X6_finding : GoodIn wsX6_of wsX6_finding := goodIn_r _ [26, 27, 1, 28, 29, 30, 31, 32, 33, 34, 35, 36, 37, 38, 39, 40, 41, 42, 43, 44, 45, 46, 47, 48, 49] (by decide +kernel) (by decide +kernel)
set_option maxRecDepth 20000 in
theorem gX6_of_X6_finding : GoodIn wsX6_of (wsV RX6 83 RX6 yX6_finding wsX6_finding) := goodIn_app (goodIn_of _ (by decide +kernel)) ggX6_of_X6_finding
theorem dX6_of_0 : decode cX6_of 0 = .ok (.iload_n 1, 1) := by decide +kernel
theorem dX6_of_1 : decode cX6_of 1 = .ok (.invokestatic 87, 3) := by decide +kernel
theorem dX6_of_4 : decode cX6_of 4 = .ok (.ifCond .eq 23, 3) := by decide +kernel
theorem dX6_of_7 : decode cX6_of 7 = .ok (.iload_n 2, 1) := by decide +kernel
theorem dX6_of_8 : decode cX6_of 8 = .ok (.invokestatic 73, 3) := by decide +kernel
theorem dX6_of_11 : decode cX6_of 11 = .ok (.ifCond .eq 16, 3) := by decide +kernel
theorem dX6_of_14 : decode cX6_of 14 = .ok (.iload_n 3, 1) := by decide +kernel
theorem dX6_of_15 : decode cX6_of 15 = .ok (.iconst 0, 1) := by decide +kernel
theorem dX6_of_16 : decode cX6_of 16 = .ok (.iconst 2, 1) := by decide +kernel
theorem dX6_of_17 : decode cX6_of 17 = .ok (.invokestatic 69, 3) := by decide +kernel
theorem dX6_of_20 : decode cX6_of 20 = .ok (.ifCond .eq 7, 3) := by decide +kernel
theorem dX6_of_23 : decode cX6_of 23 = .ok (.iconst 1, 1) := by decide +kernel
theorem dX6_of_24 : decode cX6_of 24 = .ok (.goto 4, 3) := by decide +kernel
theorem dX6_of_27 : decode cX6_of 27 = .ok (.iconst 0, 1) := by decide +kernel
theorem dX6_of_28 : decode cX6_of 28 = .ok (.istore 4, 2) := by decide +kernel
theorem dX6_of_30 : decode cX6_of 30 = .ok (.iload 4, 2) := by decide +kernel
theorem dX6_of_32 : decode cX6_of 32 = .ok (.ifCond .eq 17, 3) := by decide +kernel
theorem dX6_of_35 : decode cX6_of 35 = .ok (.aload_n 0, 1) := by decide +kernel
theorem dX6_of_36 : decode cX6_of 36 = .ok (.iload_n 1, 1) := by decide +kernel
theorem dX6_of_37 : decode cX6_of 37 = .ok (.iload_n 3, 1) := by decide +kernel
theorem dX6_of_38 : decode cX6_of 38 = .ok (.invokestatic 90, 3) := by decide +kernel
theorem dX6_of_41 : decode cX6_of 41 = .ok (.iload_n 2, 1) := by decide +kernel
theorem dX6_of_42 : decode cX6_of 42 = .ok (.iadd, 1) := by decide +kernel
theorem dX6_of_43 : decode cX6_of 43 = .ok (.invokevirtual 93, 3) := by decide +kernel
theorem dX6_of_46 : decode cX6_of 46 = .ok (.goto 9, 3) := by decide +kernel
theorem dX6_of_49 : decode cX6_of 49 = .ok (.aload_n 0, 1) := by decide +kernel
theorem dX6_of_50 : decode cX6_of 50 = .ok (.ldc 64, 2) := by decide +kernel
theorem dX6_of_52 : decode cX6_of 52 = .ok (.invokevirtual 83, 3) := by decide +kernel
theorem dX6_of_55 : decode cX6_of 55 = .ok (.ireturn, 1) := by decide +kernel
set_option maxRecDepth 20000 in
theorem ggX6_change_X6_isSide : GoodIn wsX6_change wsX6_isSide := goodIn_r _ [5, 6, 7, 4, 8] (by decide +kernel) (by decide +kernel)
set_option maxRecDepth 20000 in
theorem gX6_change_X6_isSide : GoodIn wsX6_change (va_wsS RX6 87 yX6_isSide wsX6_isSide) := goodIn_app (goodIn_of _ (by decide +kernel)) ggX6_change_X6_isSide
set_option maxRecDepth 20000 in
theorem ggX6_change_X6_isThing : GoodIn wsX6_change wsX6_isThing := goodIn_r _ [11, 6, 7, 4, 8] (by decide +kernel) (by decide +kernel)
set_option maxRecDepth 20000 in
theorem gX6_change_X6_isThing : GoodIn wsX6_change (va_wsS RX6 73 yX6_isThing wsX6_isThing) := goodIn_app (goodIn_of _ (by decide +kernel)) ggX6_change_X6_isThing
set_option maxRecDepth 20000 in
theorem ggX6_change_X6_within : GoodIn wsX6_change wsX6_within := goodIn_r _ [8] (by decide +kernel) (by decide +kernel)
set_option maxRecDepth 20000 in
theorem gX6_change_X6_within : GoodIn wsX6_change (va_wsS RX6 69 yX6_within wsX6_within) := goodIn_app (goodIn_of _ (by decide +kernel)) ggX6_change_X6_within
set_option maxRecDepth 20000 in
theorem ggX6_change_X6_fieldOf : GoodIn wsX6_change wsX6_fieldOf := goodIn_r _ [14] (by decide +kernel) (by decide +kernel)
set_option maxRecDepth 20000 in
theorem gX6_change_X6_fieldOf : GoodIn wsX6_change (va_wsS RX6 90 yX6_fieldOf wsX6_fieldOf) := goodIn_app (goodIn_of _ (by decide +kernel)) ggX6_change_X6_fieldOf
set_option maxRecDepth 20000 in
theorem ggX6_change_X6_at : GoodIn wsX6_change wsX6_at := goodIn_r _ [17] (by decide +kernel) (by decide +kernel)
set_option maxRecDepth 20000 in
theorem gX6_change_X6_at : GoodIn wsX6_change (va_wsS RX6 60 yX6_at wsX6_at) := goodIn_app (goodIn_of _ (by decide +kernel)) ggX6_change_X6_at
set_option maxRecDepth 20000 in
theorem ggX6_change_X6_become : GoodIn wsX6_change wsX6_become := goodIn_r _ [21, 22, 28, 29, 30, 31, 32, 33, 34, 35, 36, 37, 38, 39, 40, 41, 42, 43, 44, 45, 46, 47, 48, 49] (by decide +kernel) (by decide +kernel)
set_option maxRecDepth 20000 in
theorem gX6_change_X6_become : GoodIn wsX6_change (wsV RX6 80 RX6 yX6_become wsX6_become) := goodIn_app (goodIn_of _ (by decide +kernel)) ggX6_change_X6_become
set_option maxRecDepth 20000 in
theorem ggX6_change_X6_finding : GoodIn wsX6_change wsX6_finding := goodIn_r _ [26, 27, 1, 28, 29, 30, 31, 32, 33, 34, 35, 36, 37, 38, 39, 40, 41, 42, 43, 44, 45, 46, 47, 48, 49] (by decide +kernel) (by decide +kernel)
set_option maxRecDepth 20000 in
theorem gX6_change_X6_finding : GoodIn wsX6_change (wsV RX6 83 RX6 yX6_finding wsX6_finding) := goodIn_app (goodIn_of _ (by decide +kernel)) ggX6_change_X6_finding
theorem dX6_change_0 : decode cX6_change 0 = .ok (.iload_n 1, 1) := by decide +kernel
theorem dX6_change_1 : decode cX6_change 1 = .ok (.invokestatic 87, 3) := by decide +kernel
theorem dX6_change_4 : decode cX6_change 4 = .ok (.ifCond .eq 44, 3) := by decide +kernel
theorem dX6_change_7 : decode cX6_change 7 = .ok (.iload_n 2, 1) := by decide +kernel
theorem dX6_change_8 : decode cX6_change 8 = .ok (.invokestatic 73, 3) := by decide +kernel
theorem dX6_change_11 : decode cX6_change 11 = .ok (.ifCond .eq 37, 3) := by decide +kernel
theorem dX6_change_14 : decode cX6_change 14 = .ok (.iload_n 3, 1) := by decide +kernel
theorem dX6_change_15 : decode cX6_change 15 = .ok (.iconst 0, 1) := by decide +kernel
theorem dX6_change_16 : decode cX6_change 16 = .ok (.iconst 2, 1) := by decide +kernel
theorem dX6_change_17 : decode cX6_change 17 = .ok (.invokestatic 69, 3) := by decide +kernel
theorem dX6_change_20 : decode cX6_change 20 = .ok (.ifCond .eq 28, 3) := by decide +kernel
theorem dX6_change_23 : decode cX6_change 23 = .ok (.iload 4, 2) := by decide +kernel
theorem dX6_change_25 : decode cX6_change 25 = .ok (.iconst 0, 1) := by decide +kernel
theorem dX6_change_26 : decode cX6_change 26 = .ok (.iload_n 3, 1) := by decide +kernel
theorem dX6_change_27 : decode cX6_change 27 = .ok (.iconst 2, 1) := by decide +kernel
theorem dX6_change_28 : decode cX6_change 28 = .ok (.if_icmp .ne 8, 3) := by decide +kernel
theorem dX6_change_31 : decode cX6_change 31 = .ok (.bipush 20, 2) := by decide +kernel
theorem dX6_change_33 : decode cX6_change 33 = .ok (.goto 5, 3) := by decide +kernel
theorem dX6_change_36 : decode cX6_change 36 = .ok (.bipush 99, 2) := by decide +kernel
theorem dX6_change_38 : decode cX6_change 38 = .ok (.invokestatic 69, 3) := by decide +kernel
theorem dX6_change_41 : decode cX6_change 41 = .ok (.ifCond .eq 7, 3) := by decide +kernel
theorem dX6_change_44 : decode cX6_change 44 = .ok (.iconst 1, 1) := by decide +kernel
theorem dX6_change_45 : decode cX6_change 45 = .ok (.goto 4, 3) := by decide +kernel
theorem dX6_change_48 : decode cX6_change 48 = .ok (.iconst 0, 1) := by decide +kernel
theorem dX6_change_49 : decode cX6_change 49 = .ok (.istore 5, 2) := by decide +kernel
theorem dX6_change_51 : decode cX6_change 51 = .ok (.iload 5, 2) := by decide +kernel
theorem dX6_change_53 : decode cX6_change 53 = .ok (.ifCond .eq 22, 3) := by decide +kernel
theorem dX6_change_56 : decode cX6_change 56 = .ok (.aload_n 0, 1) := by decide +kernel
theorem dX6_change_57 : decode cX6_change 57 = .ok (.iload_n 1, 1) := by decide +kernel
theorem dX6_change_58 : decode cX6_change 58 = .ok (.iload_n 3, 1) := by decide +kernel
theorem dX6_change_59 : decode cX6_change 59 = .ok (.invokestatic 90, 3) := by decide +kernel
theorem dX6_change_62 : decode cX6_change 62 = .ok (.iload_n 2, 1) := by decide +kernel
theorem dX6_change_63 : decode cX6_change 63 = .ok (.iadd, 1) := by decide +kernel
theorem dX6_change_64 : decode cX6_change 64 = .ok (.invokestatic 60, 3) := by decide +kernel
theorem dX6_change_67 : decode cX6_change 67 = .ok (.iload 4, 2) := by decide +kernel
theorem dX6_change_69 : decode cX6_change 69 = .ok (.invokevirtual 80, 3) := by decide +kernel
theorem dX6_change_72 : decode cX6_change 72 = .ok (.goto 9, 3) := by decide +kernel
theorem dX6_change_75 : decode cX6_change 75 = .ok (.aload_n 0, 1) := by decide +kernel
theorem dX6_change_76 : decode cX6_change 76 = .ok (.ldc 64, 2) := by decide +kernel
theorem dX6_change_78 : decode cX6_change 78 = .ok (.invokevirtual 83, 3) := by decide +kernel
theorem dX6_change_81 : decode cX6_change 81 = .ok (.ireturn, 1) := by decide +kernel
set_option maxRecDepth 20000 in
theorem ggX6_side_X6_isSide : GoodIn wsX6_side wsX6_isSide := goodIn_r _ [5, 6, 7, 4, 8] (by decide +kernel) (by decide +kernel)
set_option maxRecDepth 20000 in
theorem gX6_side_X6_isSide : GoodIn wsX6_side (va_wsS RX6 87 yX6_isSide wsX6_isSide) := goodIn_app (goodIn_of _ (by decide +kernel)) ggX6_side_X6_isSide
set_option maxRecDepth 20000 in
theorem ggX6_side_X6_within : GoodIn wsX6_side wsX6_within := goodIn_r _ [8] (by decide +kernel) (by decide +kernel)
set_option maxRecDepth 20000 in
theorem gX6_side_X6_within : GoodIn wsX6_side (va_wsS RX6 69 yX6_within wsX6_within) := goodIn_app (goodIn_of _ (by decide +kernel)) ggX6_side_X6_within
set_option maxRecDepth 20000 in
theorem ggX6_side_X6_at : GoodIn wsX6_side wsX6_at := goodIn_r _ [11] (by decide +kernel) (by decide +kernel)
set_option maxRecDepth 20000 in
theorem gX6_side_X6_at : GoodIn wsX6_side (va_wsS RX6 60 yX6_at wsX6_at) := goodIn_app (goodIn_of _ (by decide +kernel)) ggX6_side_X6_at
set_option maxRecDepth 20000 in
theorem ggX6_side_X6_become : GoodIn wsX6_side wsX6_become := goodIn_r _ [15, 16, 22, 23, 24, 25, 26, 27, 28, 29, 30, 31, 32, 33, 34, 35, 36, 37, 38, 39, 40, 41, 42, 43] (by decide +kernel) (by decide +kernel)
set_option maxRecDepth 20000 in
theorem gX6_side_X6_become : GoodIn wsX6_side (wsV RX6 80 RX6 yX6_become wsX6_become) := goodIn_app (goodIn_of _ (by decide +kernel)) ggX6_side_X6_become
set_option maxRecDepth 20000 in
theorem ggX6_side_X6_finding : GoodIn wsX6_side wsX6_finding := goodIn_r _ [20, 21, 1, 22, 23, 24, 25, 26, 27, 28, 29, 30, 31, 32, 33, 34, 35, 36, 37, 38, 39, 40, 41, 42, 43] (by decide +kernel) (by decide +kernel)
set_option maxRecDepth 20000 in
theorem gX6_side_X6_finding : GoodIn wsX6_side (wsV RX6 83 RX6 yX6_finding wsX6_finding) := goodIn_app (goodIn_of _ (by decide +kernel)) ggX6_side_X6_finding
theorem dX6_side_0 : decode cX6_side 0 = .ok (.iload_n 1, 1) := by decide +kernel
theorem dX6_side_1 : decode cX6_side 1 = .ok (.invokestatic 87, 3) := by decide +kernel
theorem dX6_side_4 : decode cX6_side 4 = .ok (.ifCond .eq 36, 3) := by decide +kernel
theorem dX6_side_7 : decode cX6_side 7 = .ok (.iload_n 2, 1) := by decide +kernel
theorem dX6_side_8 : decode cX6_side 8 = .ok (.ifCond .ne 13, 3) := by decide +kernel
theorem dX6_side_11 : decode cX6_side 11 = .ok (.iload_n 3, 1) := by decide +kernel
theorem dX6_side_12 : decode cX6_side 12 = .ok (.iconst 0, 1) := by decide +kernel
theorem dX6_side_13 : decode cX6_side 13 = .ok (.bipush 50, 2) := by decide +kernel
theorem dX6_side_15 : decode cX6_side 15 = .ok (.invokestatic 69, 3) := by decide +kernel
theorem dX6_side_18 : decode cX6_side 18 = .ok (.ifCond .ne 18, 3) := by decide +kernel
theorem dX6_side_21 : decode cX6_side 21 = .ok (.iload_n 2, 1) := by decide +kernel
theorem dX6_side_22 : decode cX6_side 22 = .ok (.iconst 1, 1) := by decide +kernel
theorem dX6_side_23 : decode cX6_side 23 = .ok (.if_icmp .ne 17, 3) := by decide +kernel
theorem dX6_side_26 : decode cX6_side 26 = .ok (.iload_n 3, 1) := by decide +kernel
theorem dX6_side_27 : decode cX6_side 27 = .ok (.iconst 0, 1) := by decide +kernel
theorem dX6_side_28 : decode cX6_side 28 = .ok (.bipush 9, 2) := by decide +kernel
theorem dX6_side_30 : decode cX6_side 30 = .ok (.invokestatic 69, 3) := by decide +kernel
theorem dX6_side_33 : decode cX6_side 33 = .ok (.ifCond .eq 7, 3) := by decide +kernel
theorem dX6_side_36 : decode cX6_side 36 = .ok (.iconst 1, 1) := by decide +kernel
theorem dX6_side_37 : decode cX6_side 37 = .ok (.goto 4, 3) := by decide +kernel
theorem dX6_side_40 : decode cX6_side 40 = .ok (.iconst 0, 1) := by decide +kernel
theorem dX6_side_41 : decode cX6_side 41 = .ok (.istore 4, 2) := by decide +kernel
theorem dX6_side_43 : decode cX6_side 43 = .ok (.iload 4, 2) := by decide +kernel
theorem dX6_side_45 : decode cX6_side 45 = .ok (.ifCond .eq 16, 3) := by decide +kernel
theorem dX6_side_48 : decode cX6_side 48 = .ok (.aload_n 0, 1) := by decide +kernel
theorem dX6_side_49 : decode cX6_side 49 = .ok (.iload_n 1, 1) := by decide +kernel
theorem dX6_side_50 : decode cX6_side 50 = .ok (.iload_n 2, 1) := by decide +kernel
theorem dX6_side_51 : decode cX6_side 51 = .ok (.invokestatic 60, 3) := by decide +kernel
theorem dX6_side_54 : decode cX6_side 54 = .ok (.iload_n 3, 1) := by decide +kernel
theorem dX6_side_55 : decode cX6_side 55 = .ok (.invokevirtual 80, 3) := by decide +kernel
theorem dX6_side_58 : decode cX6_side 58 = .ok (.goto 9, 3) := by decide +kernel
theorem dX6_side_61 : decode cX6_side 61 = .ok (.aload_n 0, 1) := by decide +kernel
theorem dX6_side_62 : decode cX6_side 62 = .ok (.ldc 64, 2) := by decide +kernel
theorem dX6_side_64 : decode cX6_side 64 = .ok (.invokevirtual 83, 3) := by decide +kernel
theorem dX6_side_67 : decode cX6_side 67 = .ok (.ireturn, 1) := by decide +kernel
set_option maxRecDepth 20000 in
theorem ggX6_frost_X6_within : GoodIn wsX6_frost wsX6_within := goodIn_r _ [5] (by decide +kernel) (by decide +kernel)
set_option maxRecDepth 20000 in
theorem gX6_frost_X6_within : GoodIn wsX6_frost (va_wsS RX6 69 yX6_within wsX6_within) := goodIn_app (goodIn_of _ (by decide +kernel)) ggX6_frost_X6_within
set_option maxRecDepth 20000 in
theorem ggX6_frost_X6_become : GoodIn wsX6_frost wsX6_become := goodIn_r _ [9, 10, 16, 17, 18, 19, 20, 21, 22, 23, 24, 25, 26, 27, 28, 29, 30, 31, 32, 33, 34, 35, 36, 37] (by decide +kernel) (by decide +kernel)
set_option maxRecDepth 20000 in
theorem gX6_frost_X6_become : GoodIn wsX6_frost (wsV RX6 80 RX6 yX6_become wsX6_become) := goodIn_app (goodIn_of _ (by decide +kernel)) ggX6_frost_X6_become
set_option maxRecDepth 20000 in
theorem ggX6_frost_X6_finding : GoodIn wsX6_frost wsX6_finding := goodIn_r _ [14, 15, 1, 16, 17, 18, 19, 20, 21, 22, 23, 24, 25, 26, 27, 28, 29, 30, 31, 32, 33, 34, 35, 36, 37] (by decide +kernel) (by decide +kernel)
set_option maxRecDepth 20000 in
theorem gX6_frost_X6_finding : GoodIn wsX6_frost (wsV RX6 83 RX6 yX6_finding wsX6_finding) := goodIn_app (goodIn_of _ (by decide +kernel)) ggX6_frost_X6_finding
theorem dX6_frost_0 : decode cX6_frost 0 = .ok (.iload_n 1, 1) := by decide +kernel
theorem dX6_frost_1 : decode cX6_frost 1 = .ok (.iconst 0, 1) := by decide +kernel
theorem dX6_frost_2 : decode cX6_frost 2 = .ok (.bipush 9, 2) := by decide +kernel
theorem dX6_frost_4 : decode cX6_frost 4 = .ok (.invokestatic 69, 3) := by decide +kernel
theorem dX6_frost_7 : decode cX6_frost 7 = .ok (.ifCond .eq 12, 3) := by decide +kernel
theorem dX6_frost_10 : decode cX6_frost 10 = .ok (.aload_n 0, 1) := by decide +kernel
theorem dX6_frost_11 : decode cX6_frost 11 = .ok (.iconst 1, 1) := by decide +kernel
theorem dX6_frost_12 : decode cX6_frost 12 = .ok (.iload_n 1, 1) := by decide +kernel
theorem dX6_frost_13 : decode cX6_frost 13 = .ok (.invokevirtual 80, 3) := by decide +kernel
theorem dX6_frost_16 : decode cX6_frost 16 = .ok (.goto 9, 3) := by decide +kernel
theorem dX6_frost_19 : decode cX6_frost 19 = .ok (.aload_n 0, 1) := by decide +kernel
theorem dX6_frost_20 : decode cX6_frost 20 = .ok (.ldc 64, 2) := by decide +kernel
theorem dX6_frost_22 : decode cX6_frost 22 = .ok (.invokevirtual 83, 3) := by decide +kernel
theorem dX6_frost_25 : decode cX6_frost 25 = .ok (.ireturn, 1) := by decide +kernel
theorem dX6_above_0 : decode cX6_above 0 = .ok (.iload_n 0, 1) := by decide +kernel
theorem dX6_above_1 : decode cX6_above 1 = .ok (.ifCond .ne 7, 3) := by decide +kernel
theorem dX6_above_4 : decode cX6_above 4 = .ok (.iconst (-1), 1) := by decide +kernel
theorem dX6_above_5 : decode cX6_above 5 = .ok (.goto 32, 3) := by decide +kernel
theorem dX6_above_8 : decode cX6_above 8 = .ok (.iload_n 0, 1) := by decide +kernel
theorem dX6_above_9 : decode cX6_above 9 = .ok (.iconst 3, 1) := by decide +kernel
theorem dX6_above_10 : decode cX6_above 10 = .ok (.if_icmp .ne 7, 3) := by decide +kernel
theorem dX6_above_13 : decode cX6_above 13 = .ok (.iconst 1, 1) := by decide +kernel
theorem dX6_above_14 : decode cX6_above 14 = .ok (.goto 23, 3) := by decide +kernel
theorem dX6_above_17 : decode cX6_above 17 = .ok (.iload_n 0, 1) := by decide +kernel
theorem dX6_above_18 : decode cX6_above 18 = .ok (.iconst 4, 1) := by decide +kernel
theorem dX6_above_19 : decode cX6_above 19 = .ok (.if_icmp .ne 7, 3) := by decide +kernel
theorem dX6_above_22 : decode cX6_above 22 = .ok (.iconst 2, 1) := by decide +kernel
theorem dX6_above_23 : decode cX6_above 23 = .ok (.goto 14, 3) := by decide +kernel
theorem dX6_above_26 : decode cX6_above 26 = .ok (.iload_n 0, 1) := by decide +kernel
theorem dX6_above_27 : decode cX6_above 27 = .ok (.bipush 6, 2) := by decide +kernel
theorem dX6_above_29 : decode cX6_above 29 = .ok (.if_icmp .ne 7, 3) := by decide +kernel
theorem dX6_above_32 : decode cX6_above 32 = .ok (.iconst 5, 1) := by decide +kernel
theorem dX6_above_33 : decode cX6_above 33 = .ok (.goto 4, 3) := by decide +kernel
theorem dX6_above_36 : decode cX6_above 36 = .ok (.iconst 0, 1) := by decide +kernel
theorem dX6_above_37 : decode cX6_above 37 = .ok (.ireturn, 1) := by decide +kernel
set_option maxRecDepth 20000 in
theorem ggX6_isUnder_X6_above : GoodIn wsX6_isUnder wsX6_above := goodIn_r _ [4] (by decide +kernel) (by decide +kernel)
set_option maxRecDepth 20000 in
theorem gX6_isUnder_X6_above : GoodIn wsX6_isUnder (va_wsS RX6 96 yX6_above wsX6_above) := goodIn_app (goodIn_of _ (by decide +kernel)) ggX6_isUnder_X6_above
theorem dX6_isUnder_0 : decode cX6_isUnder 0 = .ok (.iload_n 0, 1) := by decide +kernel
theorem dX6_isUnder_1 : decode cX6_isUnder 1 = .ok (.istore_n 2, 1) := by decide +kernel
theorem dX6_isUnder_2 : decode cX6_isUnder 2 = .ok (.iload_n 2, 1) := by decide +kernel
theorem dX6_isUnder_3 : decode cX6_isUnder 3 = .ok (.ifCond .lt 16, 3) := by decide +kernel
theorem dX6_isUnder_6 : decode cX6_isUnder 6 = .ok (.iload_n 2, 1) := by decide +kernel
theorem dX6_isUnder_7 : decode cX6_isUnder 7 = .ok (.iload_n 1, 1) := by decide +kernel
theorem dX6_isUnder_8 : decode cX6_isUnder 8 = .ok (.if_icmp .eq 11, 3) := by decide +kernel
theorem dX6_isUnder_11 : decode cX6_isUnder 11 = .ok (.iload_n 2, 1) := by decide +kernel
theorem dX6_isUnder_12 : decode cX6_isUnder 12 = .ok (.invokestatic 96, 3) := by decide +kernel
theorem dX6_isUnder_15 : decode cX6_isUnder 15 = .ok (.istore_n 2, 1) := by decide +kernel
theorem dX6_isUnder_16 : decode cX6_isUnder 16 = .ok (.goto (-14), 3) := by decide +kernel
theorem dX6_isUnder_19 : decode cX6_isUnder 19 = .ok (.iload_n 2, 1) := by decide +kernel
theorem dX6_isUnder_20 : decode cX6_isUnder 20 = .ok (.ifCond .lt 7, 3) := by decide +kernel
theorem dX6_isUnder_23 : decode cX6_isUnder 23 = .ok (.iconst 1, 1) := by decide +kernel
theorem dX6_isUnder_24 : decode cX6_isUnder 24 = .ok (.goto 4, 3) := by decide +kernel
theorem dX6_isUnder_27 : decode cX6_isUnder 27 = .ok (.iconst 0, 1) := by decide +kernel
theorem dX6_isUnder_28 : decode cX6_isUnder 28 = .ok (.ireturn, 1) := by decide +kernel
set_option maxRecDepth 20000 in
theorem ggX6_priceBy_X6_isUnder : GoodIn wsX6_priceBy wsX6_isUnder := goodIn_r _ [5, 6, 7, 4, 8] (by decide +kernel) (by decide +kernel)
set_option maxRecDepth 20000 in
theorem gX6_priceBy_X6_isUnder : GoodIn wsX6_priceBy (va_wsS RX6 99 yX6_isUnder wsX6_isUnder) := goodIn_app (goodIn_of _ (by decide +kernel)) ggX6_priceBy_X6_isUnder
theorem dX6_priceBy_0 : decode cX6_priceBy 0 = .ok (.aload_n 0, 1) := by decide +kernel
theorem dX6_priceBy_1 : decode cX6_priceBy 1 = .ok (.getfield 9, 3) := by decide +kernel
theorem dX6_priceBy_4 : decode cX6_priceBy 4 = .ok (.bipush 15, 2) := by decide +kernel
theorem dX6_priceBy_6 : decode cX6_priceBy 6 = .ok (.iload_n 1, 1) := by decide +kernel
theorem dX6_priceBy_7 : decode cX6_priceBy 7 = .ok (.iadd, 1) := by decide +kernel
theorem dX6_priceBy_8 : decode cX6_priceBy 8 = .ok (.iaload, 1) := by decide +kernel
theorem dX6_priceBy_9 : decode cX6_priceBy 9 = .ok (.istore 5, 2) := by decide +kernel
theorem dX6_priceBy_11 : decode cX6_priceBy 11 = .ok (.iload 5, 2) := by decide +kernel
theorem dX6_priceBy_13 : decode cX6_priceBy 13 = .ok (.iconst 5, 1) := by decide +kernel
theorem dX6_priceBy_14 : decode cX6_priceBy 14 = .ok (.invokestatic 99, 3) := by decide +kernel
theorem dX6_priceBy_17 : decode cX6_priceBy 17 = .ok (.ifCond .eq 34, 3) := by decide +kernel
theorem dX6_priceBy_20 : decode cX6_priceBy 20 = .ok (.iload_n 2, 1) := by decide +kernel
theorem dX6_priceBy_21 : decode cX6_priceBy 21 = .ok (.ifCond .ne 7, 3) := by decide +kernel
theorem dX6_priceBy_24 : decode cX6_priceBy 24 = .ok (.iconst 0, 1) := by decide +kernel
theorem dX6_priceBy_25 : decode cX6_priceBy 25 = .ok (.goto 25, 3) := by decide +kernel
theorem dX6_priceBy_28 : decode cX6_priceBy 28 = .ok (.iload_n 3, 1) := by decide +kernel
theorem dX6_priceBy_29 : decode cX6_priceBy 29 = .ok (.iload_n 2, 1) := by decide +kernel
theorem dX6_priceBy_30 : decode cX6_priceBy 30 = .ok (.iconst 1, 1) := by decide +kernel
theorem dX6_priceBy_31 : decode cX6_priceBy 31 = .ok (.isub, 1) := by decide +kernel
theorem dX6_priceBy_32 : decode cX6_priceBy 32 = .ok (.iload_n 3, 1) := by decide +kernel
theorem dX6_priceBy_33 : decode cX6_priceBy 33 = .ok (.iconst 2, 1) := by decide +kernel
theorem dX6_priceBy_34 : decode cX6_priceBy 34 = .ok (.idiv, 1) := by decide +kernel
theorem dX6_priceBy_35 : decode cX6_priceBy 35 = .ok (.imul, 1) := by decide +kernel
theorem dX6_priceBy_36 : decode cX6_priceBy 36 = .ok (.iadd, 1) := by decide +kernel
theorem dX6_priceBy_37 : decode cX6_priceBy 37 = .ok (.iload 5, 2) := by decide +kernel
theorem dX6_priceBy_39 : decode cX6_priceBy 39 = .ok (.bipush 6, 2) := by decide +kernel
theorem dX6_priceBy_41 : decode cX6_priceBy 41 = .ok (.if_icmp .ne 7, 3) := by decide +kernel
theorem dX6_priceBy_44 : decode cX6_priceBy 44 = .ok (.iconst 3, 1) := by decide +kernel
theorem dX6_priceBy_45 : decode cX6_priceBy 45 = .ok (.goto 4, 3) := by decide +kernel
theorem dX6_priceBy_48 : decode cX6_priceBy 48 = .ok (.iconst 0, 1) := by decide +kernel
theorem dX6_priceBy_49 : decode cX6_priceBy 49 = .ok (.iadd, 1) := by decide +kernel
theorem dX6_priceBy_50 : decode cX6_priceBy 50 = .ok (.ireturn, 1) := by decide +kernel
theorem dX6_priceBy_51 : decode cX6_priceBy 51 = .ok (.iload_n 2, 1) := by decide +kernel
theorem dX6_priceBy_52 : decode cX6_priceBy 52 = .ok (.iload_n 3, 1) := by decide +kernel
theorem dX6_priceBy_53 : decode cX6_priceBy 53 = .ok (.iload 5, 2) := by decide +kernel
theorem dX6_priceBy_55 : decode cX6_priceBy 55 = .ok (.iconst 4, 1) := by decide +kernel
theorem dX6_priceBy_56 : decode cX6_priceBy 56 = .ok (.if_icmp .ne 10, 3) := by decide +kernel
theorem dX6_priceBy_59 : decode cX6_priceBy 59 = .ok (.iconst 2, 1) := by decide +kernel
theorem dX6_priceBy_60 : decode cX6_priceBy 60 = .ok (.iload 4, 2) := by decide +kernel
theorem dX6_priceBy_62 : decode cX6_priceBy 62 = .ok (.imul, 1) := by decide +kernel
theorem dX6_priceBy_63 : decode cX6_priceBy 63 = .ok (.goto 15, 3) := by decide +kernel
theorem dX6_priceBy_66 : decode cX6_priceBy 66 = .ok (.iload 5, 2) := by decide +kernel
theorem dX6_priceBy_68 : decode cX6_priceBy 68 = .ok (.iconst 2, 1) := by decide +kernel
theorem dX6_priceBy_69 : decode cX6_priceBy 69 = .ok (.if_icmp .ne 8, 3) := by decide +kernel
theorem dX6_priceBy_72 : decode cX6_priceBy 72 = .ok (.iload 4, 2) := by decide +kernel
theorem dX6_priceBy_74 : decode cX6_priceBy 74 = .ok (.goto 4, 3) := by decide +kernel
theorem dX6_priceBy_77 : decode cX6_priceBy 77 = .ok (.iconst 0, 1) := by decide +kernel
theorem dX6_priceBy_78 : decode cX6_priceBy 78 = .ok (.iadd, 1) := by decide +kernel
theorem dX6_priceBy_79 : decode cX6_priceBy 79 = .ok (.imul, 1) := by decide +kernel
theorem dX6_priceBy_80 : decode cX6_priceBy 80 = .ok (.ireturn, 1) := by decide +kernel
set_option maxRecDepth 20000 in
theorem ggX6_priceFor_X6_sideIs : GoodIn wsX6_priceFor wsX6_sideIs := goodIn_r _ [6, 1, 7, 8, 5, 9, 20, 21, 22, 23, 24, 25, 26, 27, 28, 29, 30, 31, 32, 33, 34, 35, 36, 37, 38, 39, 40, 41] (by decide +kernel) (by decide +kernel)
set_option maxRecDepth 20000 in
theorem gX6_priceFor_X6_sideIs : GoodIn wsX6_priceFor (wsV RX6 93 RX6 yX6_sideIs wsX6_sideIs) := goodIn_app (goodIn_of _ (by decide +kernel)) ggX6_priceFor_X6_sideIs
set_option maxRecDepth 20000 in
theorem ggX6_priceFor_X6_priceBy : GoodIn wsX6_priceFor wsX6_priceBy := goodIn_r _ [13, 1, 14, 15, 5, 16, 17, 18, 19, 20, 21, 22, 23, 24, 25, 26, 27, 28, 29, 30, 31, 32, 33, 34, 35, 36, 37, 38, 39, 40, 41] (by decide +kernel) (by decide +kernel)
set_option maxRecDepth 20000 in
theorem gX6_priceFor_X6_priceBy : GoodIn wsX6_priceFor (wsV RX6 103 RX6 yX6_priceBy wsX6_priceBy) := goodIn_app (goodIn_of _ (by decide +kernel)) ggX6_priceFor_X6_priceBy
theorem dX6_priceFor_0 : decode cX6_priceFor 0 = .ok (.aload_n 0, 1) := by decide +kernel
theorem dX6_priceFor_1 : decode cX6_priceFor 1 = .ok (.iload_n 2, 1) := by decide +kernel
theorem dX6_priceFor_2 : decode cX6_priceFor 2 = .ok (.iload_n 3, 1) := by decide +kernel
theorem dX6_priceFor_3 : decode cX6_priceFor 3 = .ok (.aload_n 0, 1) := by decide +kernel
theorem dX6_priceFor_4 : decode cX6_priceFor 4 = .ok (.iload_n 1, 1) := by decide +kernel
theorem dX6_priceFor_5 : decode cX6_priceFor 5 = .ok (.bipush 12, 2) := by decide +kernel
theorem dX6_priceFor_7 : decode cX6_priceFor 7 = .ok (.iload_n 2, 1) := by decide +kernel
theorem dX6_priceFor_8 : decode cX6_priceFor 8 = .ok (.iadd, 1) := by decide +kernel
theorem dX6_priceFor_9 : decode cX6_priceFor 9 = .ok (.invokevirtual 93, 3) := by decide +kernel
theorem dX6_priceFor_12 : decode cX6_priceFor 12 = .ok (.aload_n 0, 1) := by decide +kernel
theorem dX6_priceFor_13 : decode cX6_priceFor 13 = .ok (.getfield 9, 3) := by decide +kernel
theorem dX6_priceFor_16 : decode cX6_priceFor 16 = .ok (.iconst 1, 1) := by decide +kernel
theorem dX6_priceFor_17 : decode cX6_priceFor 17 = .ok (.iaload, 1) := by decide +kernel
theorem dX6_priceFor_18 : decode cX6_priceFor 18 = .ok (.invokevirtual 103, 3) := by decide +kernel
theorem dX6_priceFor_21 : decode cX6_priceFor 21 = .ok (.ireturn, 1) := by decide +kernel
set_option maxRecDepth 20000 in
theorem ggX6_valueFor_X6_sideIs : GoodIn wsX6_valueFor wsX6_sideIs := goodIn_r _ [5, 6, 7, 8, 4, 9, 24, 25, 26, 27, 28, 29, 30, 31, 32, 33, 34, 35, 36, 37, 38, 39, 40, 41, 42, 43, 44, 45] (by decide +kernel) (by decide +kernel)
set_option maxRecDepth 20000 in
theorem gX6_valueFor_X6_sideIs : GoodIn wsX6_valueFor (wsV RX6 93 RX6 yX6_sideIs wsX6_sideIs) := goodIn_app (goodIn_of _ (by decide +kernel)) ggX6_valueFor_X6_sideIs
set_option maxRecDepth 20000 in
theorem ggX6_valueFor_X6_priceFor : GoodIn wsX6_valueFor wsX6_priceFor := goodIn_r _ [13, 6, 1, 2, 3, 4, 5, 7, 8, 9, 14, 15, 16, 17, 18, 19, 20, 21, 22, 23, 24, 25, 26, 27, 28, 29, 30, 31, 32, 33, 34, 35, 36, 37, 38, 39, 40, 41, 42, 43, 44, 45] (by decide +kernel) (by decide +kernel)
set_option maxRecDepth 20000 in
theorem gX6_valueFor_X6_priceFor : GoodIn wsX6_valueFor (wsV RX6 107 RX6 yX6_priceFor wsX6_priceFor) := goodIn_app (goodIn_of _ (by decide +kernel)) ggX6_valueFor_X6_priceFor
theorem dX6_valueFor_0 : decode cX6_valueFor 0 = .ok (.iconst 0, 1) := by decide +kernel
theorem dX6_valueFor_1 : decode cX6_valueFor 1 = .ok (.istore_n 3, 1) := by decide +kernel
theorem dX6_valueFor_2 : decode cX6_valueFor 2 = .ok (.iconst 0, 1) := by decide +kernel
theorem dX6_valueFor_3 : decode cX6_valueFor 3 = .ok (.istore 4, 2) := by decide +kernel
theorem dX6_valueFor_5 : decode cX6_valueFor 5 = .ok (.iload 4, 2) := by decide +kernel
theorem dX6_valueFor_7 : decode cX6_valueFor 7 = .ok (.iconst 5, 1) := by decide +kernel
theorem dX6_valueFor_8 : decode cX6_valueFor 8 = .ok (.if_icmp .ge 29, 3) := by decide +kernel
theorem dX6_valueFor_11 : decode cX6_valueFor 11 = .ok (.iload_n 3, 1) := by decide +kernel
theorem dX6_valueFor_12 : decode cX6_valueFor 12 = .ok (.aload_n 0, 1) := by decide +kernel
theorem dX6_valueFor_13 : decode cX6_valueFor 13 = .ok (.iload_n 1, 1) := by decide +kernel
theorem dX6_valueFor_14 : decode cX6_valueFor 14 = .ok (.iload 4, 2) := by decide +kernel
theorem dX6_valueFor_16 : decode cX6_valueFor 16 = .ok (.aload_n 0, 1) := by decide +kernel
theorem dX6_valueFor_17 : decode cX6_valueFor 17 = .ok (.iload_n 2, 1) := by decide +kernel
theorem dX6_valueFor_18 : decode cX6_valueFor 18 = .ok (.bipush 7, 2) := by decide +kernel
theorem dX6_valueFor_20 : decode cX6_valueFor 20 = .ok (.iload 4, 2) := by decide +kernel
theorem dX6_valueFor_22 : decode cX6_valueFor 22 = .ok (.iadd, 1) := by decide +kernel
theorem dX6_valueFor_23 : decode cX6_valueFor 23 = .ok (.invokevirtual 93, 3) := by decide +kernel
theorem dX6_valueFor_26 : decode cX6_valueFor 26 = .ok (.invokevirtual 107, 3) := by decide +kernel
theorem dX6_valueFor_29 : decode cX6_valueFor 29 = .ok (.iadd, 1) := by decide +kernel
theorem dX6_valueFor_30 : decode cX6_valueFor 30 = .ok (.istore_n 3, 1) := by decide +kernel
theorem dX6_valueFor_31 : decode cX6_valueFor 31 = .ok (.iinc 4 1, 3) := by decide +kernel
theorem dX6_valueFor_34 : decode cX6_valueFor 34 = .ok (.goto (-29), 3) := by decide +kernel
theorem dX6_valueFor_37 : decode cX6_valueFor 37 = .ok (.iload_n 3, 1) := by decide +kernel
theorem dX6_valueFor_38 : decode cX6_valueFor 38 = .ok (.ireturn, 1) := by decide +kernel
set_option maxRecDepth 20000 in
theorem ggX6_allOf_X6_sideIs : GoodIn wsX6_allOf wsX6_sideIs := goodIn_r _ [5, 6, 7, 8, 4, 9, 24, 25, 26, 27, 28, 29, 30, 31, 32, 33, 34, 35, 36, 37, 38, 39, 40, 41, 42, 43, 44, 45] (by decide +kernel) (by decide +kernel)
set_option maxRecDepth 20000 in
theorem gX6_allOf_X6_sideIs : GoodIn wsX6_allOf (wsV RX6 93 RX6 yX6_sideIs wsX6_sideIs) := goodIn_app (goodIn_of _ (by decide +kernel)) ggX6_allOf_X6_sideIs
set_option maxRecDepth 20000 in
theorem ggX6_allOf_X6_priceFor : GoodIn wsX6_allOf wsX6_priceFor := goodIn_r _ [13, 6, 1, 2, 3, 4, 5, 7, 8, 9, 14, 15, 16, 17, 18, 19, 20, 21, 22, 23, 24, 25, 26, 27, 28, 29, 30, 31, 32, 33, 34, 35, 36, 37, 38, 39, 40, 41, 42, 43, 44, 45] (by decide +kernel) (by decide +kernel)
set_option maxRecDepth 20000 in
theorem gX6_allOf_X6_priceFor : GoodIn wsX6_allOf (wsV RX6 107 RX6 yX6_priceFor wsX6_priceFor) := goodIn_app (goodIn_of _ (by decide +kernel)) ggX6_allOf_X6_priceFor
theorem dX6_allOf_0 : decode cX6_allOf 0 = .ok (.iconst 0, 1) := by decide +kernel
theorem dX6_allOf_1 : decode cX6_allOf 1 = .ok (.istore_n 2, 1) := by decide +kernel
theorem dX6_allOf_2 : decode cX6_allOf 2 = .ok (.iconst 0, 1) := by decide +kernel
theorem dX6_allOf_3 : decode cX6_allOf 3 = .ok (.istore_n 3, 1) := by decide +kernel
theorem dX6_allOf_4 : decode cX6_allOf 4 = .ok (.iload_n 3, 1) := by decide +kernel
theorem dX6_allOf_5 : decode cX6_allOf 5 = .ok (.iconst 5, 1) := by decide +kernel
theorem dX6_allOf_6 : decode cX6_allOf 6 = .ok (.if_icmp .ge 36, 3) := by decide +kernel
theorem dX6_allOf_9 : decode cX6_allOf 9 = .ok (.iload_n 2, 1) := by decide +kernel
theorem dX6_allOf_10 : decode cX6_allOf 10 = .ok (.aload_n 0, 1) := by decide +kernel
theorem dX6_allOf_11 : decode cX6_allOf 11 = .ok (.iload_n 1, 1) := by decide +kernel
theorem dX6_allOf_12 : decode cX6_allOf 12 = .ok (.iload_n 3, 1) := by decide +kernel
theorem dX6_allOf_13 : decode cX6_allOf 13 = .ok (.aload_n 0, 1) := by decide +kernel
theorem dX6_allOf_14 : decode cX6_allOf 14 = .ok (.iload_n 1, 1) := by decide +kernel
theorem dX6_allOf_15 : decode cX6_allOf 15 = .ok (.iconst 2, 1) := by decide +kernel
theorem dX6_allOf_16 : decode cX6_allOf 16 = .ok (.iload_n 3, 1) := by decide +kernel
theorem dX6_allOf_17 : decode cX6_allOf 17 = .ok (.iadd, 1) := by decide +kernel
theorem dX6_allOf_18 : decode cX6_allOf 18 = .ok (.invokevirtual 93, 3) := by decide +kernel
theorem dX6_allOf_21 : decode cX6_allOf 21 = .ok (.aload_n 0, 1) := by decide +kernel
theorem dX6_allOf_22 : decode cX6_allOf 22 = .ok (.iload_n 1, 1) := by decide +kernel
theorem dX6_allOf_23 : decode cX6_allOf 23 = .ok (.bipush 7, 2) := by decide +kernel
theorem dX6_allOf_25 : decode cX6_allOf 25 = .ok (.iload_n 3, 1) := by decide +kernel
theorem dX6_allOf_26 : decode cX6_allOf 26 = .ok (.iadd, 1) := by decide +kernel
theorem dX6_allOf_27 : decode cX6_allOf 27 = .ok (.invokevirtual 93, 3) := by decide +kernel
theorem dX6_allOf_30 : decode cX6_allOf 30 = .ok (.iadd, 1) := by decide +kernel
theorem dX6_allOf_31 : decode cX6_allOf 31 = .ok (.invokevirtual 107, 3) := by decide +kernel
theorem dX6_allOf_34 : decode cX6_allOf 34 = .ok (.iadd, 1) := by decide +kernel
theorem dX6_allOf_35 : decode cX6_allOf 35 = .ok (.istore_n 2, 1) := by decide +kernel
theorem dX6_allOf_36 : decode cX6_allOf 36 = .ok (.iinc 3 1, 3) := by decide +kernel
theorem dX6_allOf_39 : decode cX6_allOf 39 = .ok (.goto (-35), 3) := by decide +kernel
theorem dX6_allOf_42 : decode cX6_allOf 42 = .ok (.iload_n 2, 1) := by decide +kernel
theorem dX6_allOf_43 : decode cX6_allOf 43 = .ok (.ireturn, 1) := by decide +kernel
theorem dX6_eatenOf_0 : decode cX6_eatenOf 0 = .ok (.aload_n 0, 1) := by decide +kernel
theorem dX6_eatenOf_1 : decode cX6_eatenOf 1 = .ok (.getfield 9, 3) := by decide +kernel
theorem dX6_eatenOf_4 : decode cX6_eatenOf 4 = .ok (.bipush 15, 2) := by decide +kernel
theorem dX6_eatenOf_6 : decode cX6_eatenOf 6 = .ok (.iload_n 1, 1) := by decide +kernel
theorem dX6_eatenOf_7 : decode cX6_eatenOf 7 = .ok (.iadd, 1) := by decide +kernel
theorem dX6_eatenOf_8 : decode cX6_eatenOf 8 = .ok (.iaload, 1) := by decide +kernel
theorem dX6_eatenOf_9 : decode cX6_eatenOf 9 = .ok (.istore_n 3, 1) := by decide +kernel
theorem dX6_eatenOf_10 : decode cX6_eatenOf 10 = .ok (.iload_n 3, 1) := by decide +kernel
theorem dX6_eatenOf_11 : decode cX6_eatenOf 11 = .ok (.iconst 3, 1) := by decide +kernel
theorem dX6_eatenOf_12 : decode cX6_eatenOf 12 = .ok (.if_icmp .ne 23, 3) := by decide +kernel
theorem dX6_eatenOf_15 : decode cX6_eatenOf 15 = .ok (.aload_n 0, 1) := by decide +kernel
theorem dX6_eatenOf_16 : decode cX6_eatenOf 16 = .ok (.getfield 9, 3) := by decide +kernel
theorem dX6_eatenOf_19 : decode cX6_eatenOf 19 = .ok (.iconst 1, 1) := by decide +kernel
theorem dX6_eatenOf_20 : decode cX6_eatenOf 20 = .ok (.iaload, 1) := by decide +kernel
theorem dX6_eatenOf_21 : decode cX6_eatenOf 21 = .ok (.iconst 4, 1) := by decide +kernel
theorem dX6_eatenOf_22 : decode cX6_eatenOf 22 = .ok (.if_icmp .le 7, 3) := by decide +kernel
theorem dX6_eatenOf_25 : decode cX6_eatenOf 25 = .ok (.iconst 0, 1) := by decide +kernel
theorem dX6_eatenOf_26 : decode cX6_eatenOf 26 = .ok (.goto 8, 3) := by decide +kernel
theorem dX6_eatenOf_29 : decode cX6_eatenOf 29 = .ok (.iload_n 2, 1) := by decide +kernel
theorem dX6_eatenOf_30 : decode cX6_eatenOf 30 = .ok (.iconst 2, 1) := by decide +kernel
theorem dX6_eatenOf_31 : decode cX6_eatenOf 31 = .ok (.invokestatic 111, 3) := by decide +kernel
theorem dX6_eatenOf_34 : decode cX6_eatenOf 34 = .ok (.ireturn, 1) := by decide +kernel
theorem dX6_eatenOf_35 : decode cX6_eatenOf 35 = .ok (.iload_n 3, 1) := by decide +kernel
theorem dX6_eatenOf_36 : decode cX6_eatenOf 36 = .ok (.iconst 1, 1) := by decide +kernel
theorem dX6_eatenOf_37 : decode cX6_eatenOf 37 = .ok (.if_icmp .ne 11, 3) := by decide +kernel
theorem dX6_eatenOf_40 : decode cX6_eatenOf 40 = .ok (.iload_n 2, 1) := by decide +kernel
theorem dX6_eatenOf_41 : decode cX6_eatenOf 41 = .ok (.iconst 1, 1) := by decide +kernel
theorem dX6_eatenOf_42 : decode cX6_eatenOf 42 = .ok (.invokestatic 111, 3) := by decide +kernel
theorem dX6_eatenOf_45 : decode cX6_eatenOf 45 = .ok (.goto 4, 3) := by decide +kernel
theorem dX6_eatenOf_48 : decode cX6_eatenOf 48 = .ok (.iconst 0, 1) := by decide +kernel
theorem dX6_eatenOf_49 : decode cX6_eatenOf 49 = .ok (.ireturn, 1) := by decide +kernel
set_option maxRecDepth 20000 in
theorem ggX6_price_X6_isSide : GoodIn wsX6_price wsX6_isSide := goodIn_r _ [5, 6, 7, 4, 8] (by decide +kernel) (by decide +kernel)
set_option maxRecDepth 20000 in
theorem gX6_price_X6_isSide : GoodIn wsX6_price (va_wsS RX6 87 yX6_isSide wsX6_isSide) := goodIn_app (goodIn_of _ (by decide +kernel)) ggX6_price_X6_isSide
set_option maxRecDepth 20000 in
theorem ggX6_price_X6_isThing : GoodIn wsX6_price wsX6_isThing := goodIn_r _ [11, 6, 7, 4, 8] (by decide +kernel) (by decide +kernel)
set_option maxRecDepth 20000 in
theorem gX6_price_X6_isThing : GoodIn wsX6_price (va_wsS RX6 73 yX6_isThing wsX6_isThing) := goodIn_app (goodIn_of _ (by decide +kernel)) ggX6_price_X6_isThing
set_option maxRecDepth 20000 in
theorem ggX6_price_X6_within : GoodIn wsX6_price wsX6_within := goodIn_r _ [8] (by decide +kernel) (by decide +kernel)
set_option maxRecDepth 20000 in
theorem gX6_price_X6_within : GoodIn wsX6_price (va_wsS RX6 69 yX6_within wsX6_within) := goodIn_app (goodIn_of _ (by decide +kernel)) ggX6_price_X6_within
set_option maxRecDepth 20000 in
theorem ggX6_price_X6_priceFor : GoodIn wsX6_price wsX6_priceFor := goodIn_r _ [15, 16, 17, 18, 19, 4, 20, 21, 22, 23, 24, 25, 26, 27, 28, 29, 30, 31, 32, 33, 39, 40, 41, 42, 43, 44, 45, 46, 47, 48, 49, 50, 51, 52, 53, 54, 55, 56, 57, 58, 59, 60] (by decide +kernel) (by decide +kernel)
set_option maxRecDepth 20000 in
theorem gX6_price_X6_priceFor : GoodIn wsX6_price (wsV RX6 107 RX6 yX6_priceFor wsX6_priceFor) := goodIn_app (goodIn_of _ (by decide +kernel)) ggX6_price_X6_priceFor
set_option maxRecDepth 20000 in
theorem ggX6_price_X6_finding : GoodIn wsX6_price wsX6_finding := goodIn_r _ [37, 38, 1, 39, 40, 41, 42, 43, 44, 45, 46, 47, 48, 49, 50, 51, 52, 53, 54, 55, 56, 57, 58, 59, 60] (by decide +kernel) (by decide +kernel)
set_option maxRecDepth 20000 in
theorem gX6_price_X6_finding : GoodIn wsX6_price (wsV RX6 83 RX6 yX6_finding wsX6_finding) := goodIn_app (goodIn_of _ (by decide +kernel)) ggX6_price_X6_finding
theorem dX6_price_0 : decode cX6_price 0 = .ok (.iload_n 1, 1) := by decide +kernel
theorem dX6_price_1 : decode cX6_price 1 = .ok (.invokestatic 87, 3) := by decide +kernel
theorem dX6_price_4 : decode cX6_price 4 = .ok (.ifCond .eq 30, 3) := by decide +kernel
theorem dX6_price_7 : decode cX6_price 7 = .ok (.iload_n 2, 1) := by decide +kernel
theorem dX6_price_8 : decode cX6_price 8 = .ok (.invokestatic 73, 3) := by decide +kernel
theorem dX6_price_11 : decode cX6_price 11 = .ok (.ifCond .eq 23, 3) := by decide +kernel
theorem dX6_price_14 : decode cX6_price 14 = .ok (.iload_n 3, 1) := by decide +kernel
theorem dX6_price_15 : decode cX6_price 15 = .ok (.iconst 0, 1) := by decide +kernel
theorem dX6_price_16 : decode cX6_price 16 = .ok (.bipush 99, 2) := by decide +kernel
theorem dX6_price_18 : decode cX6_price 18 = .ok (.invokestatic 69, 3) := by decide +kernel
theorem dX6_price_21 : decode cX6_price 21 = .ok (.ifCond .eq 13, 3) := by decide +kernel
theorem dX6_price_24 : decode cX6_price 24 = .ok (.aload_n 0, 1) := by decide +kernel
theorem dX6_price_25 : decode cX6_price 25 = .ok (.iload_n 1, 1) := by decide +kernel
theorem dX6_price_26 : decode cX6_price 26 = .ok (.iload_n 2, 1) := by decide +kernel
theorem dX6_price_27 : decode cX6_price 27 = .ok (.iload_n 3, 1) := by decide +kernel
theorem dX6_price_28 : decode cX6_price 28 = .ok (.invokevirtual 107, 3) := by decide +kernel
theorem dX6_price_31 : decode cX6_price 31 = .ok (.goto 9, 3) := by decide +kernel
theorem dX6_price_34 : decode cX6_price 34 = .ok (.aload_n 0, 1) := by decide +kernel
theorem dX6_price_35 : decode cX6_price 35 = .ok (.ldc 64, 2) := by decide +kernel
theorem dX6_price_37 : decode cX6_price 37 = .ok (.invokevirtual 83, 3) := by decide +kernel
theorem dX6_price_40 : decode cX6_price 40 = .ok (.ireturn, 1) := by decide +kernel
set_option maxRecDepth 20000 in
theorem ggX6_value_X6_isSide : GoodIn wsX6_value wsX6_isSide := goodIn_r _ [5, 6, 7, 4, 8] (by decide +kernel) (by decide +kernel)
set_option maxRecDepth 20000 in
theorem gX6_value_X6_isSide : GoodIn wsX6_value (va_wsS RX6 87 yX6_isSide wsX6_isSide) := goodIn_app (goodIn_of _ (by decide +kernel)) ggX6_value_X6_isSide
set_option maxRecDepth 20000 in
theorem ggX6_value_X6_valueFor : GoodIn wsX6_value wsX6_valueFor := goodIn_r _ [12, 13, 14, 15, 4, 16, 17, 18, 19, 20, 21, 22, 23, 24, 25, 26, 27, 28, 29, 30, 31, 32, 33, 34, 40, 41, 42, 43, 44, 45, 46, 47, 48, 49, 50, 51, 52, 53, 54, 55, 56, 57, 58, 59, 60, 61] (by decide +kernel) (by decide +kernel)
set_option maxRecDepth 20000 in
theorem gX6_value_X6_valueFor : GoodIn wsX6_value (wsV RX6 116 RX6 yX6_valueFor wsX6_valueFor) := goodIn_app (goodIn_of _ (by decide +kernel)) ggX6_value_X6_valueFor
set_option maxRecDepth 20000 in
theorem ggX6_value_X6_finding : GoodIn wsX6_value wsX6_finding := goodIn_r _ [38, 39, 1, 40, 41, 42, 43, 44, 45, 46, 47, 48, 49, 50, 51, 52, 53, 54, 55, 56, 57, 58, 59, 60, 61] (by decide +kernel) (by decide +kernel)
set_option maxRecDepth 20000 in
theorem gX6_value_X6_finding : GoodIn wsX6_value (wsV RX6 83 RX6 yX6_finding wsX6_finding) := goodIn_app (goodIn_of _ (by decide +kernel)) ggX6_value_X6_finding
theorem dX6_value_0 : decode cX6_value 0 = .ok (.iload_n 1, 1) := by decide +kernel
theorem dX6_value_1 : decode cX6_value 1 = .ok (.invokestatic 87, 3) := by decide +kernel
theorem dX6_value_4 : decode cX6_value 4 = .ok (.ifCond .eq 19, 3) := by decide +kernel
theorem dX6_value_7 : decode cX6_value 7 = .ok (.iload_n 2, 1) := by decide +kernel
theorem dX6_value_8 : decode cX6_value 8 = .ok (.invokestatic 87, 3) := by decide +kernel
theorem dX6_value_11 : decode cX6_value 11 = .ok (.ifCond .eq 12, 3) := by decide +kernel
theorem dX6_value_14 : decode cX6_value 14 = .ok (.aload_n 0, 1) := by decide +kernel
theorem dX6_value_15 : decode cX6_value 15 = .ok (.iload_n 1, 1) := by decide +kernel
theorem dX6_value_16 : decode cX6_value 16 = .ok (.iload_n 2, 1) := by decide +kernel
theorem dX6_value_17 : decode cX6_value 17 = .ok (.invokevirtual 116, 3) := by decide +kernel
theorem dX6_value_20 : decode cX6_value 20 = .ok (.goto 9, 3) := by decide +kernel
theorem dX6_value_23 : decode cX6_value 23 = .ok (.aload_n 0, 1) := by decide +kernel
theorem dX6_value_24 : decode cX6_value 24 = .ok (.ldc 64, 2) := by decide +kernel
theorem dX6_value_26 : decode cX6_value 26 = .ok (.invokevirtual 83, 3) := by decide +kernel
theorem dX6_value_29 : decode cX6_value 29 = .ok (.ireturn, 1) := by decide +kernel
set_option maxRecDepth 20000 in
theorem ggX6_eaten_X6_isThing : GoodIn wsX6_eaten wsX6_isThing := goodIn_r _ [5, 6, 7, 4, 8] (by decide +kernel) (by decide +kernel)
set_option maxRecDepth 20000 in
theorem gX6_eaten_X6_isThing : GoodIn wsX6_eaten (va_wsS RX6 73 yX6_isThing wsX6_isThing) := goodIn_app (goodIn_of _ (by decide +kernel)) ggX6_eaten_X6_isThing
set_option maxRecDepth 20000 in
theorem ggX6_eaten_X6_within : GoodIn wsX6_eaten wsX6_within := goodIn_r _ [8] (by decide +kernel) (by decide +kernel)
set_option maxRecDepth 20000 in
theorem gX6_eaten_X6_within : GoodIn wsX6_eaten (va_wsS RX6 69 yX6_within wsX6_within) := goodIn_app (goodIn_of _ (by decide +kernel)) ggX6_eaten_X6_within
set_option maxRecDepth 20000 in
theorem ggX6_eaten_X6_eatenOf : GoodIn wsX6_eaten wsX6_eatenOf := goodIn_r _ [12, 13, 14, 15, 16, 17, 23, 24, 25, 26, 27, 28, 29, 30, 31, 32, 33, 34, 35, 36, 37, 38, 39, 40, 41, 42, 43, 44] (by decide +kernel) (by decide +kernel)
set_option maxRecDepth 20000 in
theorem gX6_eaten_X6_eatenOf : GoodIn wsX6_eaten (wsV RX6 119 RX6 yX6_eatenOf wsX6_eatenOf) := goodIn_app (goodIn_of _ (by decide +kernel)) ggX6_eaten_X6_eatenOf
set_option maxRecDepth 20000 in
theorem ggX6_eaten_X6_finding : GoodIn wsX6_eaten wsX6_finding := goodIn_r _ [21, 22, 1, 23, 24, 25, 26, 27, 28, 29, 30, 31, 32, 33, 34, 35, 36, 37, 38, 39, 40, 41, 42, 43, 44] (by decide +kernel) (by decide +kernel)
set_option maxRecDepth 20000 in
theorem gX6_eaten_X6_finding : GoodIn wsX6_eaten (wsV RX6 83 RX6 yX6_finding wsX6_finding) := goodIn_app (goodIn_of _ (by decide +kernel)) ggX6_eaten_X6_finding
theorem dX6_eaten_0 : decode cX6_eaten 0 = .ok (.iload_n 1, 1) := by decide +kernel
theorem dX6_eaten_1 : decode cX6_eaten 1 = .ok (.invokestatic 73, 3) := by decide +kernel
theorem dX6_eaten_4 : decode cX6_eaten 4 = .ok (.ifCond .eq 22, 3) := by decide +kernel
theorem dX6_eaten_7 : decode cX6_eaten 7 = .ok (.iload_n 2, 1) := by decide +kernel
theorem dX6_eaten_8 : decode cX6_eaten 8 = .ok (.iconst 0, 1) := by decide +kernel
theorem dX6_eaten_9 : decode cX6_eaten 9 = .ok (.bipush 99, 2) := by decide +kernel
theorem dX6_eaten_11 : decode cX6_eaten 11 = .ok (.invokestatic 69, 3) := by decide +kernel
theorem dX6_eaten_14 : decode cX6_eaten 14 = .ok (.ifCond .eq 12, 3) := by decide +kernel
theorem dX6_eaten_17 : decode cX6_eaten 17 = .ok (.aload_n 0, 1) := by decide +kernel
theorem dX6_eaten_18 : decode cX6_eaten 18 = .ok (.iload_n 1, 1) := by decide +kernel
theorem dX6_eaten_19 : decode cX6_eaten 19 = .ok (.iload_n 2, 1) := by decide +kernel
theorem dX6_eaten_20 : decode cX6_eaten 20 = .ok (.invokevirtual 119, 3) := by decide +kernel
theorem dX6_eaten_23 : decode cX6_eaten 23 = .ok (.goto 9, 3) := by decide +kernel
theorem dX6_eaten_26 : decode cX6_eaten 26 = .ok (.aload_n 0, 1) := by decide +kernel
theorem dX6_eaten_27 : decode cX6_eaten 27 = .ok (.ldc 64, 2) := by decide +kernel
theorem dX6_eaten_29 : decode cX6_eaten 29 = .ok (.invokevirtual 83, 3) := by decide +kernel
theorem dX6_eaten_32 : decode cX6_eaten 32 = .ok (.ireturn, 1) := by decide +kernel
set_option maxRecDepth 20000 in
theorem ggX6_sum_X6_sideIs : GoodIn wsX6_sum wsX6_sideIs := goodIn_r _ [5, 6, 7, 8, 4, 9, 10, 11, 12, 13, 14, 15, 16, 17, 18, 19, 20, 21, 22, 23, 24, 25, 26, 27, 28, 29, 30, 31] (by decide +kernel) (by decide +kernel)
set_option maxRecDepth 20000 in
theorem gX6_sum_X6_sideIs : GoodIn wsX6_sum (wsV RX6 93 RX6 yX6_sideIs wsX6_sideIs) := goodIn_app (goodIn_of _ (by decide +kernel)) ggX6_sum_X6_sideIs
theorem dX6_sum_0 : decode cX6_sum 0 = .ok (.iconst 0, 1) := by decide +kernel
theorem dX6_sum_1 : decode cX6_sum 1 = .ok (.istore_n 3, 1) := by decide +kernel
theorem dX6_sum_2 : decode cX6_sum 2 = .ok (.iconst 0, 1) := by decide +kernel
theorem dX6_sum_3 : decode cX6_sum 3 = .ok (.istore 4, 2) := by decide +kernel
theorem dX6_sum_5 : decode cX6_sum 5 = .ok (.iload 4, 2) := by decide +kernel
theorem dX6_sum_7 : decode cX6_sum 7 = .ok (.iconst 5, 1) := by decide +kernel
theorem dX6_sum_8 : decode cX6_sum 8 = .ok (.if_icmp .ge 21, 3) := by decide +kernel
theorem dX6_sum_11 : decode cX6_sum 11 = .ok (.iload_n 3, 1) := by decide +kernel
theorem dX6_sum_12 : decode cX6_sum 12 = .ok (.aload_n 0, 1) := by decide +kernel
theorem dX6_sum_13 : decode cX6_sum 13 = .ok (.iload_n 1, 1) := by decide +kernel
theorem dX6_sum_14 : decode cX6_sum 14 = .ok (.iload_n 2, 1) := by decide +kernel
theorem dX6_sum_15 : decode cX6_sum 15 = .ok (.iload 4, 2) := by decide +kernel
theorem dX6_sum_17 : decode cX6_sum 17 = .ok (.iadd, 1) := by decide +kernel
theorem dX6_sum_18 : decode cX6_sum 18 = .ok (.invokevirtual 93, 3) := by decide +kernel
theorem dX6_sum_21 : decode cX6_sum 21 = .ok (.iadd, 1) := by decide +kernel
theorem dX6_sum_22 : decode cX6_sum 22 = .ok (.istore_n 3, 1) := by decide +kernel
theorem dX6_sum_23 : decode cX6_sum 23 = .ok (.iinc 4 1, 3) := by decide +kernel
theorem dX6_sum_26 : decode cX6_sum 26 = .ok (.goto (-21), 3) := by decide +kernel
theorem dX6_sum_29 : decode cX6_sum 29 = .ok (.iload_n 3, 1) := by decide +kernel
theorem dX6_sum_30 : decode cX6_sum 30 = .ok (.ireturn, 1) := by decide +kernel
set_option maxRecDepth 20000 in
theorem ggX6_isEmpty_X6_sum : GoodIn wsX6_isEmpty wsX6_sum := goodIn_r _ [5, 6, 7, 8, 4, 9, 10, 11, 12, 13, 14, 15, 16, 17, 18, 19, 20, 21, 22, 23, 24, 25, 26, 27, 28, 29, 30, 31, 32, 33, 34, 35] (by decide +kernel) (by decide +kernel)
set_option maxRecDepth 20000 in
theorem gX6_isEmpty_X6_sum : GoodIn wsX6_isEmpty (wsV RX6 122 RX6 yX6_sum wsX6_sum) := goodIn_app (goodIn_of _ (by decide +kernel)) ggX6_isEmpty_X6_sum
theorem dX6_isEmpty_0 : decode cX6_isEmpty 0 = .ok (.aload_n 0, 1) := by decide +kernel
theorem dX6_isEmpty_1 : decode cX6_isEmpty 1 = .ok (.iload_n 1, 1) := by decide +kernel
theorem dX6_isEmpty_2 : decode cX6_isEmpty 2 = .ok (.bipush 7, 2) := by decide +kernel
theorem dX6_isEmpty_4 : decode cX6_isEmpty 4 = .ok (.invokevirtual 122, 3) := by decide +kernel
theorem dX6_isEmpty_7 : decode cX6_isEmpty 7 = .ok (.ifCond .ne 7, 3) := by decide +kernel
theorem dX6_isEmpty_10 : decode cX6_isEmpty 10 = .ok (.iconst 1, 1) := by decide +kernel
theorem dX6_isEmpty_11 : decode cX6_isEmpty 11 = .ok (.goto 4, 3) := by decide +kernel
theorem dX6_isEmpty_14 : decode cX6_isEmpty 14 = .ok (.iconst 0, 1) := by decide +kernel
theorem dX6_isEmpty_15 : decode cX6_isEmpty 15 = .ok (.ireturn, 1) := by decide +kernel
set_option maxRecDepth 20000 in
theorem ggX6_mayLay_X6_sideIs : GoodIn wsX6_mayLay wsX6_sideIs := goodIn_r _ [5, 6, 7, 8, 4, 9, 10, 11, 12, 13, 14, 15, 16, 17, 18, 19, 20, 21, 22, 23, 24, 25, 26, 27, 28, 29, 30, 31] (by decide +kernel) (by decide +kernel)
set_option maxRecDepth 20000 in
theorem gX6_mayLay_X6_sideIs : GoodIn wsX6_mayLay (wsV RX6 93 RX6 yX6_sideIs wsX6_sideIs) := goodIn_app (goodIn_of _ (by decide +kernel)) ggX6_mayLay_X6_sideIs
theorem dX6_mayLay_0 : decode cX6_mayLay 0 = .ok (.aload_n 0, 1) := by decide +kernel
theorem dX6_mayLay_1 : decode cX6_mayLay 1 = .ok (.iload_n 1, 1) := by decide +kernel
theorem dX6_mayLay_2 : decode cX6_mayLay 2 = .ok (.iconst 2, 1) := by decide +kernel
theorem dX6_mayLay_3 : decode cX6_mayLay 3 = .ok (.iload_n 2, 1) := by decide +kernel
theorem dX6_mayLay_4 : decode cX6_mayLay 4 = .ok (.iadd, 1) := by decide +kernel
theorem dX6_mayLay_5 : decode cX6_mayLay 5 = .ok (.invokevirtual 93, 3) := by decide +kernel
theorem dX6_mayLay_8 : decode cX6_mayLay 8 = .ok (.iload_n 3, 1) := by decide +kernel
theorem dX6_mayLay_9 : decode cX6_mayLay 9 = .ok (.if_icmp .lt 32, 3) := by decide +kernel
theorem dX6_mayLay_12 : decode cX6_mayLay 12 = .ok (.aload_n 0, 1) := by decide +kernel
theorem dX6_mayLay_13 : decode cX6_mayLay 13 = .ok (.iload_n 1, 1) := by decide +kernel
theorem dX6_mayLay_14 : decode cX6_mayLay 14 = .ok (.iconst 1, 1) := by decide +kernel
theorem dX6_mayLay_15 : decode cX6_mayLay 15 = .ok (.invokevirtual 93, 3) := by decide +kernel
theorem dX6_mayLay_18 : decode cX6_mayLay 18 = .ok (.ifCond .le 23, 3) := by decide +kernel
theorem dX6_mayLay_21 : decode cX6_mayLay 21 = .ok (.aload_n 0, 1) := by decide +kernel
theorem dX6_mayLay_22 : decode cX6_mayLay 22 = .ok (.iload_n 1, 1) := by decide +kernel
theorem dX6_mayLay_23 : decode cX6_mayLay 23 = .ok (.bipush 7, 2) := by decide +kernel
theorem dX6_mayLay_25 : decode cX6_mayLay 25 = .ok (.iload_n 2, 1) := by decide +kernel
theorem dX6_mayLay_26 : decode cX6_mayLay 26 = .ok (.iadd, 1) := by decide +kernel
theorem dX6_mayLay_27 : decode cX6_mayLay 27 = .ok (.invokevirtual 93, 3) := by decide +kernel
theorem dX6_mayLay_30 : decode cX6_mayLay 30 = .ok (.iload_n 3, 1) := by decide +kernel
theorem dX6_mayLay_31 : decode cX6_mayLay 31 = .ok (.iadd, 1) := by decide +kernel
theorem dX6_mayLay_32 : decode cX6_mayLay 32 = .ok (.bipush 99, 2) := by decide +kernel
theorem dX6_mayLay_34 : decode cX6_mayLay 34 = .ok (.if_icmp .gt 7, 3) := by decide +kernel
theorem dX6_mayLay_37 : decode cX6_mayLay 37 = .ok (.iconst 1, 1) := by decide +kernel
theorem dX6_mayLay_38 : decode cX6_mayLay 38 = .ok (.goto 4, 3) := by decide +kernel
theorem dX6_mayLay_41 : decode cX6_mayLay 41 = .ok (.iconst 0, 1) := by decide +kernel
theorem dX6_mayLay_42 : decode cX6_mayLay 42 = .ok (.ireturn, 1) := by decide +kernel
set_option maxRecDepth 20000 in
theorem ggX6_laid_X6_at : GoodIn wsX6_laid wsX6_at := goodIn_r _ [5] (by decide +kernel) (by decide +kernel)
set_option maxRecDepth 20000 in
theorem gX6_laid_X6_at : GoodIn wsX6_laid (va_wsS RX6 60 yX6_at wsX6_at) := goodIn_app (goodIn_of _ (by decide +kernel)) ggX6_laid_X6_at
set_option maxRecDepth 20000 in
theorem ggX6_laid_X6_sideIs : GoodIn wsX6_laid wsX6_sideIs := goodIn_r _ [9, 1, 2, 3, 4, 5, 10, 11, 12, 13, 14, 15, 16, 17, 18, 19, 20, 21, 22, 23, 24, 25, 26, 27, 28, 29, 30, 31] (by decide +kernel) (by decide +kernel)
set_option maxRecDepth 20000 in
theorem gX6_laid_X6_sideIs : GoodIn wsX6_laid (wsV RX6 93 RX6 yX6_sideIs wsX6_sideIs) := goodIn_app (goodIn_of _ (by decide +kernel)) ggX6_laid_X6_sideIs
theorem dX6_laid_0 : decode cX6_laid 0 = .ok (.aload_n 0, 1) := by decide +kernel
theorem dX6_laid_1 : decode cX6_laid 1 = .ok (.getfield 9, 3) := by decide +kernel
theorem dX6_laid_4 : decode cX6_laid 4 = .ok (.iload_n 1, 1) := by decide +kernel
theorem dX6_laid_5 : decode cX6_laid 5 = .ok (.iconst 2, 1) := by decide +kernel
theorem dX6_laid_6 : decode cX6_laid 6 = .ok (.iload_n 2, 1) := by decide +kernel
theorem dX6_laid_7 : decode cX6_laid 7 = .ok (.iadd, 1) := by decide +kernel
theorem dX6_laid_8 : decode cX6_laid 8 = .ok (.invokestatic 60, 3) := by decide +kernel
theorem dX6_laid_11 : decode cX6_laid 11 = .ok (.dup2, 1) := by decide +kernel
theorem dX6_laid_12 : decode cX6_laid 12 = .ok (.iaload, 1) := by decide +kernel
theorem dX6_laid_13 : decode cX6_laid 13 = .ok (.iload_n 3, 1) := by decide +kernel
theorem dX6_laid_14 : decode cX6_laid 14 = .ok (.isub, 1) := by decide +kernel
theorem dX6_laid_15 : decode cX6_laid 15 = .ok (.iastore, 1) := by decide +kernel
theorem dX6_laid_16 : decode cX6_laid 16 = .ok (.aload_n 0, 1) := by decide +kernel
theorem dX6_laid_17 : decode cX6_laid 17 = .ok (.getfield 9, 3) := by decide +kernel
theorem dX6_laid_20 : decode cX6_laid 20 = .ok (.iload_n 1, 1) := by decide +kernel
theorem dX6_laid_21 : decode cX6_laid 21 = .ok (.bipush 7, 2) := by decide +kernel
theorem dX6_laid_23 : decode cX6_laid 23 = .ok (.iload_n 2, 1) := by decide +kernel
theorem dX6_laid_24 : decode cX6_laid 24 = .ok (.iadd, 1) := by decide +kernel
theorem dX6_laid_25 : decode cX6_laid 25 = .ok (.invokestatic 60, 3) := by decide +kernel
theorem dX6_laid_28 : decode cX6_laid 28 = .ok (.dup2, 1) := by decide +kernel
theorem dX6_laid_29 : decode cX6_laid 29 = .ok (.iaload, 1) := by decide +kernel
theorem dX6_laid_30 : decode cX6_laid 30 = .ok (.iload_n 3, 1) := by decide +kernel
theorem dX6_laid_31 : decode cX6_laid 31 = .ok (.iadd, 1) := by decide +kernel
theorem dX6_laid_32 : decode cX6_laid 32 = .ok (.iastore, 1) := by decide +kernel
theorem dX6_laid_33 : decode cX6_laid 33 = .ok (.aload_n 0, 1) := by decide +kernel
theorem dX6_laid_34 : decode cX6_laid 34 = .ok (.iload_n 1, 1) := by decide +kernel
theorem dX6_laid_35 : decode cX6_laid 35 = .ok (.bipush 7, 2) := by decide +kernel
theorem dX6_laid_37 : decode cX6_laid 37 = .ok (.iload_n 2, 1) := by decide +kernel
theorem dX6_laid_38 : decode cX6_laid 38 = .ok (.iadd, 1) := by decide +kernel
theorem dX6_laid_39 : decode cX6_laid 39 = .ok (.invokevirtual 93, 3) := by decide +kernel
theorem dX6_laid_42 : decode cX6_laid 42 = .ok (.ireturn, 1) := by decide +kernel
set_option maxRecDepth 20000 in
theorem ggX6_areGood_X6_isSide : GoodIn wsX6_areGood wsX6_isSide := goodIn_r _ [4, 5, 6, 3, 7] (by decide +kernel) (by decide +kernel)
set_option maxRecDepth 20000 in
theorem gX6_areGood_X6_isSide : GoodIn wsX6_areGood (va_wsS RX6 87 yX6_isSide wsX6_isSide) := goodIn_app (goodIn_of _ (by decide +kernel)) ggX6_areGood_X6_isSide
set_option maxRecDepth 20000 in
theorem ggX6_areGood_X6_isThing : GoodIn wsX6_areGood wsX6_isThing := goodIn_r _ [10, 5, 6, 3, 7] (by decide +kernel) (by decide +kernel)
set_option maxRecDepth 20000 in
theorem gX6_areGood_X6_isThing : GoodIn wsX6_areGood (va_wsS RX6 73 yX6_isThing wsX6_isThing) := goodIn_app (goodIn_of _ (by decide +kernel)) ggX6_areGood_X6_isThing
set_option maxRecDepth 20000 in
theorem ggX6_areGood_X6_within : GoodIn wsX6_areGood wsX6_within := goodIn_r _ [7] (by decide +kernel) (by decide +kernel)
set_option maxRecDepth 20000 in
theorem gX6_areGood_X6_within : GoodIn wsX6_areGood (va_wsS RX6 69 yX6_within wsX6_within) := goodIn_app (goodIn_of _ (by decide +kernel)) ggX6_areGood_X6_within
theorem dX6_areGood_0 : decode cX6_areGood 0 = .ok (.iload_n 0, 1) := by decide +kernel
theorem dX6_areGood_1 : decode cX6_areGood 1 = .ok (.invokestatic 87, 3) := by decide +kernel
theorem dX6_areGood_4 : decode cX6_areGood 4 = .ok (.ifCond .eq 24, 3) := by decide +kernel
theorem dX6_areGood_7 : decode cX6_areGood 7 = .ok (.iload_n 1, 1) := by decide +kernel
theorem dX6_areGood_8 : decode cX6_areGood 8 = .ok (.invokestatic 73, 3) := by decide +kernel
theorem dX6_areGood_11 : decode cX6_areGood 11 = .ok (.ifCond .eq 17, 3) := by decide +kernel
theorem dX6_areGood_14 : decode cX6_areGood 14 = .ok (.iload_n 2, 1) := by decide +kernel
theorem dX6_areGood_15 : decode cX6_areGood 15 = .ok (.iconst 1, 1) := by decide +kernel
theorem dX6_areGood_16 : decode cX6_areGood 16 = .ok (.bipush 99, 2) := by decide +kernel
theorem dX6_areGood_18 : decode cX6_areGood 18 = .ok (.invokestatic 69, 3) := by decide +kernel
theorem dX6_areGood_21 : decode cX6_areGood 21 = .ok (.ifCond .eq 7, 3) := by decide +kernel
theorem dX6_areGood_24 : decode cX6_areGood 24 = .ok (.iconst 1, 1) := by decide +kernel
theorem dX6_areGood_25 : decode cX6_areGood 25 = .ok (.goto 4, 3) := by decide +kernel
theorem dX6_areGood_28 : decode cX6_areGood 28 = .ok (.iconst 0, 1) := by decide +kernel
theorem dX6_areGood_29 : decode cX6_areGood 29 = .ok (.ireturn, 1) := by decide +kernel
set_option maxRecDepth 20000 in
theorem ggX6_lay_X6_areGood : GoodIn wsX6_lay wsX6_areGood := goodIn_r _ [6, 7, 8, 5, 9, 10, 11, 12, 13, 14, 15] (by decide +kernel) (by decide +kernel)
set_option maxRecDepth 20000 in
theorem gX6_lay_X6_areGood : GoodIn wsX6_lay (va_wsS RX6 125 yX6_areGood wsX6_areGood) := goodIn_app (goodIn_of _ (by decide +kernel)) ggX6_lay_X6_areGood
set_option maxRecDepth 20000 in
theorem ggX6_lay_X6_finding : GoodIn wsX6_lay wsX6_finding := goodIn_r _ [19, 20, 1, 37, 38, 39, 40, 41, 42, 43, 44, 45, 46, 47, 48, 49, 50, 51, 52, 53, 54, 55, 56, 57, 58] (by decide +kernel) (by decide +kernel)
set_option maxRecDepth 20000 in
theorem gX6_lay_X6_finding : GoodIn wsX6_lay (wsV RX6 83 RX6 yX6_finding wsX6_finding) := goodIn_app (goodIn_of _ (by decide +kernel)) ggX6_lay_X6_finding
set_option maxRecDepth 20000 in
theorem ggX6_lay_X6_mayLay : GoodIn wsX6_lay wsX6_mayLay := goodIn_r _ [24, 25, 26, 27, 5, 28, 29, 30, 31, 32, 37, 38, 39, 40, 41, 42, 43, 44, 45, 46, 47, 48, 49, 50, 51, 52, 53, 54, 55, 56, 57, 58] (by decide +kernel) (by decide +kernel)
set_option maxRecDepth 20000 in
theorem gX6_lay_X6_mayLay : GoodIn wsX6_lay (wsV RX6 128 RX6 yX6_mayLay wsX6_mayLay) := goodIn_app (goodIn_of _ (by decide +kernel)) ggX6_lay_X6_mayLay
set_option maxRecDepth 20000 in
theorem ggX6_lay_X6_laid : GoodIn wsX6_lay wsX6_laid := goodIn_r _ [36, 29, 30, 31, 5, 32, 25, 26, 27, 28, 37, 38, 39, 40, 41, 42, 43, 44, 45, 46, 47, 48, 49, 50, 51, 52, 53, 54, 55, 56, 57, 58] (by decide +kernel) (by decide +kernel)
set_option maxRecDepth 20000 in
theorem gX6_lay_X6_laid : GoodIn wsX6_lay (wsV RX6 131 RX6 yX6_laid wsX6_laid) := goodIn_app (goodIn_of _ (by decide +kernel)) ggX6_lay_X6_laid
theorem dX6_lay_0 : decode cX6_lay 0 = .ok (.iload_n 1, 1) := by decide +kernel
theorem dX6_lay_1 : decode cX6_lay 1 = .ok (.iload_n 2, 1) := by decide +kernel
theorem dX6_lay_2 : decode cX6_lay 2 = .ok (.iload_n 3, 1) := by decide +kernel
theorem dX6_lay_3 : decode cX6_lay 3 = .ok (.invokestatic 125, 3) := by decide +kernel
theorem dX6_lay_6 : decode cX6_lay 6 = .ok (.ifCond .ne 10, 3) := by decide +kernel
theorem dX6_lay_9 : decode cX6_lay 9 = .ok (.aload_n 0, 1) := by decide +kernel
theorem dX6_lay_10 : decode cX6_lay 10 = .ok (.ldc 64, 2) := by decide +kernel
theorem dX6_lay_12 : decode cX6_lay 12 = .ok (.invokevirtual 83, 3) := by decide +kernel
theorem dX6_lay_15 : decode cX6_lay 15 = .ok (.ireturn, 1) := by decide +kernel
theorem dX6_lay_16 : decode cX6_lay 16 = .ok (.aload_n 0, 1) := by decide +kernel
theorem dX6_lay_17 : decode cX6_lay 17 = .ok (.iload_n 1, 1) := by decide +kernel
theorem dX6_lay_18 : decode cX6_lay 18 = .ok (.iload_n 2, 1) := by decide +kernel
theorem dX6_lay_19 : decode cX6_lay 19 = .ok (.iload_n 3, 1) := by decide +kernel
theorem dX6_lay_20 : decode cX6_lay 20 = .ok (.invokevirtual 128, 3) := by decide +kernel
theorem dX6_lay_23 : decode cX6_lay 23 = .ok (.ifCond .eq 13, 3) := by decide +kernel
theorem dX6_lay_26 : decode cX6_lay 26 = .ok (.aload_n 0, 1) := by decide +kernel
theorem dX6_lay_27 : decode cX6_lay 27 = .ok (.iload_n 1, 1) := by decide +kernel
theorem dX6_lay_28 : decode cX6_lay 28 = .ok (.iload_n 2, 1) := by decide +kernel
theorem dX6_lay_29 : decode cX6_lay 29 = .ok (.iload_n 3, 1) := by decide +kernel
theorem dX6_lay_30 : decode cX6_lay 30 = .ok (.invokevirtual 131, 3) := by decide +kernel
theorem dX6_lay_33 : decode cX6_lay 33 = .ok (.goto 9, 3) := by decide +kernel
theorem dX6_lay_36 : decode cX6_lay 36 = .ok (.aload_n 0, 1) := by decide +kernel
theorem dX6_lay_37 : decode cX6_lay 37 = .ok (.ldc 134, 2) := by decide +kernel
theorem dX6_lay_39 : decode cX6_lay 39 = .ok (.invokevirtual 83, 3) := by decide +kernel
theorem dX6_lay_42 : decode cX6_lay 42 = .ok (.ireturn, 1) := by decide +kernel
set_option maxRecDepth 20000 in
theorem ggX6_back_X6_areGood : GoodIn wsX6_back wsX6_areGood := goodIn_r _ [6, 7, 8, 5, 9, 10, 11, 12, 13, 14, 15] (by decide +kernel) (by decide +kernel)
set_option maxRecDepth 20000 in
theorem gX6_back_X6_areGood : GoodIn wsX6_back (va_wsS RX6 125 yX6_areGood wsX6_areGood) := goodIn_app (goodIn_of _ (by decide +kernel)) ggX6_back_X6_areGood
set_option maxRecDepth 20000 in
theorem ggX6_back_X6_finding : GoodIn wsX6_back wsX6_finding := goodIn_r _ [19, 20, 1, 33, 34, 35, 36, 37, 38, 39, 40, 41, 42, 43, 44, 45, 46, 47, 48, 49, 50, 51, 52, 53, 54] (by decide +kernel) (by decide +kernel)
set_option maxRecDepth 20000 in
theorem gX6_back_X6_finding : GoodIn wsX6_back (wsV RX6 83 RX6 yX6_finding wsX6_finding) := goodIn_app (goodIn_of _ (by decide +kernel)) ggX6_back_X6_finding
set_option maxRecDepth 20000 in
theorem ggX6_back_X6_sideIs : GoodIn wsX6_back wsX6_sideIs := goodIn_r _ [24, 25, 26, 27, 5, 28, 33, 34, 35, 36, 37, 38, 39, 40, 41, 42, 43, 44, 45, 46, 47, 48, 49, 50, 51, 52, 53, 54] (by decide +kernel) (by decide +kernel)
set_option maxRecDepth 20000 in
theorem gX6_back_X6_sideIs : GoodIn wsX6_back (wsV RX6 93 RX6 yX6_sideIs wsX6_sideIs) := goodIn_app (goodIn_of _ (by decide +kernel)) ggX6_back_X6_sideIs
set_option maxRecDepth 20000 in
theorem ggX6_back_X6_laid : GoodIn wsX6_back wsX6_laid := goodIn_r _ [32, 25, 26, 27, 5, 28, 21, 22, 23, 24, 33, 34, 35, 36, 37, 38, 39, 40, 41, 42, 43, 44, 45, 46, 47, 48, 49, 50, 51, 52, 53, 54] (by decide +kernel) (by decide +kernel)
set_option maxRecDepth 20000 in
theorem gX6_back_X6_laid : GoodIn wsX6_back (wsV RX6 131 RX6 yX6_laid wsX6_laid) := goodIn_app (goodIn_of _ (by decide +kernel)) ggX6_back_X6_laid
theorem dX6_back_0 : decode cX6_back 0 = .ok (.iload_n 1, 1) := by decide +kernel
theorem dX6_back_1 : decode cX6_back 1 = .ok (.iload_n 2, 1) := by decide +kernel
theorem dX6_back_2 : decode cX6_back 2 = .ok (.iload_n 3, 1) := by decide +kernel
theorem dX6_back_3 : decode cX6_back 3 = .ok (.invokestatic 125, 3) := by decide +kernel
theorem dX6_back_6 : decode cX6_back 6 = .ok (.ifCond .ne 10, 3) := by decide +kernel
theorem dX6_back_9 : decode cX6_back 9 = .ok (.aload_n 0, 1) := by decide +kernel
theorem dX6_back_10 : decode cX6_back 10 = .ok (.ldc 64, 2) := by decide +kernel
theorem dX6_back_12 : decode cX6_back 12 = .ok (.invokevirtual 83, 3) := by decide +kernel
theorem dX6_back_15 : decode cX6_back 15 = .ok (.ireturn, 1) := by decide +kernel
theorem dX6_back_16 : decode cX6_back 16 = .ok (.aload_n 0, 1) := by decide +kernel
theorem dX6_back_17 : decode cX6_back 17 = .ok (.iload_n 1, 1) := by decide +kernel
theorem dX6_back_18 : decode cX6_back 18 = .ok (.bipush 7, 2) := by decide +kernel
theorem dX6_back_20 : decode cX6_back 20 = .ok (.iload_n 2, 1) := by decide +kernel
theorem dX6_back_21 : decode cX6_back 21 = .ok (.iadd, 1) := by decide +kernel
theorem dX6_back_22 : decode cX6_back 22 = .ok (.invokevirtual 93, 3) := by decide +kernel
theorem dX6_back_25 : decode cX6_back 25 = .ok (.iload_n 3, 1) := by decide +kernel
theorem dX6_back_26 : decode cX6_back 26 = .ok (.if_icmp .lt 22, 3) := by decide +kernel
theorem dX6_back_29 : decode cX6_back 29 = .ok (.aload_n 0, 1) := by decide +kernel
theorem dX6_back_30 : decode cX6_back 30 = .ok (.iload_n 1, 1) := by decide +kernel
theorem dX6_back_31 : decode cX6_back 31 = .ok (.iconst 2, 1) := by decide +kernel
theorem dX6_back_32 : decode cX6_back 32 = .ok (.iload_n 2, 1) := by decide +kernel
theorem dX6_back_33 : decode cX6_back 33 = .ok (.iadd, 1) := by decide +kernel
theorem dX6_back_34 : decode cX6_back 34 = .ok (.invokevirtual 93, 3) := by decide +kernel
theorem dX6_back_37 : decode cX6_back 37 = .ok (.iload_n 3, 1) := by decide +kernel
theorem dX6_back_38 : decode cX6_back 38 = .ok (.iadd, 1) := by decide +kernel
theorem dX6_back_39 : decode cX6_back 39 = .ok (.bipush 99, 2) := by decide +kernel
theorem dX6_back_41 : decode cX6_back 41 = .ok (.if_icmp .gt 7, 3) := by decide +kernel
theorem dX6_back_44 : decode cX6_back 44 = .ok (.iconst 1, 1) := by decide +kernel
theorem dX6_back_45 : decode cX6_back 45 = .ok (.goto 4, 3) := by decide +kernel
theorem dX6_back_48 : decode cX6_back 48 = .ok (.iconst 0, 1) := by decide +kernel
theorem dX6_back_49 : decode cX6_back 49 = .ok (.istore 4, 2) := by decide +kernel
theorem dX6_back_51 : decode cX6_back 51 = .ok (.iload 4, 2) := by decide +kernel
theorem dX6_back_53 : decode cX6_back 53 = .ok (.ifCond .eq 14, 3) := by decide +kernel
theorem dX6_back_56 : decode cX6_back 56 = .ok (.aload_n 0, 1) := by decide +kernel
theorem dX6_back_57 : decode cX6_back 57 = .ok (.iload_n 1, 1) := by decide +kernel
theorem dX6_back_58 : decode cX6_back 58 = .ok (.iload_n 2, 1) := by decide +kernel
theorem dX6_back_59 : decode cX6_back 59 = .ok (.iload_n 3, 1) := by decide +kernel
theorem dX6_back_60 : decode cX6_back 60 = .ok (.ineg, 1) := by decide +kernel
theorem dX6_back_61 : decode cX6_back 61 = .ok (.invokevirtual 131, 3) := by decide +kernel
theorem dX6_back_64 : decode cX6_back 64 = .ok (.goto 9, 3) := by decide +kernel
theorem dX6_back_67 : decode cX6_back 67 = .ok (.aload_n 0, 1) := by decide +kernel
theorem dX6_back_68 : decode cX6_back 68 = .ok (.ldc 134, 2) := by decide +kernel
theorem dX6_back_70 : decode cX6_back 70 = .ok (.invokevirtual 83, 3) := by decide +kernel
theorem dX6_back_73 : decode cX6_back 73 = .ok (.ireturn, 1) := by decide +kernel
set_option maxRecDepth 20000 in
theorem ggX6_isContent_X6_isEmpty : GoodIn wsX6_isContent wsX6_isEmpty := goodIn_r _ [5, 6, 7, 8, 4, 9, 10, 11, 12, 13, 14, 15, 16, 17, 36, 37, 38, 39, 40, 41, 42, 43, 44, 45, 46, 47, 48, 49, 50, 51, 52, 53, 54, 55, 56, 57] (by decide +kernel) (by decide +kernel)
set_option maxRecDepth 20000 in
theorem gX6_isContent_X6_isEmpty : GoodIn wsX6_isContent (wsV RX6 135 RX6 yX6_isEmpty wsX6_isEmpty) := goodIn_app (goodIn_of _ (by decide +kernel)) ggX6_isContent_X6_isEmpty
set_option maxRecDepth 20000 in
theorem ggX6_isContent_X6_valueFor : GoodIn wsX6_isContent wsX6_valueFor := goodIn_r _ [21, 10, 11, 12, 4, 13, 14, 15, 16, 17, 22, 23, 24, 25, 26, 27, 28, 29, 30, 31, 32, 33, 34, 35, 36, 37, 38, 39, 40, 41, 42, 43, 44, 45, 46, 47, 48, 49, 50, 51, 52, 53, 54, 55, 56, 57] (by decide +kernel) (by decide +kernel)
set_option maxRecDepth 20000 in
theorem gX6_isContent_X6_valueFor : GoodIn wsX6_isContent (wsV RX6 116 RX6 yX6_valueFor wsX6_valueFor) := goodIn_app (goodIn_of _ (by decide +kernel)) ggX6_isContent_X6_valueFor
set_option maxRecDepth 20000 in
theorem ggX6_isContent_X6_sideIs : GoodIn wsX6_isContent wsX6_sideIs := goodIn_r _ [13, 14, 15, 16, 4, 17, 36, 37, 38, 39, 40, 41, 42, 43, 44, 45, 46, 47, 48, 49, 50, 51, 52, 53, 54, 55, 56, 57] (by decide +kernel) (by decide +kernel)
set_option maxRecDepth 20000 in
theorem gX6_isContent_X6_sideIs : GoodIn wsX6_isContent (wsV RX6 93 RX6 yX6_sideIs wsX6_sideIs) := goodIn_app (goodIn_of _ (by decide +kernel)) ggX6_isContent_X6_sideIs
theorem dX6_isContent_0 : decode cX6_isContent 0 = .ok (.aload_n 0, 1) := by decide +kernel
theorem dX6_isContent_1 : decode cX6_isContent 1 = .ok (.iconst 1, 1) := by decide +kernel
theorem dX6_isContent_2 : decode cX6_isContent 2 = .ok (.iload_n 1, 1) := by decide +kernel
theorem dX6_isContent_3 : decode cX6_isContent 3 = .ok (.isub, 1) := by decide +kernel
theorem dX6_isContent_4 : decode cX6_isContent 4 = .ok (.invokevirtual 135, 3) := by decide +kernel
theorem dX6_isContent_7 : decode cX6_isContent 7 = .ok (.ifCond .ne 31, 3) := by decide +kernel
theorem dX6_isContent_10 : decode cX6_isContent 10 = .ok (.aload_n 0, 1) := by decide +kernel
theorem dX6_isContent_11 : decode cX6_isContent 11 = .ok (.iload_n 1, 1) := by decide +kernel
theorem dX6_isContent_12 : decode cX6_isContent 12 = .ok (.iconst 1, 1) := by decide +kernel
theorem dX6_isContent_13 : decode cX6_isContent 13 = .ok (.iload_n 1, 1) := by decide +kernel
theorem dX6_isContent_14 : decode cX6_isContent 14 = .ok (.isub, 1) := by decide +kernel
theorem dX6_isContent_15 : decode cX6_isContent 15 = .ok (.invokevirtual 116, 3) := by decide +kernel
theorem dX6_isContent_18 : decode cX6_isContent 18 = .ok (.aload_n 0, 1) := by decide +kernel
theorem dX6_isContent_19 : decode cX6_isContent 19 = .ok (.iload_n 1, 1) := by decide +kernel
theorem dX6_isContent_20 : decode cX6_isContent 20 = .ok (.iload_n 1, 1) := by decide +kernel
theorem dX6_isContent_21 : decode cX6_isContent 21 = .ok (.invokevirtual 116, 3) := by decide +kernel
theorem dX6_isContent_24 : decode cX6_isContent 24 = .ok (.aload_n 0, 1) := by decide +kernel
theorem dX6_isContent_25 : decode cX6_isContent 25 = .ok (.iload_n 1, 1) := by decide +kernel
theorem dX6_isContent_26 : decode cX6_isContent 26 = .ok (.iconst 0, 1) := by decide +kernel
theorem dX6_isContent_27 : decode cX6_isContent 27 = .ok (.invokevirtual 93, 3) := by decide +kernel
theorem dX6_isContent_30 : decode cX6_isContent 30 = .ok (.iadd, 1) := by decide +kernel
theorem dX6_isContent_31 : decode cX6_isContent 31 = .ok (.if_icmp .lt 7, 3) := by decide +kernel
theorem dX6_isContent_34 : decode cX6_isContent 34 = .ok (.iconst 1, 1) := by decide +kernel
theorem dX6_isContent_35 : decode cX6_isContent 35 = .ok (.goto 4, 3) := by decide +kernel
theorem dX6_isContent_38 : decode cX6_isContent 38 = .ok (.iconst 0, 1) := by decide +kernel
theorem dX6_isContent_39 : decode cX6_isContent 39 = .ok (.ireturn, 1) := by decide +kernel
set_option maxRecDepth 20000 in
theorem ggX6_wouldDo_X6_sideIs : GoodIn wsX6_wouldDo wsX6_sideIs := goodIn_r _ [5, 6, 7, 8, 4, 9, 40, 41, 42, 43, 44, 45, 46, 47, 48, 49, 50, 51, 52, 53, 54, 55, 56, 57, 58, 59, 60, 61] (by decide +kernel) (by decide +kernel)
set_option maxRecDepth 20000 in
theorem gX6_wouldDo_X6_sideIs : GoodIn wsX6_wouldDo (wsV RX6 93 RX6 yX6_sideIs wsX6_sideIs) := goodIn_app (goodIn_of _ (by decide +kernel)) ggX6_wouldDo_X6_sideIs
set_option maxRecDepth 20000 in
theorem ggX6_wouldDo_X6_isEmpty : GoodIn wsX6_wouldDo wsX6_isEmpty := goodIn_r _ [13, 14, 15, 16, 4, 17, 1, 2, 3, 5, 6, 7, 8, 9, 40, 41, 42, 43, 44, 45, 46, 47, 48, 49, 50, 51, 52, 53, 54, 55, 56, 57, 58, 59, 60, 61] (by decide +kernel) (by decide +kernel)
set_option maxRecDepth 20000 in
theorem gX6_wouldDo_X6_isEmpty : GoodIn wsX6_wouldDo (wsV RX6 135 RX6 yX6_isEmpty wsX6_isEmpty) := goodIn_app (goodIn_of _ (by decide +kernel)) ggX6_wouldDo_X6_isEmpty
set_option maxRecDepth 20000 in
theorem ggX6_wouldDo_X6_isContent : GoodIn wsX6_wouldDo wsX6_isContent := goodIn_r _ [21, 10, 11, 12, 4, 13, 14, 15, 16, 17, 1, 2, 3, 5, 6, 7, 8, 9, 22, 23, 24, 25, 26, 27, 28, 29, 30, 31, 32, 33, 34, 35, 36, 37, 38, 39, 40, 41, 42, 43, 44, 45, 46, 47, 48, 49, 50, 51, 52, 53, 54, 55, 56, 57, 58, 59, 60, 61] (by decide +kernel) (by decide +kernel)
set_option maxRecDepth 20000 in
theorem gX6_wouldDo_X6_isContent : GoodIn wsX6_wouldDo (wsV RX6 138 RX6 yX6_isContent wsX6_isContent) := goodIn_app (goodIn_of _ (by decide +kernel)) ggX6_wouldDo_X6_isContent
theorem dX6_wouldDo_0 : decode cX6_wouldDo 0 = .ok (.aload_n 0, 1) := by decide +kernel
theorem dX6_wouldDo_1 : decode cX6_wouldDo 1 = .ok (.iload_n 1, 1) := by decide +kernel
theorem dX6_wouldDo_2 : decode cX6_wouldDo 2 = .ok (.iconst 1, 1) := by decide +kernel
theorem dX6_wouldDo_3 : decode cX6_wouldDo 3 = .ok (.invokevirtual 93, 3) := by decide +kernel
theorem dX6_wouldDo_6 : decode cX6_wouldDo 6 = .ok (.ifCond .ne 17, 3) := by decide +kernel
theorem dX6_wouldDo_9 : decode cX6_wouldDo 9 = .ok (.aload_n 0, 1) := by decide +kernel
theorem dX6_wouldDo_10 : decode cX6_wouldDo 10 = .ok (.iload_n 1, 1) := by decide +kernel
theorem dX6_wouldDo_11 : decode cX6_wouldDo 11 = .ok (.invokevirtual 135, 3) := by decide +kernel
theorem dX6_wouldDo_14 : decode cX6_wouldDo 14 = .ok (.ifCond .eq 7, 3) := by decide +kernel
theorem dX6_wouldDo_17 : decode cX6_wouldDo 17 = .ok (.iconst 0, 1) := by decide +kernel
theorem dX6_wouldDo_18 : decode cX6_wouldDo 18 = .ok (.goto 4, 3) := by decide +kernel
theorem dX6_wouldDo_21 : decode cX6_wouldDo 21 = .ok (.iconst 3, 1) := by decide +kernel
theorem dX6_wouldDo_22 : decode cX6_wouldDo 22 = .ok (.ireturn, 1) := by decide +kernel
theorem dX6_wouldDo_23 : decode cX6_wouldDo 23 = .ok (.aload_n 0, 1) := by decide +kernel
theorem dX6_wouldDo_24 : decode cX6_wouldDo 24 = .ok (.iload_n 1, 1) := by decide +kernel
theorem dX6_wouldDo_25 : decode cX6_wouldDo 25 = .ok (.invokevirtual 138, 3) := by decide +kernel
theorem dX6_wouldDo_28 : decode cX6_wouldDo 28 = .ok (.ifCond .eq 7, 3) := by decide +kernel
theorem dX6_wouldDo_31 : decode cX6_wouldDo 31 = .ok (.iconst 1, 1) := by decide +kernel
theorem dX6_wouldDo_32 : decode cX6_wouldDo 32 = .ok (.goto 16, 3) := by decide +kernel
theorem dX6_wouldDo_35 : decode cX6_wouldDo 35 = .ok (.aload_n 0, 1) := by decide +kernel
theorem dX6_wouldDo_36 : decode cX6_wouldDo 36 = .ok (.iload_n 1, 1) := by decide +kernel
theorem dX6_wouldDo_37 : decode cX6_wouldDo 37 = .ok (.invokevirtual 135, 3) := by decide +kernel
theorem dX6_wouldDo_40 : decode cX6_wouldDo 40 = .ok (.ifCond .eq 7, 3) := by decide +kernel
theorem dX6_wouldDo_43 : decode cX6_wouldDo 43 = .ok (.iconst 0, 1) := by decide +kernel
theorem dX6_wouldDo_44 : decode cX6_wouldDo 44 = .ok (.goto 4, 3) := by decide +kernel
theorem dX6_wouldDo_47 : decode cX6_wouldDo 47 = .ok (.iconst 2, 1) := by decide +kernel
theorem dX6_wouldDo_48 : decode cX6_wouldDo 48 = .ok (.ireturn, 1) := by decide +kernel
set_option maxRecDepth 20000 in
theorem ggX6_content_X6_isSide : GoodIn wsX6_content wsX6_isSide := goodIn_r _ [5, 6, 7, 4, 8] (by decide +kernel) (by decide +kernel)
set_option maxRecDepth 20000 in
theorem gX6_content_X6_isSide : GoodIn wsX6_content (va_wsS RX6 87 yX6_isSide wsX6_isSide) := goodIn_app (goodIn_of _ (by decide +kernel)) ggX6_content_X6_isSide
set_option maxRecDepth 20000 in
theorem ggX6_content_X6_isContent : GoodIn wsX6_content wsX6_isContent := goodIn_r _ [12, 13, 14, 15, 4, 16, 17, 18, 19, 20, 21, 22, 23, 24, 25, 26, 27, 28, 29, 30, 31, 32, 33, 34, 35, 36, 37, 38, 39, 40, 41, 42, 43, 44, 45, 46, 52, 53, 54, 55, 56, 57, 58, 59, 60, 61, 62, 63, 64, 65, 66, 67, 68, 69, 70, 71, 72, 73] (by decide +kernel) (by decide +kernel)
set_option maxRecDepth 20000 in
theorem gX6_content_X6_isContent : GoodIn wsX6_content (wsV RX6 138 RX6 yX6_isContent wsX6_isContent) := goodIn_app (goodIn_of _ (by decide +kernel)) ggX6_content_X6_isContent
set_option maxRecDepth 20000 in
theorem ggX6_content_X6_finding : GoodIn wsX6_content wsX6_finding := goodIn_r _ [50, 51, 1, 52, 53, 54, 55, 56, 57, 58, 59, 60, 61, 62, 63, 64, 65, 66, 67, 68, 69, 70, 71, 72, 73] (by decide +kernel) (by decide +kernel)
set_option maxRecDepth 20000 in
theorem gX6_content_X6_finding : GoodIn wsX6_content (wsV RX6 83 RX6 yX6_finding wsX6_finding) := goodIn_app (goodIn_of _ (by decide +kernel)) ggX6_content_X6_finding
theorem dX6_content_0 : decode cX6_content 0 = .ok (.iload_n 1, 1) := by decide +kernel
theorem dX6_content_1 : decode cX6_content 1 = .ok (.invokestatic 87, 3) := by decide +kernel
theorem dX6_content_4 : decode cX6_content 4 = .ok (.ifCond .eq 19, 3) := by decide +kernel
theorem dX6_content_7 : decode cX6_content 7 = .ok (.aload_n 0, 1) := by decide +kernel
theorem dX6_content_8 : decode cX6_content 8 = .ok (.iload_n 1, 1) := by decide +kernel
theorem dX6_content_9 : decode cX6_content 9 = .ok (.invokevirtual 138, 3) := by decide +kernel
theorem dX6_content_12 : decode cX6_content 12 = .ok (.ifCond .eq 7, 3) := by decide +kernel
theorem dX6_content_15 : decode cX6_content 15 = .ok (.iconst 1, 1) := by decide +kernel
theorem dX6_content_16 : decode cX6_content 16 = .ok (.goto 13, 3) := by decide +kernel
theorem dX6_content_19 : decode cX6_content 19 = .ok (.iconst 0, 1) := by decide +kernel
theorem dX6_content_20 : decode cX6_content 20 = .ok (.goto 9, 3) := by decide +kernel
theorem dX6_content_23 : decode cX6_content 23 = .ok (.aload_n 0, 1) := by decide +kernel
theorem dX6_content_24 : decode cX6_content 24 = .ok (.ldc 64, 2) := by decide +kernel
theorem dX6_content_26 : decode cX6_content 26 = .ok (.invokevirtual 83, 3) := by decide +kernel
theorem dX6_content_29 : decode cX6_content 29 = .ok (.ireturn, 1) := by decide +kernel
set_option maxRecDepth 20000 in
theorem ggX6_does_X6_isSide : GoodIn wsX6_does wsX6_isSide := goodIn_r _ [5, 6, 7, 4, 8] (by decide +kernel) (by decide +kernel)
set_option maxRecDepth 20000 in
theorem gX6_does_X6_isSide : GoodIn wsX6_does (va_wsS RX6 87 yX6_isSide wsX6_isSide) := goodIn_app (goodIn_of _ (by decide +kernel)) ggX6_does_X6_isSide
set_option maxRecDepth 20000 in
theorem ggX6_does_X6_wouldDo : GoodIn wsX6_does wsX6_wouldDo := goodIn_r _ [12, 13, 14, 15, 4, 16, 17, 18, 19, 20, 21, 22, 23, 24, 25, 26, 27, 28, 29, 30, 31, 32, 33, 34, 35, 36, 37, 38, 39, 40, 41, 42, 43, 44, 45, 46, 47, 48, 49, 50, 56, 57, 58, 59, 60, 61, 62, 63, 64, 65, 66, 67, 68, 69, 70, 71, 72, 73, 74, 75, 76, 77] (by decide +kernel) (by decide +kernel)
set_option maxRecDepth 20000 in
theorem gX6_does_X6_wouldDo : GoodIn wsX6_does (wsV RX6 141 RX6 yX6_wouldDo wsX6_wouldDo) := goodIn_app (goodIn_of _ (by decide +kernel)) ggX6_does_X6_wouldDo
set_option maxRecDepth 20000 in
theorem ggX6_does_X6_finding : GoodIn wsX6_does wsX6_finding := goodIn_r _ [54, 55, 1, 56, 57, 58, 59, 60, 61, 62, 63, 64, 65, 66, 67, 68, 69, 70, 71, 72, 73, 74, 75, 76, 77] (by decide +kernel) (by decide +kernel)
set_option maxRecDepth 20000 in
theorem gX6_does_X6_finding : GoodIn wsX6_does (wsV RX6 83 RX6 yX6_finding wsX6_finding) := goodIn_app (goodIn_of _ (by decide +kernel)) ggX6_does_X6_finding
theorem dX6_does_0 : decode cX6_does 0 = .ok (.iload_n 1, 1) := by decide +kernel
theorem dX6_does_1 : decode cX6_does 1 = .ok (.invokestatic 87, 3) := by decide +kernel
theorem dX6_does_4 : decode cX6_does 4 = .ok (.ifCond .eq 11, 3) := by decide +kernel
theorem dX6_does_7 : decode cX6_does 7 = .ok (.aload_n 0, 1) := by decide +kernel
theorem dX6_does_8 : decode cX6_does 8 = .ok (.iload_n 1, 1) := by decide +kernel
theorem dX6_does_9 : decode cX6_does 9 = .ok (.invokevirtual 141, 3) := by decide +kernel
theorem dX6_does_12 : decode cX6_does 12 = .ok (.goto 9, 3) := by decide +kernel
theorem dX6_does_15 : decode cX6_does 15 = .ok (.aload_n 0, 1) := by decide +kernel
theorem dX6_does_16 : decode cX6_does 16 = .ok (.ldc 64, 2) := by decide +kernel
theorem dX6_does_18 : decode cX6_does 18 = .ok (.invokevirtual 83, 3) := by decide +kernel
theorem dX6_does_21 : decode cX6_does 21 = .ok (.ireturn, 1) := by decide +kernel
set_option maxRecDepth 20000 in
theorem ggX6_dearest_X6_sideIs : GoodIn wsX6_dearest wsX6_sideIs := goodIn_r _ [5, 6, 7, 8, 4, 9, 24, 25, 26, 27, 28, 29, 30, 31, 32, 33, 34, 35, 36, 37, 38, 39, 40, 41, 42, 43, 44, 45] (by decide +kernel) (by decide +kernel)
set_option maxRecDepth 20000 in
theorem gX6_dearest_X6_sideIs : GoodIn wsX6_dearest (wsV RX6 93 RX6 yX6_sideIs wsX6_sideIs) := goodIn_app (goodIn_of _ (by decide +kernel)) ggX6_dearest_X6_sideIs
set_option maxRecDepth 20000 in
theorem ggX6_dearest_X6_priceFor : GoodIn wsX6_dearest wsX6_priceFor := goodIn_r _ [13, 6, 1, 2, 3, 4, 5, 7, 8, 9, 14, 15, 16, 17, 18, 19, 20, 21, 22, 23, 24, 25, 26, 27, 28, 29, 30, 31, 32, 33, 34, 35, 36, 37, 38, 39, 40, 41, 42, 43, 44, 45] (by decide +kernel) (by decide +kernel)
set_option maxRecDepth 20000 in
theorem gX6_dearest_X6_priceFor : GoodIn wsX6_dearest (wsV RX6 107 RX6 yX6_priceFor wsX6_priceFor) := goodIn_app (goodIn_of _ (by decide +kernel)) ggX6_dearest_X6_priceFor
theorem dX6_dearest_0 : decode cX6_dearest 0 = .ok (.iconst (-1), 1) := by decide +kernel
theorem dX6_dearest_1 : decode cX6_dearest 1 = .ok (.istore_n 2, 1) := by decide +kernel
theorem dX6_dearest_2 : decode cX6_dearest 2 = .ok (.iconst 0, 1) := by decide +kernel
theorem dX6_dearest_3 : decode cX6_dearest 3 = .ok (.istore_n 3, 1) := by decide +kernel
theorem dX6_dearest_4 : decode cX6_dearest 4 = .ok (.iconst 0, 1) := by decide +kernel
theorem dX6_dearest_5 : decode cX6_dearest 5 = .ok (.istore 4, 2) := by decide +kernel
theorem dX6_dearest_7 : decode cX6_dearest 7 = .ok (.iload 4, 2) := by decide +kernel
theorem dX6_dearest_9 : decode cX6_dearest 9 = .ok (.iconst 5, 1) := by decide +kernel
theorem dX6_dearest_10 : decode cX6_dearest 10 = .ok (.if_icmp .ge 74, 3) := by decide +kernel
theorem dX6_dearest_13 : decode cX6_dearest 13 = .ok (.aload_n 0, 1) := by decide +kernel
theorem dX6_dearest_14 : decode cX6_dearest 14 = .ok (.iload_n 1, 1) := by decide +kernel
theorem dX6_dearest_15 : decode cX6_dearest 15 = .ok (.bipush 7, 2) := by decide +kernel
theorem dX6_dearest_17 : decode cX6_dearest 17 = .ok (.iload 4, 2) := by decide +kernel
theorem dX6_dearest_19 : decode cX6_dearest 19 = .ok (.iadd, 1) := by decide +kernel
theorem dX6_dearest_20 : decode cX6_dearest 20 = .ok (.invokevirtual 93, 3) := by decide +kernel
theorem dX6_dearest_23 : decode cX6_dearest 23 = .ok (.istore 5, 2) := by decide +kernel
theorem dX6_dearest_25 : decode cX6_dearest 25 = .ok (.iload 5, 2) := by decide +kernel
theorem dX6_dearest_27 : decode cX6_dearest 27 = .ok (.ifCond .ne 7, 3) := by decide +kernel
theorem dX6_dearest_30 : decode cX6_dearest 30 = .ok (.iconst (-1), 1) := by decide +kernel
theorem dX6_dearest_31 : decode cX6_dearest 31 = .ok (.goto 24, 3) := by decide +kernel
theorem dX6_dearest_34 : decode cX6_dearest 34 = .ok (.aload_n 0, 1) := by decide +kernel
theorem dX6_dearest_35 : decode cX6_dearest 35 = .ok (.iload_n 1, 1) := by decide +kernel
theorem dX6_dearest_36 : decode cX6_dearest 36 = .ok (.iload 4, 2) := by decide +kernel
theorem dX6_dearest_38 : decode cX6_dearest 38 = .ok (.iload 5, 2) := by decide +kernel
theorem dX6_dearest_40 : decode cX6_dearest 40 = .ok (.invokevirtual 107, 3) := by decide +kernel
theorem dX6_dearest_43 : decode cX6_dearest 43 = .ok (.aload_n 0, 1) := by decide +kernel
theorem dX6_dearest_44 : decode cX6_dearest 44 = .ok (.iload_n 1, 1) := by decide +kernel
theorem dX6_dearest_45 : decode cX6_dearest 45 = .ok (.iload 4, 2) := by decide +kernel
theorem dX6_dearest_47 : decode cX6_dearest 47 = .ok (.iload 5, 2) := by decide +kernel
theorem dX6_dearest_49 : decode cX6_dearest 49 = .ok (.iconst 1, 1) := by decide +kernel
theorem dX6_dearest_50 : decode cX6_dearest 50 = .ok (.isub, 1) := by decide +kernel
theorem dX6_dearest_51 : decode cX6_dearest 51 = .ok (.invokevirtual 107, 3) := by decide +kernel
theorem dX6_dearest_54 : decode cX6_dearest 54 = .ok (.isub, 1) := by decide +kernel
theorem dX6_dearest_55 : decode cX6_dearest 55 = .ok (.istore 6, 2) := by decide +kernel
theorem dX6_dearest_57 : decode cX6_dearest 57 = .ok (.iload 5, 2) := by decide +kernel
theorem dX6_dearest_59 : decode cX6_dearest 59 = .ok (.ifCond .le 19, 3) := by decide +kernel
theorem dX6_dearest_62 : decode cX6_dearest 62 = .ok (.iload_n 2, 1) := by decide +kernel
theorem dX6_dearest_63 : decode cX6_dearest 63 = .ok (.ifCond .lt 9, 3) := by decide +kernel
theorem dX6_dearest_66 : decode cX6_dearest 66 = .ok (.iload 6, 2) := by decide +kernel
theorem dX6_dearest_68 : decode cX6_dearest 68 = .ok (.iload_n 3, 1) := by decide +kernel
theorem dX6_dearest_69 : decode cX6_dearest 69 = .ok (.if_icmp .le 9, 3) := by decide +kernel
theorem dX6_dearest_72 : decode cX6_dearest 72 = .ok (.iload 4, 2) := by decide +kernel
theorem dX6_dearest_74 : decode cX6_dearest 74 = .ok (.istore_n 2, 1) := by decide +kernel
theorem dX6_dearest_75 : decode cX6_dearest 75 = .ok (.iload 6, 2) := by decide +kernel
theorem dX6_dearest_77 : decode cX6_dearest 77 = .ok (.istore_n 3, 1) := by decide +kernel
theorem dX6_dearest_78 : decode cX6_dearest 78 = .ok (.iinc 4 1, 3) := by decide +kernel
theorem dX6_dearest_81 : decode cX6_dearest 81 = .ok (.goto (-74), 3) := by decide +kernel
theorem dX6_dearest_84 : decode cX6_dearest 84 = .ok (.iload_n 2, 1) := by decide +kernel
theorem dX6_dearest_85 : decode cX6_dearest 85 = .ok (.ireturn, 1) := by decide +kernel
set_option maxRecDepth 20000 in
theorem ggX6_less_X6_isSide : GoodIn wsX6_less wsX6_isSide := goodIn_r _ [6, 7, 8, 5, 9] (by decide +kernel) (by decide +kernel)
set_option maxRecDepth 20000 in
theorem gX6_less_X6_isSide : GoodIn wsX6_less (va_wsS RX6 87 yX6_isSide wsX6_isSide) := goodIn_app (goodIn_of _ (by decide +kernel)) ggX6_less_X6_isSide
set_option maxRecDepth 20000 in
theorem ggX6_less_X6_finding : GoodIn wsX6_less wsX6_finding := goodIn_r _ [13, 14, 1, 61, 62, 63, 64, 65, 66, 67, 68, 69, 70, 71, 72, 73, 74, 75, 76, 77, 78, 79, 80, 81, 82] (by decide +kernel) (by decide +kernel)
set_option maxRecDepth 20000 in
theorem gX6_less_X6_finding : GoodIn wsX6_less (wsV RX6 83 RX6 yX6_finding wsX6_finding) := goodIn_app (goodIn_of _ (by decide +kernel)) ggX6_less_X6_finding
set_option maxRecDepth 20000 in
theorem ggX6_less_X6_wouldDo : GoodIn wsX6_less wsX6_wouldDo := goodIn_r _ [18, 19, 20, 21, 5, 22, 23, 24, 25, 26, 27, 28, 29, 30, 31, 32, 33, 34, 35, 36, 37, 38, 39, 40, 41, 42, 43, 44, 45, 46, 47, 48, 49, 50, 51, 52, 53, 54, 55, 56, 61, 62, 63, 64, 65, 66, 67, 68, 69, 70, 71, 72, 73, 74, 75, 76, 77, 78, 79, 80, 81, 82] (by decide +kernel) (by decide +kernel)
set_option maxRecDepth 20000 in
theorem gX6_less_X6_wouldDo : GoodIn wsX6_less (wsV RX6 141 RX6 yX6_wouldDo wsX6_wouldDo) := goodIn_app (goodIn_of _ (by decide +kernel)) ggX6_less_X6_wouldDo
set_option maxRecDepth 20000 in
theorem ggX6_less_X6_dearest : GoodIn wsX6_less wsX6_dearest := goodIn_r _ [60, 19, 20, 21, 5, 22, 23, 24, 25, 26, 43, 44, 45, 46, 47, 48, 49, 50, 51, 52, 53, 54, 55, 56, 61, 62, 63, 64, 65, 66, 67, 68, 69, 70, 71, 72, 73, 74, 75, 76, 77, 78, 79, 80, 81, 82] (by decide +kernel) (by decide +kernel)
set_option maxRecDepth 20000 in
theorem gX6_less_X6_dearest : GoodIn wsX6_less (wsV RX6 144 RX6 yX6_dearest wsX6_dearest) := goodIn_app (goodIn_of _ (by decide +kernel)) ggX6_less_X6_dearest
theorem dX6_less_0 : decode cX6_less 0 = .ok (.iload_n 1, 1) := by decide +kernel
theorem dX6_less_1 : decode cX6_less 1 = .ok (.invokestatic 87, 3) := by decide +kernel
theorem dX6_less_4 : decode cX6_less 4 = .ok (.ifCond .ne 10, 3) := by decide +kernel
theorem dX6_less_7 : decode cX6_less 7 = .ok (.aload_n 0, 1) := by decide +kernel
theorem dX6_less_8 : decode cX6_less 8 = .ok (.ldc 64, 2) := by decide +kernel
theorem dX6_less_10 : decode cX6_less 10 = .ok (.invokevirtual 83, 3) := by decide +kernel
theorem dX6_less_13 : decode cX6_less 13 = .ok (.ireturn, 1) := by decide +kernel
theorem dX6_less_14 : decode cX6_less 14 = .ok (.aload_n 0, 1) := by decide +kernel
theorem dX6_less_15 : decode cX6_less 15 = .ok (.iload_n 1, 1) := by decide +kernel
theorem dX6_less_16 : decode cX6_less 16 = .ok (.invokevirtual 141, 3) := by decide +kernel
theorem dX6_less_19 : decode cX6_less 19 = .ok (.iconst 2, 1) := by decide +kernel
theorem dX6_less_20 : decode cX6_less 20 = .ok (.if_icmp .ne 11, 3) := by decide +kernel
theorem dX6_less_23 : decode cX6_less 23 = .ok (.aload_n 0, 1) := by decide +kernel
theorem dX6_less_24 : decode cX6_less 24 = .ok (.iload_n 1, 1) := by decide +kernel
theorem dX6_less_25 : decode cX6_less 25 = .ok (.invokevirtual 144, 3) := by decide +kernel
theorem dX6_less_28 : decode cX6_less 28 = .ok (.goto 9, 3) := by decide +kernel
theorem dX6_less_31 : decode cX6_less 31 = .ok (.aload_n 0, 1) := by decide +kernel
theorem dX6_less_32 : decode cX6_less 32 = .ok (.ldc 147, 2) := by decide +kernel
theorem dX6_less_34 : decode cX6_less 34 = .ok (.invokevirtual 83, 3) := by decide +kernel
theorem dX6_less_37 : decode cX6_less 37 = .ok (.ireturn, 1) := by decide +kernel
set_option maxRecDepth 20000 in
theorem ggX6_comesHome_X6_at : GoodIn wsX6_comesHome wsX6_at := goodIn_r _ [9] (by decide +kernel) (by decide +kernel)
set_option maxRecDepth 20000 in
theorem gX6_comesHome_X6_at : GoodIn wsX6_comesHome (va_wsS RX6 60 yX6_at wsX6_at) := goodIn_app (goodIn_of _ (by decide +kernel)) ggX6_comesHome_X6_at
set_option maxRecDepth 20000 in
theorem ggX6_comesHome_X6_sideIs : GoodIn wsX6_comesHome wsX6_sideIs := goodIn_r _ [13, 1, 6, 7, 8, 9, 14, 15, 16, 17, 18, 19, 20, 21, 22, 23, 24, 25, 26, 27, 28, 29, 30, 31, 32, 33, 34, 35] (by decide +kernel) (by decide +kernel)
set_option maxRecDepth 20000 in
theorem gX6_comesHome_X6_sideIs : GoodIn wsX6_comesHome (wsV RX6 93 RX6 yX6_sideIs wsX6_sideIs) := goodIn_app (goodIn_of _ (by decide +kernel)) ggX6_comesHome_X6_sideIs
theorem dX6_comesHome_0 : decode cX6_comesHome 0 = .ok (.aload_n 0, 1) := by decide +kernel
theorem dX6_comesHome_1 : decode cX6_comesHome 1 = .ok (.getfield 9, 3) := by decide +kernel
theorem dX6_comesHome_4 : decode cX6_comesHome 4 = .ok (.iload_n 1, 1) := by decide +kernel
theorem dX6_comesHome_5 : decode cX6_comesHome 5 = .ok (.iconst 2, 1) := by decide +kernel
theorem dX6_comesHome_6 : decode cX6_comesHome 6 = .ok (.iload_n 2, 1) := by decide +kernel
theorem dX6_comesHome_7 : decode cX6_comesHome 7 = .ok (.iadd, 1) := by decide +kernel
theorem dX6_comesHome_8 : decode cX6_comesHome 8 = .ok (.invokestatic 60, 3) := by decide +kernel
theorem dX6_comesHome_11 : decode cX6_comesHome 11 = .ok (.bipush 99, 2) := by decide +kernel
theorem dX6_comesHome_13 : decode cX6_comesHome 13 = .ok (.aload_n 0, 1) := by decide +kernel
theorem dX6_comesHome_14 : decode cX6_comesHome 14 = .ok (.iload_n 1, 1) := by decide +kernel
theorem dX6_comesHome_15 : decode cX6_comesHome 15 = .ok (.iconst 2, 1) := by decide +kernel
theorem dX6_comesHome_16 : decode cX6_comesHome 16 = .ok (.iload_n 2, 1) := by decide +kernel
theorem dX6_comesHome_17 : decode cX6_comesHome 17 = .ok (.iadd, 1) := by decide +kernel
theorem dX6_comesHome_18 : decode cX6_comesHome 18 = .ok (.invokevirtual 93, 3) := by decide +kernel
theorem dX6_comesHome_21 : decode cX6_comesHome 21 = .ok (.iload_n 3, 1) := by decide +kernel
theorem dX6_comesHome_22 : decode cX6_comesHome 22 = .ok (.iadd, 1) := by decide +kernel
theorem dX6_comesHome_23 : decode cX6_comesHome 23 = .ok (.invokestatic 111, 3) := by decide +kernel
theorem dX6_comesHome_26 : decode cX6_comesHome 26 = .ok (.iastore, 1) := by decide +kernel
theorem dX6_comesHome_27 : decode cX6_comesHome 27 = .ok (.return_, 1) := by decide +kernel
