set_option maxRecDepth 20000 in
theorem gX6_book_X6_finding : GoodIn wsX6_book (wsV RX6 83 RX6 yX6_finding wsX6_finding) := goodIn_app (goodIn_of _ (by decide +kernel)) ggX6_book_X6_finding
set_option maxRecDepth 20000 in
theorem ggX6_book_X6_booked : GoodIn wsX6_book wsX6_booked := goodIn_r _ [16, 3, 17, 18, 19, 20, 24, 25, 26, 27, 28, 29, 30, 31, 32, 33, 34, 35, 36, 37, 38, 39, 40, 41, 42, 43, 44, 45] (by decide +kernel) (by decide +kernel)
set_option maxRecDepth 20000 in
theorem gX6_book_X6_booked : GoodIn wsX6_book (wsV RX6 221 RX6 yX6_booked wsX6_booked) := goodIn_app (goodIn_of _ (by decide +kernel)) ggX6_book_X6_booked
set_option maxRecDepth 20000 in
theorem ggX6_book_X6_bookAt : GoodIn wsX6_book wsX6_bookAt := goodIn_r _ [23] (by decide +kernel) (by decide +kernel)
set_option maxRecDepth 20000 in
theorem gX6_book_X6_bookAt : GoodIn wsX6_book (va_wsS RX6 163 yX6_bookAt wsX6_bookAt) := goodIn_app (goodIn_of _ (by decide +kernel)) ggX6_book_X6_bookAt
theorem dX6_book_0 : decode cX6_book 0 = .ok (.iload_n 1, 1) := by decide +kernel
theorem dX6_book_1 : decode cX6_book 1 = .ok (.ifCond .lt 13, 3) := by decide +kernel
theorem dX6_book_4 : decode cX6_book 4 = .ok (.iload_n 2, 1) := by decide +kernel
theorem dX6_book_5 : decode cX6_book 5 = .ok (.iconst 0, 1) := by decide +kernel
theorem dX6_book_6 : decode cX6_book 6 = .ok (.bipush 6, 2) := by decide +kernel
theorem dX6_book_8 : decode cX6_book 8 = .ok (.invokestatic 69, 3) := by decide +kernel
theorem dX6_book_11 : decode cX6_book 11 = .ok (.ifCond .ne 10, 3) := by decide +kernel
theorem dX6_book_14 : decode cX6_book 14 = .ok (.aload_n 0, 1) := by decide +kernel
theorem dX6_book_15 : decode cX6_book 15 = .ok (.ldc 64, 2) := by decide +kernel
theorem dX6_book_17 : decode cX6_book 17 = .ok (.invokevirtual 83, 3) := by decide +kernel
theorem dX6_book_20 : decode cX6_book 20 = .ok (.ireturn, 1) := by decide +kernel
theorem dX6_book_21 : decode cX6_book 21 = .ok (.iload_n 1, 1) := by decide +kernel
theorem dX6_book_22 : decode cX6_book 22 = .ok (.aload_n 0, 1) := by decide +kernel
theorem dX6_book_23 : decode cX6_book 23 = .ok (.invokevirtual 221, 3) := by decide +kernel
theorem dX6_book_26 : decode cX6_book 26 = .ok (.if_icmp .lt 10, 3) := by decide +kernel
theorem dX6_book_29 : decode cX6_book 29 = .ok (.aload_n 0, 1) := by decide +kernel
theorem dX6_book_30 : decode cX6_book 30 = .ok (.ldc 147, 2) := by decide +kernel
theorem dX6_book_32 : decode cX6_book 32 = .ok (.invokevirtual 83, 3) := by decide +kernel
theorem dX6_book_35 : decode cX6_book 35 = .ok (.ireturn, 1) := by decide +kernel
theorem dX6_book_36 : decode cX6_book 36 = .ok (.aload_n 0, 1) := by decide +kernel
theorem dX6_book_37 : decode cX6_book 37 = .ok (.getfield 9, 3) := by decide +kernel
theorem dX6_book_40 : decode cX6_book 40 = .ok (.iconst 0, 1) := by decide +kernel
theorem dX6_book_41 : decode cX6_book 41 = .ok (.iaload, 1) := by decide +kernel
theorem dX6_book_42 : decode cX6_book 42 = .ok (.iconst 1, 1) := by decide +kernel
theorem dX6_book_43 : decode cX6_book 43 = .ok (.isub, 1) := by decide +kernel
theorem dX6_book_44 : decode cX6_book 44 = .ok (.iload_n 1, 1) := by decide +kernel
theorem dX6_book_45 : decode cX6_book 45 = .ok (.isub, 1) := by decide +kernel
theorem dX6_book_46 : decode cX6_book 46 = .ok (.istore_n 3, 1) := by decide +kernel
theorem dX6_book_47 : decode cX6_book 47 = .ok (.iload_n 3, 1) := by decide +kernel
theorem dX6_book_48 : decode cX6_book 48 = .ok (.iconst 2, 1) := by decide +kernel
theorem dX6_book_49 : decode cX6_book 49 = .ok (.irem, 1) := by decide +kernel
theorem dX6_book_50 : decode cX6_book 50 = .ok (.istore 4, 2) := by decide +kernel
theorem dX6_book_52 : decode cX6_book 52 = .ok (.iload_n 2, 1) := by decide +kernel
theorem dX6_book_53 : decode cX6_book 53 = .ok (.ifCond .ne 16, 3) := by decide +kernel
theorem dX6_book_56 : decode cX6_book 56 = .ok (.aload_n 0, 1) := by decide +kernel
theorem dX6_book_57 : decode cX6_book 57 = .ok (.getfield 9, 3) := by decide +kernel
theorem dX6_book_60 : decode cX6_book 60 = .ok (.iload_n 3, 1) := by decide +kernel
theorem dX6_book_61 : decode cX6_book 61 = .ok (.iconst 0, 1) := by decide +kernel
theorem dX6_book_62 : decode cX6_book 62 = .ok (.invokestatic 163, 3) := by decide +kernel
theorem dX6_book_65 : decode cX6_book 65 = .ok (.iaload, 1) := by decide +kernel
theorem dX6_book_66 : decode cX6_book 66 = .ok (.goto 32, 3) := by decide +kernel
theorem dX6_book_69 : decode cX6_book 69 = .ok (.iload_n 2, 1) := by decide +kernel
theorem dX6_book_70 : decode cX6_book 70 = .ok (.iconst 1, 1) := by decide +kernel
theorem dX6_book_71 : decode cX6_book 71 = .ok (.if_icmp .ne 8, 3) := by decide +kernel
theorem dX6_book_74 : decode cX6_book 74 = .ok (.iload 4, 2) := by decide +kernel
theorem dX6_book_76 : decode cX6_book 76 = .ok (.goto 22, 3) := by decide +kernel
theorem dX6_book_79 : decode cX6_book 79 = .ok (.aload_n 0, 1) := by decide +kernel
theorem dX6_book_80 : decode cX6_book 80 = .ok (.getfield 9, 3) := by decide +kernel
theorem dX6_book_83 : decode cX6_book 83 = .ok (.iload_n 3, 1) := by decide +kernel
theorem dX6_book_84 : decode cX6_book 84 = .ok (.iconst 3, 1) := by decide +kernel
theorem dX6_book_85 : decode cX6_book 85 = .ok (.iconst 5, 1) := by decide +kernel
theorem dX6_book_86 : decode cX6_book 86 = .ok (.iload 4, 2) := by decide +kernel
theorem dX6_book_88 : decode cX6_book 88 = .ok (.imul, 1) := by decide +kernel
theorem dX6_book_89 : decode cX6_book 89 = .ok (.iadd, 1) := by decide +kernel
theorem dX6_book_90 : decode cX6_book 90 = .ok (.iload_n 2, 1) := by decide +kernel
theorem dX6_book_91 : decode cX6_book 91 = .ok (.iadd, 1) := by decide +kernel
theorem dX6_book_92 : decode cX6_book 92 = .ok (.iconst 2, 1) := by decide +kernel
theorem dX6_book_93 : decode cX6_book 93 = .ok (.isub, 1) := by decide +kernel
theorem dX6_book_94 : decode cX6_book 94 = .ok (.invokestatic 163, 3) := by decide +kernel
theorem dX6_book_97 : decode cX6_book 97 = .ok (.iaload, 1) := by decide +kernel
theorem dX6_book_98 : decode cX6_book 98 = .ok (.ireturn, 1) := by decide +kernel
set_option maxRecDepth 20000 in
theorem ggX6_wouldHaveDone_X6_bookAt : GoodIn wsX6_wouldHaveDone wsX6_bookAt := goodIn_r _ [5] (by decide +kernel) (by decide +kernel)
set_option maxRecDepth 20000 in
theorem gX6_wouldHaveDone_X6_bookAt : GoodIn wsX6_wouldHaveDone (va_wsS RX6 163 yX6_bookAt wsX6_bookAt) := goodIn_app (goodIn_of _ (by decide +kernel)) ggX6_wouldHaveDone_X6_bookAt
set_option maxRecDepth 20000 in
theorem ggX6_wouldHaveDone_X6_sideIs : GoodIn wsX6_wouldHaveDone wsX6_sideIs := goodIn_r _ [9, 1, 10, 11, 4, 12, 23, 24, 25, 26, 27, 28, 29, 30, 31, 32, 33, 34, 35, 36, 37, 38, 39, 40, 41, 42, 43, 44] (by decide +kernel) (by decide +kernel)
set_option maxRecDepth 20000 in
theorem gX6_wouldHaveDone_X6_sideIs : GoodIn wsX6_wouldHaveDone (wsV RX6 93 RX6 yX6_sideIs wsX6_sideIs) := goodIn_app (goodIn_of _ (by decide +kernel)) ggX6_wouldHaveDone_X6_sideIs
set_option maxRecDepth 20000 in
theorem ggX6_wouldHaveDone_X6_priceBy : GoodIn wsX6_wouldHaveDone wsX6_priceBy := goodIn_r _ [16, 1, 17, 18, 4, 19, 20, 21, 22, 23, 24, 25, 26, 27, 28, 29, 30, 31, 32, 33, 34, 35, 36, 37, 38, 39, 40, 41, 42, 43, 44] (by decide +kernel) (by decide +kernel)
set_option maxRecDepth 20000 in
theorem gX6_wouldHaveDone_X6_priceBy : GoodIn wsX6_wouldHaveDone (wsV RX6 103 RX6 yX6_priceBy wsX6_priceBy) := goodIn_app (goodIn_of _ (by decide +kernel)) ggX6_wouldHaveDone_X6_priceBy
theorem dX6_wouldHaveDone_0 : decode cX6_wouldHaveDone 0 = .ok (.iconst 0, 1) := by decide +kernel
theorem dX6_wouldHaveDone_1 : decode cX6_wouldHaveDone 1 = .ok (.istore_n 3, 1) := by decide +kernel
theorem dX6_wouldHaveDone_2 : decode cX6_wouldHaveDone 2 = .ok (.iconst 0, 1) := by decide +kernel
theorem dX6_wouldHaveDone_3 : decode cX6_wouldHaveDone 3 = .ok (.istore 4, 2) := by decide +kernel
theorem dX6_wouldHaveDone_5 : decode cX6_wouldHaveDone 5 = .ok (.iconst 0, 1) := by decide +kernel
theorem dX6_wouldHaveDone_6 : decode cX6_wouldHaveDone 6 = .ok (.istore 5, 2) := by decide +kernel
theorem dX6_wouldHaveDone_8 : decode cX6_wouldHaveDone 8 = .ok (.iconst 0, 1) := by decide +kernel
theorem dX6_wouldHaveDone_9 : decode cX6_wouldHaveDone 9 = .ok (.istore 6, 2) := by decide +kernel
theorem dX6_wouldHaveDone_11 : decode cX6_wouldHaveDone 11 = .ok (.aload_n 0, 1) := by decide +kernel
theorem dX6_wouldHaveDone_12 : decode cX6_wouldHaveDone 12 = .ok (.getfield 9, 3) := by decide +kernel
theorem dX6_wouldHaveDone_15 : decode cX6_wouldHaveDone 15 = .ok (.iload_n 2, 1) := by decide +kernel
theorem dX6_wouldHaveDone_16 : decode cX6_wouldHaveDone 16 = .ok (.iconst 1, 1) := by decide +kernel
theorem dX6_wouldHaveDone_17 : decode cX6_wouldHaveDone 17 = .ok (.invokestatic 163, 3) := by decide +kernel
theorem dX6_wouldHaveDone_20 : decode cX6_wouldHaveDone 20 = .ok (.iaload, 1) := by decide +kernel
theorem dX6_wouldHaveDone_21 : decode cX6_wouldHaveDone 21 = .ok (.istore 7, 2) := by decide +kernel
theorem dX6_wouldHaveDone_23 : decode cX6_wouldHaveDone 23 = .ok (.iconst 0, 1) := by decide +kernel
theorem dX6_wouldHaveDone_24 : decode cX6_wouldHaveDone 24 = .ok (.istore 8, 2) := by decide +kernel
theorem dX6_wouldHaveDone_26 : decode cX6_wouldHaveDone 26 = .ok (.iload 8, 2) := by decide +kernel
theorem dX6_wouldHaveDone_28 : decode cX6_wouldHaveDone 28 = .ok (.iconst 5, 1) := by decide +kernel
theorem dX6_wouldHaveDone_29 : decode cX6_wouldHaveDone 29 = .ok (.if_icmp .ge 107, 3) := by decide +kernel
theorem dX6_wouldHaveDone_32 : decode cX6_wouldHaveDone 32 = .ok (.aload_n 0, 1) := by decide +kernel
theorem dX6_wouldHaveDone_33 : decode cX6_wouldHaveDone 33 = .ok (.iload_n 1, 1) := by decide +kernel
theorem dX6_wouldHaveDone_34 : decode cX6_wouldHaveDone 34 = .ok (.bipush 12, 2) := by decide +kernel
theorem dX6_wouldHaveDone_36 : decode cX6_wouldHaveDone 36 = .ok (.iload 8, 2) := by decide +kernel
theorem dX6_wouldHaveDone_38 : decode cX6_wouldHaveDone 38 = .ok (.iadd, 1) := by decide +kernel
theorem dX6_wouldHaveDone_39 : decode cX6_wouldHaveDone 39 = .ok (.invokevirtual 93, 3) := by decide +kernel
theorem dX6_wouldHaveDone_42 : decode cX6_wouldHaveDone 42 = .ok (.istore 9, 2) := by decide +kernel
theorem dX6_wouldHaveDone_44 : decode cX6_wouldHaveDone 44 = .ok (.aload_n 0, 1) := by decide +kernel
theorem dX6_wouldHaveDone_45 : decode cX6_wouldHaveDone 45 = .ok (.getfield 9, 3) := by decide +kernel
theorem dX6_wouldHaveDone_48 : decode cX6_wouldHaveDone 48 = .ok (.iload_n 2, 1) := by decide +kernel
theorem dX6_wouldHaveDone_49 : decode cX6_wouldHaveDone 49 = .ok (.iconst 3, 1) := by decide +kernel
theorem dX6_wouldHaveDone_50 : decode cX6_wouldHaveDone 50 = .ok (.iconst 5, 1) := by decide +kernel
theorem dX6_wouldHaveDone_51 : decode cX6_wouldHaveDone 51 = .ok (.iload_n 1, 1) := by decide +kernel
theorem dX6_wouldHaveDone_52 : decode cX6_wouldHaveDone 52 = .ok (.imul, 1) := by decide +kernel
theorem dX6_wouldHaveDone_53 : decode cX6_wouldHaveDone 53 = .ok (.iadd, 1) := by decide +kernel
theorem dX6_wouldHaveDone_54 : decode cX6_wouldHaveDone 54 = .ok (.iload 8, 2) := by decide +kernel
theorem dX6_wouldHaveDone_56 : decode cX6_wouldHaveDone 56 = .ok (.iadd, 1) := by decide +kernel
theorem dX6_wouldHaveDone_57 : decode cX6_wouldHaveDone 57 = .ok (.invokestatic 163, 3) := by decide +kernel
theorem dX6_wouldHaveDone_60 : decode cX6_wouldHaveDone 60 = .ok (.iaload, 1) := by decide +kernel
theorem dX6_wouldHaveDone_61 : decode cX6_wouldHaveDone 61 = .ok (.istore 10, 2) := by decide +kernel
theorem dX6_wouldHaveDone_63 : decode cX6_wouldHaveDone 63 = .ok (.aload_n 0, 1) := by decide +kernel
theorem dX6_wouldHaveDone_64 : decode cX6_wouldHaveDone 64 = .ok (.getfield 9, 3) := by decide +kernel
theorem dX6_wouldHaveDone_67 : decode cX6_wouldHaveDone 67 = .ok (.iload_n 2, 1) := by decide +kernel
theorem dX6_wouldHaveDone_68 : decode cX6_wouldHaveDone 68 = .ok (.iconst 3, 1) := by decide +kernel
theorem dX6_wouldHaveDone_69 : decode cX6_wouldHaveDone 69 = .ok (.iconst 5, 1) := by decide +kernel
theorem dX6_wouldHaveDone_70 : decode cX6_wouldHaveDone 70 = .ok (.iconst 1, 1) := by decide +kernel
theorem dX6_wouldHaveDone_71 : decode cX6_wouldHaveDone 71 = .ok (.iload_n 1, 1) := by decide +kernel
theorem dX6_wouldHaveDone_72 : decode cX6_wouldHaveDone 72 = .ok (.isub, 1) := by decide +kernel
theorem dX6_wouldHaveDone_73 : decode cX6_wouldHaveDone 73 = .ok (.imul, 1) := by decide +kernel
theorem dX6_wouldHaveDone_74 : decode cX6_wouldHaveDone 74 = .ok (.iadd, 1) := by decide +kernel
theorem dX6_wouldHaveDone_75 : decode cX6_wouldHaveDone 75 = .ok (.iload 8, 2) := by decide +kernel
theorem dX6_wouldHaveDone_77 : decode cX6_wouldHaveDone 77 = .ok (.iadd, 1) := by decide +kernel
theorem dX6_wouldHaveDone_78 : decode cX6_wouldHaveDone 78 = .ok (.invokestatic 163, 3) := by decide +kernel
theorem dX6_wouldHaveDone_81 : decode cX6_wouldHaveDone 81 = .ok (.iaload, 1) := by decide +kernel
theorem dX6_wouldHaveDone_82 : decode cX6_wouldHaveDone 82 = .ok (.istore 11, 2) := by decide +kernel
theorem dX6_wouldHaveDone_84 : decode cX6_wouldHaveDone 84 = .ok (.iload_n 3, 1) := by decide +kernel
theorem dX6_wouldHaveDone_85 : decode cX6_wouldHaveDone 85 = .ok (.aload_n 0, 1) := by decide +kernel
theorem dX6_wouldHaveDone_86 : decode cX6_wouldHaveDone 86 = .ok (.iload 8, 2) := by decide +kernel
theorem dX6_wouldHaveDone_88 : decode cX6_wouldHaveDone 88 = .ok (.iload 10, 2) := by decide +kernel
theorem dX6_wouldHaveDone_90 : decode cX6_wouldHaveDone 90 = .ok (.iload 9, 2) := by decide +kernel
theorem dX6_wouldHaveDone_92 : decode cX6_wouldHaveDone 92 = .ok (.iload 7, 2) := by decide +kernel
theorem dX6_wouldHaveDone_94 : decode cX6_wouldHaveDone 94 = .ok (.invokevirtual 103, 3) := by decide +kernel
theorem dX6_wouldHaveDone_97 : decode cX6_wouldHaveDone 97 = .ok (.iadd, 1) := by decide +kernel
theorem dX6_wouldHaveDone_98 : decode cX6_wouldHaveDone 98 = .ok (.istore_n 3, 1) := by decide +kernel
theorem dX6_wouldHaveDone_99 : decode cX6_wouldHaveDone 99 = .ok (.iload 4, 2) := by decide +kernel
theorem dX6_wouldHaveDone_101 : decode cX6_wouldHaveDone 101 = .ok (.aload_n 0, 1) := by decide +kernel
theorem dX6_wouldHaveDone_102 : decode cX6_wouldHaveDone 102 = .ok (.iload 8, 2) := by decide +kernel
theorem dX6_wouldHaveDone_104 : decode cX6_wouldHaveDone 104 = .ok (.iload 11, 2) := by decide +kernel
theorem dX6_wouldHaveDone_106 : decode cX6_wouldHaveDone 106 = .ok (.iload 9, 2) := by decide +kernel
theorem dX6_wouldHaveDone_108 : decode cX6_wouldHaveDone 108 = .ok (.iload 7, 2) := by decide +kernel
theorem dX6_wouldHaveDone_110 : decode cX6_wouldHaveDone 110 = .ok (.invokevirtual 103, 3) := by decide +kernel
theorem dX6_wouldHaveDone_113 : decode cX6_wouldHaveDone 113 = .ok (.iadd, 1) := by decide +kernel
theorem dX6_wouldHaveDone_114 : decode cX6_wouldHaveDone 114 = .ok (.istore 4, 2) := by decide +kernel
theorem dX6_wouldHaveDone_116 : decode cX6_wouldHaveDone 116 = .ok (.iload 5, 2) := by decide +kernel
theorem dX6_wouldHaveDone_118 : decode cX6_wouldHaveDone 118 = .ok (.iload 10, 2) := by decide +kernel
theorem dX6_wouldHaveDone_120 : decode cX6_wouldHaveDone 120 = .ok (.iadd, 1) := by decide +kernel
theorem dX6_wouldHaveDone_121 : decode cX6_wouldHaveDone 121 = .ok (.istore 5, 2) := by decide +kernel
theorem dX6_wouldHaveDone_123 : decode cX6_wouldHaveDone 123 = .ok (.iload 6, 2) := by decide +kernel
theorem dX6_wouldHaveDone_125 : decode cX6_wouldHaveDone 125 = .ok (.iload 11, 2) := by decide +kernel
theorem dX6_wouldHaveDone_127 : decode cX6_wouldHaveDone 127 = .ok (.iadd, 1) := by decide +kernel
theorem dX6_wouldHaveDone_128 : decode cX6_wouldHaveDone 128 = .ok (.istore 6, 2) := by decide +kernel
theorem dX6_wouldHaveDone_130 : decode cX6_wouldHaveDone 130 = .ok (.iinc 8 1, 3) := by decide +kernel
theorem dX6_wouldHaveDone_133 : decode cX6_wouldHaveDone 133 = .ok (.goto (-107), 3) := by decide +kernel
theorem dX6_wouldHaveDone_136 : decode cX6_wouldHaveDone 136 = .ok (.iload 6, 2) := by decide +kernel
theorem dX6_wouldHaveDone_138 : decode cX6_wouldHaveDone 138 = .ok (.ifCond .le 20, 3) := by decide +kernel
theorem dX6_wouldHaveDone_141 : decode cX6_wouldHaveDone 141 = .ok (.iload 4, 2) := by decide +kernel
theorem dX6_wouldHaveDone_143 : decode cX6_wouldHaveDone 143 = .ok (.iload_n 3, 1) := by decide +kernel
theorem dX6_wouldHaveDone_144 : decode cX6_wouldHaveDone 144 = .ok (.aload_n 0, 1) := by decide +kernel
theorem dX6_wouldHaveDone_145 : decode cX6_wouldHaveDone 145 = .ok (.iload_n 1, 1) := by decide +kernel
theorem dX6_wouldHaveDone_146 : decode cX6_wouldHaveDone 146 = .ok (.iconst 0, 1) := by decide +kernel
theorem dX6_wouldHaveDone_147 : decode cX6_wouldHaveDone 147 = .ok (.invokevirtual 93, 3) := by decide +kernel
theorem dX6_wouldHaveDone_150 : decode cX6_wouldHaveDone 150 = .ok (.iadd, 1) := by decide +kernel
theorem dX6_wouldHaveDone_151 : decode cX6_wouldHaveDone 151 = .ok (.if_icmp .lt 7, 3) := by decide +kernel
theorem dX6_wouldHaveDone_154 : decode cX6_wouldHaveDone 154 = .ok (.iconst 1, 1) := by decide +kernel
theorem dX6_wouldHaveDone_155 : decode cX6_wouldHaveDone 155 = .ok (.goto 13, 3) := by decide +kernel
theorem dX6_wouldHaveDone_158 : decode cX6_wouldHaveDone 158 = .ok (.iload 5, 2) := by decide +kernel
theorem dX6_wouldHaveDone_160 : decode cX6_wouldHaveDone 160 = .ok (.ifCond .le 7, 3) := by decide +kernel
theorem dX6_wouldHaveDone_163 : decode cX6_wouldHaveDone 163 = .ok (.iconst 2, 1) := by decide +kernel
theorem dX6_wouldHaveDone_164 : decode cX6_wouldHaveDone 164 = .ok (.goto 4, 3) := by decide +kernel
theorem dX6_wouldHaveDone_167 : decode cX6_wouldHaveDone 167 = .ok (.iconst 0, 1) := by decide +kernel
theorem dX6_wouldHaveDone_168 : decode cX6_wouldHaveDone 168 = .ok (.ireturn, 1) := by decide +kernel
set_option maxRecDepth 20000 in
theorem ggX6_allFits_X6_booked : GoodIn wsX6_allFits wsX6_booked := goodIn_r _ [6, 1, 7, 8, 9, 10, 35, 36, 37, 38, 39, 40, 41, 42, 43, 44, 45, 46, 47, 48, 49, 50, 51, 52, 53, 54, 55, 56] (by decide +kernel) (by decide +kernel)
set_option maxRecDepth 20000 in
theorem gX6_allFits_X6_booked : GoodIn wsX6_allFits (wsV RX6 221 RX6 yX6_booked wsX6_booked) := goodIn_app (goodIn_of _ (by decide +kernel)) ggX6_allFits_X6_booked
set_option maxRecDepth 20000 in
theorem ggX6_allFits_X6_bookAt : GoodIn wsX6_allFits wsX6_bookAt := goodIn_r _ [13] (by decide +kernel) (by decide +kernel)
set_option maxRecDepth 20000 in
theorem gX6_allFits_X6_bookAt : GoodIn wsX6_allFits (va_wsS RX6 163 yX6_bookAt wsX6_bookAt) := goodIn_app (goodIn_of _ (by decide +kernel)) ggX6_allFits_X6_bookAt
set_option maxRecDepth 20000 in
theorem ggX6_allFits_X6_wouldHaveDone : GoodIn wsX6_allFits wsX6_wouldHaveDone := goodIn_r _ [17, 1, 11, 12, 5, 13, 18, 19, 20, 21, 22, 23, 24, 25, 26, 27, 28, 29, 30, 31, 32, 33, 34, 35, 36, 37, 38, 39, 40, 41, 42, 43, 44, 45, 46, 47, 48, 49, 50, 51, 52, 53, 54, 55, 56] (by decide +kernel) (by decide +kernel)
set_option maxRecDepth 20000 in
theorem gX6_allFits_X6_wouldHaveDone : GoodIn wsX6_allFits (wsV RX6 224 RX6 yX6_wouldHaveDone wsX6_wouldHaveDone) := goodIn_app (goodIn_of _ (by decide +kernel)) ggX6_allFits_X6_wouldHaveDone
theorem dX6_allFits_0 : decode cX6_allFits 0 = .ok (.iconst 1, 1) := by decide +kernel
theorem dX6_allFits_1 : decode cX6_allFits 1 = .ok (.istore_n 2, 1) := by decide +kernel
theorem dX6_allFits_2 : decode cX6_allFits 2 = .ok (.iconst 0, 1) := by decide +kernel
theorem dX6_allFits_3 : decode cX6_allFits 3 = .ok (.istore_n 3, 1) := by decide +kernel
theorem dX6_allFits_4 : decode cX6_allFits 4 = .ok (.iload_n 3, 1) := by decide +kernel
theorem dX6_allFits_5 : decode cX6_allFits 5 = .ok (.aload_n 0, 1) := by decide +kernel
theorem dX6_allFits_6 : decode cX6_allFits 6 = .ok (.invokevirtual 221, 3) := by decide +kernel
theorem dX6_allFits_9 : decode cX6_allFits 9 = .ok (.if_icmp .ge 86, 3) := by decide +kernel
theorem dX6_allFits_12 : decode cX6_allFits 12 = .ok (.aload_n 0, 1) := by decide +kernel
theorem dX6_allFits_13 : decode cX6_allFits 13 = .ok (.getfield 9, 3) := by decide +kernel
theorem dX6_allFits_16 : decode cX6_allFits 16 = .ok (.iconst 0, 1) := by decide +kernel
theorem dX6_allFits_17 : decode cX6_allFits 17 = .ok (.iaload, 1) := by decide +kernel
theorem dX6_allFits_18 : decode cX6_allFits 18 = .ok (.iconst 1, 1) := by decide +kernel
theorem dX6_allFits_19 : decode cX6_allFits 19 = .ok (.isub, 1) := by decide +kernel
theorem dX6_allFits_20 : decode cX6_allFits 20 = .ok (.iload_n 3, 1) := by decide +kernel
theorem dX6_allFits_21 : decode cX6_allFits 21 = .ok (.isub, 1) := by decide +kernel
theorem dX6_allFits_22 : decode cX6_allFits 22 = .ok (.istore 4, 2) := by decide +kernel
theorem dX6_allFits_24 : decode cX6_allFits 24 = .ok (.iload 4, 2) := by decide +kernel
theorem dX6_allFits_26 : decode cX6_allFits 26 = .ok (.iconst 2, 1) := by decide +kernel
theorem dX6_allFits_27 : decode cX6_allFits 27 = .ok (.irem, 1) := by decide +kernel
theorem dX6_allFits_28 : decode cX6_allFits 28 = .ok (.iload_n 1, 1) := by decide +kernel
theorem dX6_allFits_29 : decode cX6_allFits 29 = .ok (.if_icmp .ne 21, 3) := by decide +kernel
theorem dX6_allFits_32 : decode cX6_allFits 32 = .ok (.aload_n 0, 1) := by decide +kernel
theorem dX6_allFits_33 : decode cX6_allFits 33 = .ok (.getfield 9, 3) := by decide +kernel
theorem dX6_allFits_36 : decode cX6_allFits 36 = .ok (.iload 4, 2) := by decide +kernel
theorem dX6_allFits_38 : decode cX6_allFits 38 = .ok (.iconst 2, 1) := by decide +kernel
theorem dX6_allFits_39 : decode cX6_allFits 39 = .ok (.invokestatic 163, 3) := by decide +kernel
theorem dX6_allFits_42 : decode cX6_allFits 42 = .ok (.iaload, 1) := by decide +kernel
theorem dX6_allFits_43 : decode cX6_allFits 43 = .ok (.ifCond .le 7, 3) := by decide +kernel
theorem dX6_allFits_46 : decode cX6_allFits 46 = .ok (.iconst 1, 1) := by decide +kernel
theorem dX6_allFits_47 : decode cX6_allFits 47 = .ok (.goto 4, 3) := by decide +kernel
theorem dX6_allFits_50 : decode cX6_allFits 50 = .ok (.iconst 0, 1) := by decide +kernel
theorem dX6_allFits_51 : decode cX6_allFits 51 = .ok (.istore 5, 2) := by decide +kernel
theorem dX6_allFits_53 : decode cX6_allFits 53 = .ok (.iload_n 2, 1) := by decide +kernel
theorem dX6_allFits_54 : decode cX6_allFits 54 = .ok (.ifCond .eq 33, 3) := by decide +kernel
theorem dX6_allFits_57 : decode cX6_allFits 57 = .ok (.iload 5, 2) := by decide +kernel
theorem dX6_allFits_59 : decode cX6_allFits 59 = .ok (.ifCond .eq 24, 3) := by decide +kernel
theorem dX6_allFits_62 : decode cX6_allFits 62 = .ok (.aload_n 0, 1) := by decide +kernel
theorem dX6_allFits_63 : decode cX6_allFits 63 = .ok (.iload_n 1, 1) := by decide +kernel
theorem dX6_allFits_64 : decode cX6_allFits 64 = .ok (.iload 4, 2) := by decide +kernel
theorem dX6_allFits_66 : decode cX6_allFits 66 = .ok (.invokevirtual 224, 3) := by decide +kernel
theorem dX6_allFits_69 : decode cX6_allFits 69 = .ok (.aload_n 0, 1) := by decide +kernel
theorem dX6_allFits_70 : decode cX6_allFits 70 = .ok (.getfield 9, 3) := by decide +kernel
theorem dX6_allFits_73 : decode cX6_allFits 73 = .ok (.iload 4, 2) := by decide +kernel
theorem dX6_allFits_75 : decode cX6_allFits 75 = .ok (.iconst 0, 1) := by decide +kernel
theorem dX6_allFits_76 : decode cX6_allFits 76 = .ok (.invokestatic 163, 3) := by decide +kernel
theorem dX6_allFits_79 : decode cX6_allFits 79 = .ok (.iaload, 1) := by decide +kernel
theorem dX6_allFits_80 : decode cX6_allFits 80 = .ok (.if_icmp .ne 7, 3) := by decide +kernel
theorem dX6_allFits_83 : decode cX6_allFits 83 = .ok (.iconst 1, 1) := by decide +kernel
theorem dX6_allFits_84 : decode cX6_allFits 84 = .ok (.goto 4, 3) := by decide +kernel
theorem dX6_allFits_87 : decode cX6_allFits 87 = .ok (.iconst 0, 1) := by decide +kernel
theorem dX6_allFits_88 : decode cX6_allFits 88 = .ok (.istore_n 2, 1) := by decide +kernel
theorem dX6_allFits_89 : decode cX6_allFits 89 = .ok (.iinc 3 1, 3) := by decide +kernel
theorem dX6_allFits_92 : decode cX6_allFits 92 = .ok (.goto (-88), 3) := by decide +kernel
theorem dX6_allFits_95 : decode cX6_allFits 95 = .ok (.iload_n 2, 1) := by decide +kernel
theorem dX6_allFits_96 : decode cX6_allFits 96 = .ok (.ireturn, 1) := by decide +kernel
set_option maxRecDepth 20000 in
theorem ggX6_fitting_X6_allFits : GoodIn wsX6_fitting wsX6_allFits := goodIn_r _ [6, 1, 7, 8, 9, 5, 10, 11, 12, 13, 14, 15, 16, 17, 18, 19, 20, 21, 22, 23, 24, 25, 26, 27, 28, 29, 30, 31, 32, 33, 34, 35, 36, 37, 38, 39, 40, 41, 42, 43, 44, 45, 46, 47, 48, 49, 50, 51, 52, 53, 54, 55, 56, 57, 58, 59, 60] (by decide +kernel) (by decide +kernel)
set_option maxRecDepth 20000 in
theorem gX6_fitting_X6_allFits : GoodIn wsX6_fitting (wsV RX6 227 RX6 yX6_allFits wsX6_allFits) := goodIn_app (goodIn_of _ (by decide +kernel)) ggX6_fitting_X6_allFits
theorem dX6_fitting_0 : decode cX6_fitting 0 = .ok (.aload_n 0, 1) := by decide +kernel
theorem dX6_fitting_1 : decode cX6_fitting 1 = .ok (.getfield 9, 3) := by decide +kernel
theorem dX6_fitting_4 : decode cX6_fitting 4 = .ok (.iload_n 2, 1) := by decide +kernel
theorem dX6_fitting_5 : decode cX6_fitting 5 = .ok (.iaload, 1) := by decide +kernel
theorem dX6_fitting_6 : decode cX6_fitting 6 = .ok (.istore 4, 2) := by decide +kernel
theorem dX6_fitting_8 : decode cX6_fitting 8 = .ok (.iconst 0, 1) := by decide +kernel
theorem dX6_fitting_9 : decode cX6_fitting 9 = .ok (.istore 5, 2) := by decide +kernel
theorem dX6_fitting_11 : decode cX6_fitting 11 = .ok (.iconst 0, 1) := by decide +kernel
theorem dX6_fitting_12 : decode cX6_fitting 12 = .ok (.istore 6, 2) := by decide +kernel
theorem dX6_fitting_14 : decode cX6_fitting 14 = .ok (.iload 6, 2) := by decide +kernel
theorem dX6_fitting_16 : decode cX6_fitting 16 = .ok (.iload_n 3, 1) := by decide +kernel
theorem dX6_fitting_17 : decode cX6_fitting 17 = .ok (.if_icmp .gt 38, 3) := by decide +kernel
theorem dX6_fitting_20 : decode cX6_fitting 20 = .ok (.aload_n 0, 1) := by decide +kernel
theorem dX6_fitting_21 : decode cX6_fitting 21 = .ok (.getfield 9, 3) := by decide +kernel
theorem dX6_fitting_24 : decode cX6_fitting 24 = .ok (.iload_n 2, 1) := by decide +kernel
theorem dX6_fitting_25 : decode cX6_fitting 25 = .ok (.iload 6, 2) := by decide +kernel
theorem dX6_fitting_27 : decode cX6_fitting 27 = .ok (.iastore, 1) := by decide +kernel
theorem dX6_fitting_28 : decode cX6_fitting 28 = .ok (.iload 5, 2) := by decide +kernel
theorem dX6_fitting_30 : decode cX6_fitting 30 = .ok (.aload_n 0, 1) := by decide +kernel
theorem dX6_fitting_31 : decode cX6_fitting 31 = .ok (.iload_n 1, 1) := by decide +kernel
theorem dX6_fitting_32 : decode cX6_fitting 32 = .ok (.invokevirtual 227, 3) := by decide +kernel
theorem dX6_fitting_35 : decode cX6_fitting 35 = .ok (.ifCond .eq 10, 3) := by decide +kernel
theorem dX6_fitting_38 : decode cX6_fitting 38 = .ok (.iconst 1, 1) := by decide +kernel
theorem dX6_fitting_39 : decode cX6_fitting 39 = .ok (.iload 6, 2) := by decide +kernel
theorem dX6_fitting_41 : decode cX6_fitting 41 = .ok (.ishl, 1) := by decide +kernel
theorem dX6_fitting_42 : decode cX6_fitting 42 = .ok (.goto 4, 3) := by decide +kernel
theorem dX6_fitting_45 : decode cX6_fitting 45 = .ok (.iconst 0, 1) := by decide +kernel
theorem dX6_fitting_46 : decode cX6_fitting 46 = .ok (.ior, 1) := by decide +kernel
theorem dX6_fitting_47 : decode cX6_fitting 47 = .ok (.istore 5, 2) := by decide +kernel
theorem dX6_fitting_49 : decode cX6_fitting 49 = .ok (.iinc 6 1, 3) := by decide +kernel
theorem dX6_fitting_52 : decode cX6_fitting 52 = .ok (.goto (-38), 3) := by decide +kernel
theorem dX6_fitting_55 : decode cX6_fitting 55 = .ok (.aload_n 0, 1) := by decide +kernel
theorem dX6_fitting_56 : decode cX6_fitting 56 = .ok (.getfield 9, 3) := by decide +kernel
theorem dX6_fitting_59 : decode cX6_fitting 59 = .ok (.iload_n 2, 1) := by decide +kernel
theorem dX6_fitting_60 : decode cX6_fitting 60 = .ok (.iload 4, 2) := by decide +kernel
theorem dX6_fitting_62 : decode cX6_fitting 62 = .ok (.iastore, 1) := by decide +kernel
theorem dX6_fitting_63 : decode cX6_fitting 63 = .ok (.iload 5, 2) := by decide +kernel
theorem dX6_fitting_65 : decode cX6_fitting 65 = .ok (.ireturn, 1) := by decide +kernel
set_option maxRecDepth 20000 in
theorem ggX6_fits_X6_isSide : GoodIn wsX6_fits wsX6_isSide := goodIn_r _ [5, 6, 7, 4, 8] (by decide +kernel) (by decide +kernel)
set_option maxRecDepth 20000 in
theorem gX6_fits_X6_isSide : GoodIn wsX6_fits (va_wsS RX6 87 yX6_isSide wsX6_isSide) := goodIn_app (goodIn_of _ (by decide +kernel)) ggX6_fits_X6_isSide
set_option maxRecDepth 20000 in
theorem ggX6_fits_X6_isThing : GoodIn wsX6_fits wsX6_isThing := goodIn_r _ [11, 6, 7, 4, 8] (by decide +kernel) (by decide +kernel)
set_option maxRecDepth 20000 in
theorem gX6_fits_X6_isThing : GoodIn wsX6_fits (va_wsS RX6 73 yX6_isThing wsX6_isThing) := goodIn_app (goodIn_of _ (by decide +kernel)) ggX6_fits_X6_isThing
set_option maxRecDepth 20000 in
theorem ggX6_fits_X6_at : GoodIn wsX6_fits wsX6_at := goodIn_r _ [14] (by decide +kernel) (by decide +kernel)
set_option maxRecDepth 20000 in
theorem gX6_fits_X6_at : GoodIn wsX6_fits (va_wsS RX6 60 yX6_at wsX6_at) := goodIn_app (goodIn_of _ (by decide +kernel)) ggX6_fits_X6_at
set_option maxRecDepth 20000 in
theorem ggX6_fits_X6_fitting : GoodIn wsX6_fits wsX6_fitting := goodIn_r _ [18, 19, 20, 21, 22, 4, 23, 24, 25, 26, 27, 28, 29, 30, 31, 32, 33, 34, 35, 36, 37, 38, 39, 40, 41, 42, 12, 13, 14, 43, 44, 45, 46, 47, 48, 49, 50, 51, 52, 58, 59, 60, 61, 62, 63, 64, 65, 66, 67, 68, 69, 70, 71, 72, 73, 74, 75, 76, 77, 78, 79] (by decide +kernel) (by decide +kernel)
set_option maxRecDepth 20000 in
theorem gX6_fits_X6_fitting : GoodIn wsX6_fits (wsV RX6 230 RX6 yX6_fitting wsX6_fitting) := goodIn_app (goodIn_of _ (by decide +kernel)) ggX6_fits_X6_fitting
set_option maxRecDepth 20000 in
theorem ggX6_fits_X6_finding : GoodIn wsX6_fits wsX6_finding := goodIn_r _ [56, 57, 1, 58, 59, 60, 61, 62, 63, 64, 65, 66, 67, 68, 69, 70, 71, 72, 73, 74, 75, 76, 77, 78, 79] (by decide +kernel) (by decide +kernel)
set_option maxRecDepth 20000 in
theorem gX6_fits_X6_finding : GoodIn wsX6_fits (wsV RX6 83 RX6 yX6_finding wsX6_finding) := goodIn_app (goodIn_of _ (by decide +kernel)) ggX6_fits_X6_finding
theorem dX6_fits_0 : decode cX6_fits 0 = .ok (.iload_n 1, 1) := by decide +kernel
theorem dX6_fits_1 : decode cX6_fits 1 = .ok (.invokestatic 87, 3) := by decide +kernel
theorem dX6_fits_4 : decode cX6_fits 4 = .ok (.ifCond .eq 28, 3) := by decide +kernel
theorem dX6_fits_7 : decode cX6_fits 7 = .ok (.iload_n 2, 1) := by decide +kernel
theorem dX6_fits_8 : decode cX6_fits 8 = .ok (.invokestatic 73, 3) := by decide +kernel
theorem dX6_fits_11 : decode cX6_fits 11 = .ok (.ifCond .eq 21, 3) := by decide +kernel
theorem dX6_fits_14 : decode cX6_fits 14 = .ok (.aload_n 0, 1) := by decide +kernel
theorem dX6_fits_15 : decode cX6_fits 15 = .ok (.iload_n 1, 1) := by decide +kernel
theorem dX6_fits_16 : decode cX6_fits 16 = .ok (.iload_n 1, 1) := by decide +kernel
theorem dX6_fits_17 : decode cX6_fits 17 = .ok (.bipush 12, 2) := by decide +kernel
theorem dX6_fits_19 : decode cX6_fits 19 = .ok (.iload_n 2, 1) := by decide +kernel
theorem dX6_fits_20 : decode cX6_fits 20 = .ok (.iadd, 1) := by decide +kernel
theorem dX6_fits_21 : decode cX6_fits 21 = .ok (.invokestatic 60, 3) := by decide +kernel
theorem dX6_fits_24 : decode cX6_fits 24 = .ok (.bipush 20, 2) := by decide +kernel
theorem dX6_fits_26 : decode cX6_fits 26 = .ok (.invokevirtual 230, 3) := by decide +kernel
theorem dX6_fits_29 : decode cX6_fits 29 = .ok (.goto 9, 3) := by decide +kernel
theorem dX6_fits_32 : decode cX6_fits 32 = .ok (.aload_n 0, 1) := by decide +kernel
theorem dX6_fits_33 : decode cX6_fits 33 = .ok (.ldc 64, 2) := by decide +kernel
theorem dX6_fits_35 : decode cX6_fits 35 = .ok (.invokevirtual 83, 3) := by decide +kernel
theorem dX6_fits_38 : decode cX6_fits 38 = .ok (.ireturn, 1) := by decide +kernel
set_option maxRecDepth 20000 in
theorem ggX6_greeds_X6_isSide : GoodIn wsX6_greeds wsX6_isSide := goodIn_r _ [5, 6, 7, 4, 8] (by decide +kernel) (by decide +kernel)
set_option maxRecDepth 20000 in
theorem gX6_greeds_X6_isSide : GoodIn wsX6_greeds (va_wsS RX6 87 yX6_isSide wsX6_isSide) := goodIn_app (goodIn_of _ (by decide +kernel)) ggX6_greeds_X6_isSide
set_option maxRecDepth 20000 in
theorem ggX6_greeds_X6_at : GoodIn wsX6_greeds wsX6_at := goodIn_r _ [11] (by decide +kernel) (by decide +kernel)
set_option maxRecDepth 20000 in
theorem gX6_greeds_X6_at : GoodIn wsX6_greeds (va_wsS RX6 60 yX6_at wsX6_at) := goodIn_app (goodIn_of _ (by decide +kernel)) ggX6_greeds_X6_at
set_option maxRecDepth 20000 in
theorem ggX6_greeds_X6_fitting : GoodIn wsX6_greeds wsX6_fitting := goodIn_r _ [15, 16, 17, 18, 19, 4, 20, 21, 22, 23, 24, 25, 26, 27, 28, 29, 30, 31, 32, 33, 34, 35, 36, 37, 38, 39, 9, 10, 11, 40, 41, 42, 43, 44, 45, 46, 47, 48, 49, 55, 56, 57, 58, 59, 60, 61, 62, 63, 64, 65, 66, 67, 68, 69, 70, 71, 72, 73, 74, 75, 76] (by decide +kernel) (by decide +kernel)
set_option maxRecDepth 20000 in
theorem gX6_greeds_X6_fitting : GoodIn wsX6_greeds (wsV RX6 230 RX6 yX6_fitting wsX6_fitting) := goodIn_app (goodIn_of _ (by decide +kernel)) ggX6_greeds_X6_fitting
set_option maxRecDepth 20000 in
theorem ggX6_greeds_X6_finding : GoodIn wsX6_greeds wsX6_finding := goodIn_r _ [53, 54, 1, 55, 56, 57, 58, 59, 60, 61, 62, 63, 64, 65, 66, 67, 68, 69, 70, 71, 72, 73, 74, 75, 76] (by decide +kernel) (by decide +kernel)
set_option maxRecDepth 20000 in
theorem gX6_greeds_X6_finding : GoodIn wsX6_greeds (wsV RX6 83 RX6 yX6_finding wsX6_finding) := goodIn_app (goodIn_of _ (by decide +kernel)) ggX6_greeds_X6_finding
theorem dX6_greeds_0 : decode cX6_greeds 0 = .ok (.iload_n 1, 1) := by decide +kernel
theorem dX6_greeds_1 : decode cX6_greeds 1 = .ok (.invokestatic 87, 3) := by decide +kernel
theorem dX6_greeds_4 : decode cX6_greeds 4 = .ok (.ifCond .eq 18, 3) := by decide +kernel
theorem dX6_greeds_7 : decode cX6_greeds 7 = .ok (.aload_n 0, 1) := by decide +kernel
theorem dX6_greeds_8 : decode cX6_greeds 8 = .ok (.iload_n 1, 1) := by decide +kernel
theorem dX6_greeds_9 : decode cX6_greeds 9 = .ok (.iload_n 1, 1) := by decide +kernel
theorem dX6_greeds_10 : decode cX6_greeds 10 = .ok (.iconst 0, 1) := by decide +kernel
theorem dX6_greeds_11 : decode cX6_greeds 11 = .ok (.invokestatic 60, 3) := by decide +kernel
theorem dX6_greeds_14 : decode cX6_greeds 14 = .ok (.bipush 30, 2) := by decide +kernel
theorem dX6_greeds_16 : decode cX6_greeds 16 = .ok (.invokevirtual 230, 3) := by decide +kernel
theorem dX6_greeds_19 : decode cX6_greeds 19 = .ok (.goto 9, 3) := by decide +kernel
theorem dX6_greeds_22 : decode cX6_greeds 22 = .ok (.aload_n 0, 1) := by decide +kernel
theorem dX6_greeds_23 : decode cX6_greeds 23 = .ok (.ldc 64, 2) := by decide +kernel
theorem dX6_greeds_25 : decode cX6_greeds 25 = .ok (.invokevirtual 83, 3) := by decide +kernel
theorem dX6_greeds_28 : decode cX6_greeds 28 = .ok (.ireturn, 1) := by decide +kernel
set_option maxRecDepth 20000 in
theorem ggX6_known_X6_isSide : GoodIn wsX6_known wsX6_isSide := goodIn_r _ [5, 6, 7, 4, 8] (by decide +kernel) (by decide +kernel)
set_option maxRecDepth 20000 in
theorem gX6_known_X6_isSide : GoodIn wsX6_known (va_wsS RX6 87 yX6_isSide wsX6_isSide) := goodIn_app (goodIn_of _ (by decide +kernel)) ggX6_known_X6_isSide
set_option maxRecDepth 20000 in
theorem ggX6_known_X6_finding : GoodIn wsX6_known wsX6_finding := goodIn_r _ [12, 13, 1, 58, 59, 60, 61, 62, 63, 64, 65, 66, 67, 68, 69, 70, 71, 72, 73, 74, 75, 76, 77, 78, 79] (by decide +kernel) (by decide +kernel)
set_option maxRecDepth 20000 in
theorem gX6_known_X6_finding : GoodIn wsX6_known (wsV RX6 83 RX6 yX6_finding wsX6_finding) := goodIn_app (goodIn_of _ (by decide +kernel)) ggX6_known_X6_finding
set_option maxRecDepth 20000 in
theorem ggX6_known_X6_at : GoodIn wsX6_known wsX6_at := goodIn_r _ [16] (by decide +kernel) (by decide +kernel)
set_option maxRecDepth 20000 in
theorem gX6_known_X6_at : GoodIn wsX6_known (va_wsS RX6 60 yX6_at wsX6_at) := goodIn_app (goodIn_of _ (by decide +kernel)) ggX6_known_X6_at
set_option maxRecDepth 20000 in
theorem ggX6_known_X6_fitting : GoodIn wsX6_known wsX6_fitting := goodIn_r _ [20, 21, 22, 23, 24, 4, 25, 26, 27, 28, 29, 30, 31, 32, 33, 34, 35, 36, 37, 38, 39, 40, 41, 42, 43, 44, 14, 15, 16, 45, 46, 47, 48, 49, 50, 51, 52, 53, 54, 58, 59, 60, 61, 62, 63, 64, 65, 66, 67, 68, 69, 70, 71, 72, 73, 74, 75, 76, 77, 78, 79] (by decide +kernel) (by decide +kernel)
set_option maxRecDepth 20000 in
theorem gX6_known_X6_fitting : GoodIn wsX6_known (wsV RX6 230 RX6 yX6_fitting wsX6_fitting) := goodIn_app (goodIn_of _ (by decide +kernel)) ggX6_known_X6_fitting
set_option maxRecDepth 20000 in
theorem ggX6_known_X6_bits : GoodIn wsX6_known wsX6_bits := goodIn_r _ [57] (by decide +kernel) (by decide +kernel)
set_option maxRecDepth 20000 in
theorem gX6_known_X6_bits : GoodIn wsX6_known (va_wsS RX6 233 yX6_bits wsX6_bits) := goodIn_app (goodIn_of _ (by decide +kernel)) ggX6_known_X6_bits
theorem dX6_known_0 : decode cX6_known 0 = .ok (.iload_n 1, 1) := by decide +kernel
theorem dX6_known_1 : decode cX6_known 1 = .ok (.invokestatic 87, 3) := by decide +kernel
theorem dX6_known_4 : decode cX6_known 4 = .ok (.ifCond .ne 10, 3) := by decide +kernel
theorem dX6_known_7 : decode cX6_known 7 = .ok (.aload_n 0, 1) := by decide +kernel
theorem dX6_known_8 : decode cX6_known 8 = .ok (.ldc 64, 2) := by decide +kernel
theorem dX6_known_10 : decode cX6_known 10 = .ok (.invokevirtual 83, 3) := by decide +kernel
theorem dX6_known_13 : decode cX6_known 13 = .ok (.ireturn, 1) := by decide +kernel
theorem dX6_known_14 : decode cX6_known 14 = .ok (.iconst (-1), 1) := by decide +kernel
theorem dX6_known_15 : decode cX6_known 15 = .ok (.istore_n 2, 1) := by decide +kernel
theorem dX6_known_16 : decode cX6_known 16 = .ok (.iconst 0, 1) := by decide +kernel
theorem dX6_known_17 : decode cX6_known 17 = .ok (.istore_n 3, 1) := by decide +kernel
theorem dX6_known_18 : decode cX6_known 18 = .ok (.iconst 0, 1) := by decide +kernel
theorem dX6_known_19 : decode cX6_known 19 = .ok (.istore 4, 2) := by decide +kernel
theorem dX6_known_21 : decode cX6_known 21 = .ok (.iload 4, 2) := by decide +kernel
theorem dX6_known_23 : decode cX6_known 23 = .ok (.iconst 5, 1) := by decide +kernel
theorem dX6_known_24 : decode cX6_known 24 = .ok (.if_icmp .ge 46, 3) := by decide +kernel
theorem dX6_known_27 : decode cX6_known 27 = .ok (.aload_n 0, 1) := by decide +kernel
theorem dX6_known_28 : decode cX6_known 28 = .ok (.iload_n 1, 1) := by decide +kernel
theorem dX6_known_29 : decode cX6_known 29 = .ok (.iload_n 1, 1) := by decide +kernel
theorem dX6_known_30 : decode cX6_known 30 = .ok (.bipush 12, 2) := by decide +kernel
theorem dX6_known_32 : decode cX6_known 32 = .ok (.iload 4, 2) := by decide +kernel
theorem dX6_known_34 : decode cX6_known 34 = .ok (.iadd, 1) := by decide +kernel
theorem dX6_known_35 : decode cX6_known 35 = .ok (.invokestatic 60, 3) := by decide +kernel
theorem dX6_known_38 : decode cX6_known 38 = .ok (.bipush 20, 2) := by decide +kernel
theorem dX6_known_40 : decode cX6_known 40 = .ok (.invokevirtual 230, 3) := by decide +kernel
theorem dX6_known_43 : decode cX6_known 43 = .ok (.invokestatic 233, 3) := by decide +kernel
theorem dX6_known_46 : decode cX6_known 46 = .ok (.istore 5, 2) := by decide +kernel
theorem dX6_known_48 : decode cX6_known 48 = .ok (.iload_n 2, 1) := by decide +kernel
theorem dX6_known_49 : decode cX6_known 49 = .ok (.ifCond .lt 9, 3) := by decide +kernel
theorem dX6_known_52 : decode cX6_known 52 = .ok (.iload 5, 2) := by decide +kernel
theorem dX6_known_54 : decode cX6_known 54 = .ok (.iload_n 3, 1) := by decide +kernel
theorem dX6_known_55 : decode cX6_known 55 = .ok (.if_icmp .ge 9, 3) := by decide +kernel
theorem dX6_known_58 : decode cX6_known 58 = .ok (.iload 4, 2) := by decide +kernel
theorem dX6_known_60 : decode cX6_known 60 = .ok (.istore_n 2, 1) := by decide +kernel
theorem dX6_known_61 : decode cX6_known 61 = .ok (.iload 5, 2) := by decide +kernel
theorem dX6_known_63 : decode cX6_known 63 = .ok (.istore_n 3, 1) := by decide +kernel
theorem dX6_known_64 : decode cX6_known 64 = .ok (.iinc 4 1, 3) := by decide +kernel
theorem dX6_known_67 : decode cX6_known 67 = .ok (.goto (-46), 3) := by decide +kernel
theorem dX6_known_70 : decode cX6_known 70 = .ok (.iload_n 2, 1) := by decide +kernel
theorem dX6_known_71 : decode cX6_known 71 = .ok (.ireturn, 1) := by decide +kernel
theorem dX6_drawn_0 : decode cX6_drawn 0 = .ok (.aload_n 0, 1) := by decide +kernel
theorem dX6_drawn_1 : decode cX6_drawn 1 = .ok (.getfield 9, 3) := by decide +kernel
theorem dX6_drawn_4 : decode cX6_drawn 4 = .ok (.iconst 4, 1) := by decide +kernel
theorem dX6_drawn_5 : decode cX6_drawn 5 = .ok (.aload_n 0, 1) := by decide +kernel
theorem dX6_drawn_6 : decode cX6_drawn 6 = .ok (.getfield 9, 3) := by decide +kernel
theorem dX6_drawn_9 : decode cX6_drawn 9 = .ok (.iconst 4, 1) := by decide +kernel
theorem dX6_drawn_10 : decode cX6_drawn 10 = .ok (.iaload, 1) := by decide +kernel
theorem dX6_drawn_11 : decode cX6_drawn 11 = .ok (.ldc 236, 2) := by decide +kernel
theorem dX6_drawn_13 : decode cX6_drawn 13 = .ok (.imul, 1) := by decide +kernel
theorem dX6_drawn_14 : decode cX6_drawn 14 = .ok (.sipush 12345, 3) := by decide +kernel
theorem dX6_drawn_17 : decode cX6_drawn 17 = .ok (.iadd, 1) := by decide +kernel
theorem dX6_drawn_18 : decode cX6_drawn 18 = .ok (.iastore, 1) := by decide +kernel
theorem dX6_drawn_19 : decode cX6_drawn 19 = .ok (.aload_n 0, 1) := by decide +kernel
theorem dX6_drawn_20 : decode cX6_drawn 20 = .ok (.getfield 9, 3) := by decide +kernel
theorem dX6_drawn_23 : decode cX6_drawn 23 = .ok (.iconst 4, 1) := by decide +kernel
theorem dX6_drawn_24 : decode cX6_drawn 24 = .ok (.iaload, 1) := by decide +kernel
theorem dX6_drawn_25 : decode cX6_drawn 25 = .ok (.bipush 8, 2) := by decide +kernel
theorem dX6_drawn_27 : decode cX6_drawn 27 = .ok (.iushr, 1) := by decide +kernel
theorem dX6_drawn_28 : decode cX6_drawn 28 = .ok (.iload_n 1, 1) := by decide +kernel
theorem dX6_drawn_29 : decode cX6_drawn 29 = .ok (.irem, 1) := by decide +kernel
theorem dX6_drawn_30 : decode cX6_drawn 30 = .ok (.ireturn, 1) := by decide +kernel
set_option maxRecDepth 20000 in
theorem ggX6_season_X6_within : GoodIn wsX6_season wsX6_within := goodIn_r _ [7] (by decide +kernel) (by decide +kernel)
set_option maxRecDepth 20000 in
theorem gX6_season_X6_within : GoodIn wsX6_season (va_wsS RX6 69 yX6_within wsX6_within) := goodIn_app (goodIn_of _ (by decide +kernel)) ggX6_season_X6_within
set_option maxRecDepth 20000 in
theorem ggX6_season_X6_finding : GoodIn wsX6_season wsX6_finding := goodIn_r _ [11, 12, 1, 118, 119, 120, 121, 122, 123, 124, 125, 126, 127, 128, 129, 130, 131, 132, 133, 134, 135, 136, 137, 138, 139] (by decide +kernel) (by decide +kernel)
set_option maxRecDepth 20000 in
theorem gX6_season_X6_finding : GoodIn wsX6_season (wsV RX6 83 RX6 yX6_finding wsX6_finding) := goodIn_app (goodIn_of _ (by decide +kernel)) ggX6_season_X6_finding
set_option maxRecDepth 20000 in
theorem ggX6_season_X6_isTooLate : GoodIn wsX6_season wsX6_isTooLate := goodIn_r _ [16, 3, 118, 119, 120, 121, 122, 123, 124, 125, 126, 127, 128, 129, 130, 131, 132, 133, 134, 135, 136, 137, 138, 139] (by decide +kernel) (by decide +kernel)
set_option maxRecDepth 20000 in
theorem gX6_season_X6_isTooLate : GoodIn wsX6_season (wsV RX6 176 RX6 yX6_isTooLate wsX6_isTooLate) := goodIn_app (goodIn_of _ (by decide +kernel)) ggX6_season_X6_isTooLate
set_option maxRecDepth 20000 in
theorem ggX6_season_X6_drawn : GoodIn wsX6_season wsX6_drawn := goodIn_r _ [20, 3, 21, 118, 119, 120, 121, 122, 123, 124, 125, 126, 127, 128, 129, 130, 131, 132, 133, 134, 135, 136, 137, 138, 139] (by decide +kernel) (by decide +kernel)
set_option maxRecDepth 20000 in
theorem gX6_season_X6_drawn : GoodIn wsX6_season (wsV RX6 237 RX6 yX6_drawn wsX6_drawn) := goodIn_app (goodIn_of _ (by decide +kernel)) ggX6_season_X6_drawn
set_option maxRecDepth 20000 in
theorem ggX6_season_X6_mayLay : GoodIn wsX6_season wsX6_mayLay := goodIn_r _ [25, 26, 27, 28, 6, 29, 3, 30, 31, 32, 118, 119, 120, 121, 122, 123, 124, 125, 126, 127, 128, 129, 130, 131, 132, 133, 134, 135, 136, 137, 138, 139] (by decide +kernel) (by decide +kernel)
set_option maxRecDepth 20000 in
theorem gX6_season_X6_mayLay : GoodIn wsX6_season (wsV RX6 128 RX6 yX6_mayLay wsX6_mayLay) := goodIn_app (goodIn_of _ (by decide +kernel)) ggX6_season_X6_mayLay
set_option maxRecDepth 20000 in
theorem ggX6_season_X6_laid : GoodIn wsX6_season wsX6_laid := goodIn_r _ [36, 3, 30, 31, 6, 32, 26, 27, 28, 29, 118, 119, 120, 121, 122, 123, 124, 125, 126, 127, 128, 129, 130, 131, 132, 133, 134, 135, 136, 137, 138, 139] (by decide +kernel) (by decide +kernel)
set_option maxRecDepth 20000 in
theorem gX6_season_X6_laid : GoodIn wsX6_season (wsV RX6 131 RX6 yX6_laid wsX6_laid) := goodIn_app (goodIn_of _ (by decide +kernel)) ggX6_season_X6_laid
set_option maxRecDepth 20000 in
theorem ggX6_season_X6_nightsGo : GoodIn wsX6_season wsX6_nightsGo := goodIn_r _ [40, 41, 42, 43, 6, 44, 3, 45, 46, 47, 48, 26, 27, 28, 29, 30, 31, 32, 49, 50, 51, 52, 53, 54, 55, 56, 57, 58, 59, 60, 61, 62, 63, 64, 65, 66, 67, 68, 69, 70, 71, 72, 73, 74, 75, 76, 77, 78, 79, 80, 81, 82, 83, 84, 85, 86, 87, 88, 89, 90, 91, 92, 93, 94, 95, 96, 97, 98, 99, 100, 101, 102, 103, 104, 105, 106, 107, 108, 109, 110, 111, 112, 113, 114, 115, 116, 117, 118, 119, 120, 121, 122, 123, 124, 125, 126, 127, 128, 129, 130, 131, 132, 133, 134, 135, 136, 137, 138, 139] (by decide +kernel) (by decide +kernel)
set_option maxRecDepth 20000 in
theorem gX6_season_X6_nightsGo : GoodIn wsX6_season (wsV RX6 179 RX6 yX6_nightsGo wsX6_nightsGo) := goodIn_app (goodIn_of _ (by decide +kernel)) ggX6_season_X6_nightsGo
theorem dX6_season_0 : decode cX6_season 0 = .ok (.iload_n 1, 1) := by decide +kernel
theorem dX6_season_1 : decode cX6_season 1 = .ok (.iconst 1, 1) := by decide +kernel
theorem dX6_season_2 : decode cX6_season 2 = .ok (.bipush 12, 2) := by decide +kernel
theorem dX6_season_4 : decode cX6_season 4 = .ok (.invokestatic 69, 3) := by decide +kernel
theorem dX6_season_7 : decode cX6_season 7 = .ok (.ifCond .ne 10, 3) := by decide +kernel
theorem dX6_season_10 : decode cX6_season 10 = .ok (.aload_n 0, 1) := by decide +kernel
theorem dX6_season_11 : decode cX6_season 11 = .ok (.ldc 64, 2) := by decide +kernel
theorem dX6_season_13 : decode cX6_season 13 = .ok (.invokevirtual 83, 3) := by decide +kernel
theorem dX6_season_16 : decode cX6_season 16 = .ok (.ireturn, 1) := by decide +kernel
theorem dX6_season_17 : decode cX6_season 17 = .ok (.aload_n 0, 1) := by decide +kernel
theorem dX6_season_18 : decode cX6_season 18 = .ok (.iconst 2, 1) := by decide +kernel
theorem dX6_season_19 : decode cX6_season 19 = .ok (.iload_n 1, 1) := by decide +kernel
theorem dX6_season_20 : decode cX6_season 20 = .ok (.imul, 1) := by decide +kernel
theorem dX6_season_21 : decode cX6_season 21 = .ok (.invokevirtual 176, 3) := by decide +kernel
theorem dX6_season_24 : decode cX6_season 24 = .ok (.ifCond .eq 10, 3) := by decide +kernel
theorem dX6_season_27 : decode cX6_season 27 = .ok (.aload_n 0, 1) := by decide +kernel
theorem dX6_season_28 : decode cX6_season 28 = .ok (.ldc 134, 2) := by decide +kernel
theorem dX6_season_30 : decode cX6_season 30 = .ok (.invokevirtual 83, 3) := by decide +kernel
theorem dX6_season_33 : decode cX6_season 33 = .ok (.ireturn, 1) := by decide +kernel
theorem dX6_season_34 : decode cX6_season 34 = .ok (.iconst 0, 1) := by decide +kernel
theorem dX6_season_35 : decode cX6_season 35 = .ok (.istore_n 2, 1) := by decide +kernel
theorem dX6_season_36 : decode cX6_season 36 = .ok (.iconst 0, 1) := by decide +kernel
theorem dX6_season_37 : decode cX6_season 37 = .ok (.istore_n 3, 1) := by decide +kernel
theorem dX6_season_38 : decode cX6_season 38 = .ok (.iload_n 3, 1) := by decide +kernel
theorem dX6_season_39 : decode cX6_season 39 = .ok (.iload_n 1, 1) := by decide +kernel
theorem dX6_season_40 : decode cX6_season 40 = .ok (.if_icmp .ge 65, 3) := by decide +kernel
theorem dX6_season_43 : decode cX6_season 43 = .ok (.aload_n 0, 1) := by decide +kernel
theorem dX6_season_44 : decode cX6_season 44 = .ok (.getfield 9, 3) := by decide +kernel
theorem dX6_season_47 : decode cX6_season 47 = .ok (.iconst 1, 1) := by decide +kernel
theorem dX6_season_48 : decode cX6_season 48 = .ok (.aload_n 0, 1) := by decide +kernel
theorem dX6_season_49 : decode cX6_season 49 = .ok (.bipush 10, 2) := by decide +kernel
theorem dX6_season_51 : decode cX6_season 51 = .ok (.invokevirtual 237, 3) := by decide +kernel
theorem dX6_season_54 : decode cX6_season 54 = .ok (.iastore, 1) := by decide +kernel
theorem dX6_season_55 : decode cX6_season 55 = .ok (.aload_n 0, 1) := by decide +kernel
theorem dX6_season_56 : decode cX6_season 56 = .ok (.iconst 2, 1) := by decide +kernel
theorem dX6_season_57 : decode cX6_season 57 = .ok (.invokevirtual 237, 3) := by decide +kernel
theorem dX6_season_60 : decode cX6_season 60 = .ok (.istore 4, 2) := by decide +kernel
theorem dX6_season_62 : decode cX6_season 62 = .ok (.aload_n 0, 1) := by decide +kernel
theorem dX6_season_63 : decode cX6_season 63 = .ok (.iconst 5, 1) := by decide +kernel
theorem dX6_season_64 : decode cX6_season 64 = .ok (.invokevirtual 237, 3) := by decide +kernel
theorem dX6_season_67 : decode cX6_season 67 = .ok (.istore 5, 2) := by decide +kernel
theorem dX6_season_69 : decode cX6_season 69 = .ok (.aload_n 0, 1) := by decide +kernel
theorem dX6_season_70 : decode cX6_season 70 = .ok (.iload 4, 2) := by decide +kernel
theorem dX6_season_72 : decode cX6_season 72 = .ok (.iload 5, 2) := by decide +kernel
theorem dX6_season_74 : decode cX6_season 74 = .ok (.iconst 1, 1) := by decide +kernel
theorem dX6_season_75 : decode cX6_season 75 = .ok (.invokevirtual 128, 3) := by decide +kernel
theorem dX6_season_78 : decode cX6_season 78 = .ok (.ifCond .eq 13, 3) := by decide +kernel
theorem dX6_season_81 : decode cX6_season 81 = .ok (.aload_n 0, 1) := by decide +kernel
theorem dX6_season_82 : decode cX6_season 82 = .ok (.iload 4, 2) := by decide +kernel
theorem dX6_season_84 : decode cX6_season 84 = .ok (.iload 5, 2) := by decide +kernel
theorem dX6_season_86 : decode cX6_season 86 = .ok (.iconst 1, 1) := by decide +kernel
theorem dX6_season_87 : decode cX6_season 87 = .ok (.invokevirtual 131, 3) := by decide +kernel
theorem dX6_season_90 : decode cX6_season 90 = .ok (.pop, 1) := by decide +kernel
theorem dX6_season_91 : decode cX6_season 91 = .ok (.iload_n 2, 1) := by decide +kernel
theorem dX6_season_92 : decode cX6_season 92 = .ok (.aload_n 0, 1) := by decide +kernel
theorem dX6_season_93 : decode cX6_season 93 = .ok (.iconst 2, 1) := by decide +kernel
theorem dX6_season_94 : decode cX6_season 94 = .ok (.invokevirtual 179, 3) := by decide +kernel
theorem dX6_season_97 : decode cX6_season 97 = .ok (.iadd, 1) := by decide +kernel
theorem dX6_season_98 : decode cX6_season 98 = .ok (.istore_n 2, 1) := by decide +kernel
theorem dX6_season_99 : decode cX6_season 99 = .ok (.iinc 3 1, 3) := by decide +kernel
theorem dX6_season_102 : decode cX6_season 102 = .ok (.goto (-64), 3) := by decide +kernel
theorem dX6_season_105 : decode cX6_season 105 = .ok (.iload_n 2, 1) := by decide +kernel
theorem dX6_season_106 : decode cX6_season 106 = .ok (.ireturn, 1) := by decide +kernel
set_option maxRecDepth 20000 in
theorem ggX6_seed_X6_become : GoodIn wsX6_seed wsX6_become := goodIn_r _ [5, 6, 7, 8, 9, 10, 11, 12, 13, 14, 15, 16, 17, 18, 19, 20, 21, 22, 23, 24, 25, 26, 27, 28] (by decide +kernel) (by decide +kernel)
set_option maxRecDepth 20000 in
theorem gX6_seed_X6_become : GoodIn wsX6_seed (wsV RX6 80 RX6 yX6_become wsX6_become) := goodIn_app (goodIn_of _ (by decide +kernel)) ggX6_seed_X6_become
theorem dX6_seed_0 : decode cX6_seed 0 = .ok (.aload_n 0, 1) := by decide +kernel
theorem dX6_seed_1 : decode cX6_seed 1 = .ok (.iconst 4, 1) := by decide +kernel
theorem dX6_seed_2 : decode cX6_seed 2 = .ok (.iload_n 1, 1) := by decide +kernel
theorem dX6_seed_3 : decode cX6_seed 3 = .ok (.invokevirtual 80, 3) := by decide +kernel
theorem dX6_seed_6 : decode cX6_seed 6 = .ok (.ireturn, 1) := by decide +kernel
set_option maxRecDepth 20000 in
theorem ggX6_feed_X6_within : GoodIn wsX6_feed wsX6_within := goodIn_r _ [8] (by decide +kernel) (by decide +kernel)
set_option maxRecDepth 20000 in
theorem gX6_feed_X6_within : GoodIn wsX6_feed (va_wsS RX6 69 yX6_within wsX6_within) := goodIn_app (goodIn_of _ (by decide +kernel)) ggX6_feed_X6_within
set_option maxRecDepth 20000 in
theorem ggX6_feed_X6_finding : GoodIn wsX6_feed wsX6_finding := goodIn_r _ [12, 13, 1, 14, 15, 16, 17, 18, 19, 20, 21, 22, 23, 24, 25, 26, 27, 28, 29, 30, 31, 32, 33, 34, 35] (by decide +kernel) (by decide +kernel)
set_option maxRecDepth 20000 in
theorem gX6_feed_X6_finding : GoodIn wsX6_feed (wsV RX6 83 RX6 yX6_finding wsX6_finding) := goodIn_app (goodIn_of _ (by decide +kernel)) ggX6_feed_X6_finding
theorem dX6_feed_0 : decode cX6_feed 0 = .ok (.iload_n 2, 1) := by decide +kernel
theorem dX6_feed_1 : decode cX6_feed 1 = .ok (.iconst 1, 1) := by decide +kernel
theorem dX6_feed_2 : decode cX6_feed 2 = .ok (.iconst 4, 1) := by decide +kernel
theorem dX6_feed_3 : decode cX6_feed 3 = .ok (.invokestatic 69, 3) := by decide +kernel
theorem dX6_feed_6 : decode cX6_feed 6 = .ok (.ifCond .ne 10, 3) := by decide +kernel
theorem dX6_feed_9 : decode cX6_feed 9 = .ok (.aload_n 0, 1) := by decide +kernel
theorem dX6_feed_10 : decode cX6_feed 10 = .ok (.ldc 64, 2) := by decide +kernel
theorem dX6_feed_12 : decode cX6_feed 12 = .ok (.invokevirtual 83, 3) := by decide +kernel
theorem dX6_feed_15 : decode cX6_feed 15 = .ok (.ireturn, 1) := by decide +kernel
theorem dX6_feed_16 : decode cX6_feed 16 = .ok (.aload_n 0, 1) := by decide +kernel
theorem dX6_feed_17 : decode cX6_feed 17 = .ok (.getfield 240, 3) := by decide +kernel
theorem dX6_feed_20 : decode cX6_feed 20 = .ok (.iload_n 2, 1) := by decide +kernel
theorem dX6_feed_21 : decode cX6_feed 21 = .ok (.iadd, 1) := by decide +kernel
theorem dX6_feed_22 : decode cX6_feed 22 = .ok (.bipush 120, 2) := by decide +kernel
theorem dX6_feed_24 : decode cX6_feed 24 = .ok (.if_icmp .le 10, 3) := by decide +kernel
theorem dX6_feed_27 : decode cX6_feed 27 = .ok (.aload_n 0, 1) := by decide +kernel
theorem dX6_feed_28 : decode cX6_feed 28 = .ok (.ldc 243, 2) := by decide +kernel
theorem dX6_feed_30 : decode cX6_feed 30 = .ok (.invokevirtual 83, 3) := by decide +kernel
theorem dX6_feed_33 : decode cX6_feed 33 = .ok (.ireturn, 1) := by decide +kernel
theorem dX6_feed_34 : decode cX6_feed 34 = .ok (.iload_n 2, 1) := by decide +kernel
theorem dX6_feed_35 : decode cX6_feed 35 = .ok (.iconst 1, 1) := by decide +kernel
theorem dX6_feed_36 : decode cX6_feed 36 = .ok (.isub, 1) := by decide +kernel
theorem dX6_feed_37 : decode cX6_feed 37 = .ok (.istore_n 3, 1) := by decide +kernel
theorem dX6_feed_38 : decode cX6_feed 38 = .ok (.iload_n 3, 1) := by decide +kernel
theorem dX6_feed_39 : decode cX6_feed 39 = .ok (.ifCond .lt 38, 3) := by decide +kernel
theorem dX6_feed_42 : decode cX6_feed 42 = .ok (.aload_n 0, 1) := by decide +kernel
theorem dX6_feed_43 : decode cX6_feed 43 = .ok (.getfield 22, 3) := by decide +kernel
theorem dX6_feed_46 : decode cX6_feed 46 = .ok (.aload_n 0, 1) := by decide +kernel
theorem dX6_feed_47 : decode cX6_feed 47 = .ok (.getfield 240, 3) := by decide +kernel
theorem dX6_feed_50 : decode cX6_feed 50 = .ok (.iload_n 1, 1) := by decide +kernel
theorem dX6_feed_51 : decode cX6_feed 51 = .ok (.bipush 8, 2) := by decide +kernel
theorem dX6_feed_53 : decode cX6_feed 53 = .ok (.iload_n 3, 1) := by decide +kernel
theorem dX6_feed_54 : decode cX6_feed 54 = .ok (.imul, 1) := by decide +kernel
theorem dX6_feed_55 : decode cX6_feed 55 = .ok (.ishr, 1) := by decide +kernel
theorem dX6_feed_56 : decode cX6_feed 56 = .ok (.sipush 255, 3) := by decide +kernel
theorem dX6_feed_59 : decode cX6_feed 59 = .ok (.iand, 1) := by decide +kernel
theorem dX6_feed_60 : decode cX6_feed 60 = .ok (.iastore, 1) := by decide +kernel
theorem dX6_feed_61 : decode cX6_feed 61 = .ok (.aload_n 0, 1) := by decide +kernel
theorem dX6_feed_62 : decode cX6_feed 62 = .ok (.dup, 1) := by decide +kernel
theorem dX6_feed_63 : decode cX6_feed 63 = .ok (.getfield 240, 3) := by decide +kernel
theorem dX6_feed_66 : decode cX6_feed 66 = .ok (.iconst 1, 1) := by decide +kernel
theorem dX6_feed_67 : decode cX6_feed 67 = .ok (.iadd, 1) := by decide +kernel
theorem dX6_feed_68 : decode cX6_feed 68 = .ok (.putfield 240, 3) := by decide +kernel
theorem dX6_feed_71 : decode cX6_feed 71 = .ok (.iinc 3 (-1), 3) := by decide +kernel
theorem dX6_feed_74 : decode cX6_feed 74 = .ok (.goto (-36), 3) := by decide +kernel
theorem dX6_feed_77 : decode cX6_feed 77 = .ok (.aload_n 0, 1) := by decide +kernel
theorem dX6_feed_78 : decode cX6_feed 78 = .ok (.getfield 240, 3) := by decide +kernel
theorem dX6_feed_81 : decode cX6_feed 81 = .ok (.ireturn, 1) := by decide +kernel
theorem dX6_wipe_0 : decode cX6_wipe 0 = .ok (.aload_n 0, 1) := by decide +kernel
theorem dX6_wipe_1 : decode cX6_wipe 1 = .ok (.getfield 240, 3) := by decide +kernel
theorem dX6_wipe_4 : decode cX6_wipe 4 = .ok (.istore_n 1, 1) := by decide +kernel
theorem dX6_wipe_5 : decode cX6_wipe 5 = .ok (.aload_n 0, 1) := by decide +kernel
theorem dX6_wipe_6 : decode cX6_wipe 6 = .ok (.iconst 0, 1) := by decide +kernel
theorem dX6_wipe_7 : decode cX6_wipe 7 = .ok (.putfield 240, 3) := by decide +kernel
theorem dX6_wipe_10 : decode cX6_wipe 10 = .ok (.iload_n 1, 1) := by decide +kernel
theorem dX6_wipe_11 : decode cX6_wipe 11 = .ok (.ireturn, 1) := by decide +kernel
theorem dX6_byteAt_0 : decode cX6_byteAt 0 = .ok (.iload_n 1, 1) := by decide +kernel
theorem dX6_byteAt_1 : decode cX6_byteAt 1 = .ok (.aload_n 0, 1) := by decide +kernel
theorem dX6_byteAt_2 : decode cX6_byteAt 2 = .ok (.getfield 240, 3) := by decide +kernel
theorem dX6_byteAt_5 : decode cX6_byteAt 5 = .ok (.if_icmp .ge 12, 3) := by decide +kernel
theorem dX6_byteAt_8 : decode cX6_byteAt 8 = .ok (.aload_n 0, 1) := by decide +kernel
theorem dX6_byteAt_9 : decode cX6_byteAt 9 = .ok (.getfield 22, 3) := by decide +kernel
theorem dX6_byteAt_12 : decode cX6_byteAt 12 = .ok (.iload_n 1, 1) := by decide +kernel
theorem dX6_byteAt_13 : decode cX6_byteAt 13 = .ok (.iaload, 1) := by decide +kernel
theorem dX6_byteAt_14 : decode cX6_byteAt 14 = .ok (.goto 4, 3) := by decide +kernel
theorem dX6_byteAt_17 : decode cX6_byteAt 17 = .ok (.iconst (-1), 1) := by decide +kernel
theorem dX6_byteAt_18 : decode cX6_byteAt 18 = .ok (.ireturn, 1) := by decide +kernel
set_option maxRecDepth 20000 in
theorem ggX6_next_X6_byteAt : GoodIn wsX6_next wsX6_byteAt := goodIn_r _ [13, 14, 15, 19, 20, 21, 22, 23, 24, 25, 26, 27, 28, 29, 30, 31, 32, 33, 34, 35, 36, 37, 38, 39, 40] (by decide +kernel) (by decide +kernel)
set_option maxRecDepth 20000 in
theorem gX6_next_X6_byteAt : GoodIn wsX6_next (wsV RX6 250 RX6 yX6_byteAt wsX6_byteAt) := goodIn_app (goodIn_of _ (by decide +kernel)) ggX6_next_X6_byteAt
set_option maxRecDepth 20000 in
theorem ggX6_next_X6_within : GoodIn wsX6_next wsX6_within := goodIn_r _ [18] (by decide +kernel) (by decide +kernel)
set_option maxRecDepth 20000 in
theorem gX6_next_X6_within : GoodIn wsX6_next (va_wsS RX6 69 yX6_within wsX6_within) := goodIn_app (goodIn_of _ (by decide +kernel)) ggX6_next_X6_within
theorem dX6_next_0 : decode cX6_next 0 = .ok (.aload_n 0, 1) := by decide +kernel
theorem dX6_next_1 : decode cX6_next 1 = .ok (.aload_n 0, 1) := by decide +kernel
theorem dX6_next_2 : decode cX6_next 2 = .ok (.getfield 244, 3) := by decide +kernel
theorem dX6_next_5 : decode cX6_next 5 = .ok (.putfield 247, 3) := by decide +kernel
theorem dX6_next_8 : decode cX6_next 8 = .ok (.aload_n 0, 1) := by decide +kernel
theorem dX6_next_9 : decode cX6_next 9 = .ok (.aload_n 0, 1) := by decide +kernel
theorem dX6_next_10 : decode cX6_next 10 = .ok (.getfield 247, 3) := by decide +kernel
theorem dX6_next_13 : decode cX6_next 13 = .ok (.invokevirtual 250, 3) := by decide +kernel
theorem dX6_next_16 : decode cX6_next 16 = .ok (.bipush 32, 2) := by decide +kernel
theorem dX6_next_18 : decode cX6_next 18 = .ok (.if_icmp .ne 16, 3) := by decide +kernel
theorem dX6_next_21 : decode cX6_next 21 = .ok (.aload_n 0, 1) := by decide +kernel
theorem dX6_next_22 : decode cX6_next 22 = .ok (.dup, 1) := by decide +kernel
theorem dX6_next_23 : decode cX6_next 23 = .ok (.getfield 247, 3) := by decide +kernel
theorem dX6_next_26 : decode cX6_next 26 = .ok (.iconst 1, 1) := by decide +kernel
theorem dX6_next_27 : decode cX6_next 27 = .ok (.iadd, 1) := by decide +kernel
theorem dX6_next_28 : decode cX6_next 28 = .ok (.putfield 247, 3) := by decide +kernel
theorem dX6_next_31 : decode cX6_next 31 = .ok (.goto (-23), 3) := by decide +kernel
theorem dX6_next_34 : decode cX6_next 34 = .ok (.aload_n 0, 1) := by decide +kernel
theorem dX6_next_35 : decode cX6_next 35 = .ok (.aload_n 0, 1) := by decide +kernel
theorem dX6_next_36 : decode cX6_next 36 = .ok (.getfield 247, 3) := by decide +kernel
theorem dX6_next_39 : decode cX6_next 39 = .ok (.invokevirtual 250, 3) := by decide +kernel
theorem dX6_next_42 : decode cX6_next 42 = .ok (.istore_n 1, 1) := by decide +kernel
theorem dX6_next_43 : decode cX6_next 43 = .ok (.aload_n 0, 1) := by decide +kernel
theorem dX6_next_44 : decode cX6_next 44 = .ok (.aload_n 0, 1) := by decide +kernel
theorem dX6_next_45 : decode cX6_next 45 = .ok (.getfield 247, 3) := by decide +kernel
theorem dX6_next_48 : decode cX6_next 48 = .ok (.putfield 244, 3) := by decide +kernel
theorem dX6_next_51 : decode cX6_next 51 = .ok (.aload_n 0, 1) := by decide +kernel
theorem dX6_next_52 : decode cX6_next 52 = .ok (.iconst 0, 1) := by decide +kernel
theorem dX6_next_53 : decode cX6_next 53 = .ok (.putfield 253, 3) := by decide +kernel
theorem dX6_next_56 : decode cX6_next 56 = .ok (.iload_n 1, 1) := by decide +kernel
theorem dX6_next_57 : decode cX6_next 57 = .ok (.ifCond .ge 11, 3) := by decide +kernel
theorem dX6_next_60 : decode cX6_next 60 = .ok (.aload_n 0, 1) := by decide +kernel
theorem dX6_next_61 : decode cX6_next 61 = .ok (.iconst 0, 1) := by decide +kernel
theorem dX6_next_62 : decode cX6_next 62 = .ok (.putfield 256, 3) := by decide +kernel
theorem dX6_next_65 : decode cX6_next 65 = .ok (.goto 141, 3) := by decide +kernel
theorem dX6_next_68 : decode cX6_next 68 = .ok (.iload_n 1, 1) := by decide +kernel
theorem dX6_next_69 : decode cX6_next 69 = .ok (.bipush 97, 2) := by decide +kernel
theorem dX6_next_71 : decode cX6_next 71 = .ok (.bipush 122, 2) := by decide +kernel
theorem dX6_next_73 : decode cX6_next 73 = .ok (.invokestatic 69, 3) := by decide +kernel
theorem dX6_next_76 : decode cX6_next 76 = .ok (.ifCond .eq 39, 3) := by decide +kernel
theorem dX6_next_79 : decode cX6_next 79 = .ok (.aload_n 0, 1) := by decide +kernel
theorem dX6_next_80 : decode cX6_next 80 = .ok (.iconst 1, 1) := by decide +kernel
theorem dX6_next_81 : decode cX6_next 81 = .ok (.putfield 256, 3) := by decide +kernel
theorem dX6_next_84 : decode cX6_next 84 = .ok (.aload_n 0, 1) := by decide +kernel
theorem dX6_next_85 : decode cX6_next 85 = .ok (.aload_n 0, 1) := by decide +kernel
theorem dX6_next_86 : decode cX6_next 86 = .ok (.getfield 244, 3) := by decide +kernel
theorem dX6_next_89 : decode cX6_next 89 = .ok (.invokevirtual 250, 3) := by decide +kernel
theorem dX6_next_92 : decode cX6_next 92 = .ok (.bipush 97, 2) := by decide +kernel
theorem dX6_next_94 : decode cX6_next 94 = .ok (.bipush 122, 2) := by decide +kernel
theorem dX6_next_96 : decode cX6_next 96 = .ok (.invokestatic 69, 3) := by decide +kernel
theorem dX6_next_99 : decode cX6_next 99 = .ok (.ifCond .eq 107, 3) := by decide +kernel
theorem dX6_next_102 : decode cX6_next 102 = .ok (.aload_n 0, 1) := by decide +kernel
theorem dX6_next_103 : decode cX6_next 103 = .ok (.dup, 1) := by decide +kernel
theorem dX6_next_104 : decode cX6_next 104 = .ok (.getfield 244, 3) := by decide +kernel
theorem dX6_next_107 : decode cX6_next 107 = .ok (.iconst 1, 1) := by decide +kernel
theorem dX6_next_108 : decode cX6_next 108 = .ok (.iadd, 1) := by decide +kernel
theorem dX6_next_109 : decode cX6_next 109 = .ok (.putfield 244, 3) := by decide +kernel
theorem dX6_next_112 : decode cX6_next 112 = .ok (.goto (-28), 3) := by decide +kernel
theorem dX6_next_115 : decode cX6_next 115 = .ok (.iload_n 1, 1) := by decide +kernel
theorem dX6_next_116 : decode cX6_next 116 = .ok (.bipush 48, 2) := by decide +kernel
theorem dX6_next_118 : decode cX6_next 118 = .ok (.bipush 57, 2) := by decide +kernel
theorem dX6_next_120 : decode cX6_next 120 = .ok (.invokestatic 69, 3) := by decide +kernel
theorem dX6_next_123 : decode cX6_next 123 = .ok (.ifCond .eq 68, 3) := by decide +kernel
theorem dX6_next_126 : decode cX6_next 126 = .ok (.aload_n 0, 1) := by decide +kernel
theorem dX6_next_127 : decode cX6_next 127 = .ok (.iconst 2, 1) := by decide +kernel
theorem dX6_next_128 : decode cX6_next 128 = .ok (.putfield 256, 3) := by decide +kernel
theorem dX6_next_131 : decode cX6_next 131 = .ok (.aload_n 0, 1) := by decide +kernel
theorem dX6_next_132 : decode cX6_next 132 = .ok (.aload_n 0, 1) := by decide +kernel
theorem dX6_next_133 : decode cX6_next 133 = .ok (.getfield 244, 3) := by decide +kernel
theorem dX6_next_136 : decode cX6_next 136 = .ok (.invokevirtual 250, 3) := by decide +kernel
theorem dX6_next_139 : decode cX6_next 139 = .ok (.bipush 48, 2) := by decide +kernel
theorem dX6_next_141 : decode cX6_next 141 = .ok (.bipush 57, 2) := by decide +kernel
theorem dX6_next_143 : decode cX6_next 143 = .ok (.invokestatic 69, 3) := by decide +kernel
theorem dX6_next_146 : decode cX6_next 146 = .ok (.ifCond .eq 60, 3) := by decide +kernel
theorem dX6_next_149 : decode cX6_next 149 = .ok (.aload_n 0, 1) := by decide +kernel
theorem dX6_next_150 : decode cX6_next 150 = .ok (.sipush 1000, 3) := by decide +kernel
theorem dX6_next_153 : decode cX6_next 153 = .ok (.bipush 10, 2) := by decide +kernel
theorem dX6_next_155 : decode cX6_next 155 = .ok (.aload_n 0, 1) := by decide +kernel
theorem dX6_next_156 : decode cX6_next 156 = .ok (.getfield 253, 3) := by decide +kernel
theorem dX6_next_159 : decode cX6_next 159 = .ok (.imul, 1) := by decide +kernel
theorem dX6_next_160 : decode cX6_next 160 = .ok (.aload_n 0, 1) := by decide +kernel
theorem dX6_next_161 : decode cX6_next 161 = .ok (.aload_n 0, 1) := by decide +kernel
theorem dX6_next_162 : decode cX6_next 162 = .ok (.getfield 244, 3) := by decide +kernel
theorem dX6_next_165 : decode cX6_next 165 = .ok (.invokevirtual 250, 3) := by decide +kernel
theorem dX6_next_168 : decode cX6_next 168 = .ok (.iadd, 1) := by decide +kernel
theorem dX6_next_169 : decode cX6_next 169 = .ok (.bipush 48, 2) := by decide +kernel
theorem dX6_next_171 : decode cX6_next 171 = .ok (.isub, 1) := by decide +kernel
theorem dX6_next_172 : decode cX6_next 172 = .ok (.invokestatic 111, 3) := by decide +kernel
theorem dX6_next_175 : decode cX6_next 175 = .ok (.putfield 253, 3) := by decide +kernel
theorem dX6_next_178 : decode cX6_next 178 = .ok (.aload_n 0, 1) := by decide +kernel
theorem dX6_next_179 : decode cX6_next 179 = .ok (.dup, 1) := by decide +kernel
theorem dX6_next_180 : decode cX6_next 180 = .ok (.getfield 244, 3) := by decide +kernel
theorem dX6_next_183 : decode cX6_next 183 = .ok (.iconst 1, 1) := by decide +kernel
theorem dX6_next_184 : decode cX6_next 184 = .ok (.iadd, 1) := by decide +kernel
theorem dX6_next_185 : decode cX6_next 185 = .ok (.putfield 244, 3) := by decide +kernel
theorem dX6_next_188 : decode cX6_next 188 = .ok (.goto (-57), 3) := by decide +kernel
theorem dX6_next_191 : decode cX6_next 191 = .ok (.aload_n 0, 1) := by decide +kernel
theorem dX6_next_192 : decode cX6_next 192 = .ok (.iconst 3, 1) := by decide +kernel
theorem dX6_next_193 : decode cX6_next 193 = .ok (.putfield 256, 3) := by decide +kernel
theorem dX6_next_196 : decode cX6_next 196 = .ok (.aload_n 0, 1) := by decide +kernel
theorem dX6_next_197 : decode cX6_next 197 = .ok (.dup, 1) := by decide +kernel
theorem dX6_next_198 : decode cX6_next 198 = .ok (.getfield 244, 3) := by decide +kernel
theorem dX6_next_201 : decode cX6_next 201 = .ok (.iconst 1, 1) := by decide +kernel
theorem dX6_next_202 : decode cX6_next 202 = .ok (.iadd, 1) := by decide +kernel
theorem dX6_next_203 : decode cX6_next 203 = .ok (.putfield 244, 3) := by decide +kernel
theorem dX6_next_206 : decode cX6_next 206 = .ok (.return_, 1) := by decide +kernel
set_option maxRecDepth 20000 in
theorem ggX6_isWord_J0_length_8abf5 : GoodIn wsX6_isWord wsJ0_length_8abf5 := goodIn_r _ [9, 10, 11, 12, 13, 8, 14, 15, 16] (by decide +kernel) (by decide +kernel)
set_option maxRecDepth 20000 in
theorem gX6_isWord_J0_length_8abf5 : GoodIn wsX6_isWord (wsV RX6 259 RJ0 yJ0_length_8abf5 wsJ0_length_8abf5) := goodIn_app (goodIn_of _ (by decide +kernel)) ggX6_isWord_J0_length_8abf5
set_option maxRecDepth 20000 in
theorem ggX6_isWord_J0_charAt_5068e : GoodIn wsX6_isWord wsJ0_charAt_5068e := goodIn_r _ [20, 10, 21, 22, 23, 8, 24, 15, 16, 25, 26, 27, 28, 29, 30, 31, 32, 33, 34, 35, 36, 37, 38, 39, 40, 41, 42, 43, 44, 45, 46, 47, 48, 49, 50, 51, 52, 53] (by decide +kernel) (by decide +kernel)
set_option maxRecDepth 20000 in
theorem gX6_isWord_J0_charAt_5068e : GoodIn wsX6_isWord (wsV RX6 262 RJ0 yJ0_charAt_5068e wsJ0_charAt_5068e) := goodIn_app (goodIn_of _ (by decide +kernel)) ggX6_isWord_J0_charAt_5068e
theorem dX6_isWord_0 : decode cX6_isWord 0 = .ok (.aload_n 0, 1) := by decide +kernel
theorem dX6_isWord_1 : decode cX6_isWord 1 = .ok (.getfield 256, 3) := by decide +kernel
theorem dX6_isWord_4 : decode cX6_isWord 4 = .ok (.iconst 1, 1) := by decide +kernel
theorem dX6_isWord_5 : decode cX6_isWord 5 = .ok (.if_icmp .ne 23, 3) := by decide +kernel
theorem dX6_isWord_8 : decode cX6_isWord 8 = .ok (.aload_n 0, 1) := by decide +kernel
theorem dX6_isWord_9 : decode cX6_isWord 9 = .ok (.getfield 244, 3) := by decide +kernel
theorem dX6_isWord_12 : decode cX6_isWord 12 = .ok (.aload_n 0, 1) := by decide +kernel
theorem dX6_isWord_13 : decode cX6_isWord 13 = .ok (.getfield 247, 3) := by decide +kernel
theorem dX6_isWord_16 : decode cX6_isWord 16 = .ok (.isub, 1) := by decide +kernel
theorem dX6_isWord_17 : decode cX6_isWord 17 = .ok (.aload_n 1, 1) := by decide +kernel
theorem dX6_isWord_18 : decode cX6_isWord 18 = .ok (.invokevirtual 259, 3) := by decide +kernel
theorem dX6_isWord_21 : decode cX6_isWord 21 = .ok (.if_icmp .ne 7, 3) := by decide +kernel
theorem dX6_isWord_24 : decode cX6_isWord 24 = .ok (.iconst 1, 1) := by decide +kernel
theorem dX6_isWord_25 : decode cX6_isWord 25 = .ok (.goto 4, 3) := by decide +kernel
theorem dX6_isWord_28 : decode cX6_isWord 28 = .ok (.iconst 0, 1) := by decide +kernel
theorem dX6_isWord_29 : decode cX6_isWord 29 = .ok (.istore_n 2, 1) := by decide +kernel
theorem dX6_isWord_30 : decode cX6_isWord 30 = .ok (.iconst 0, 1) := by decide +kernel
theorem dX6_isWord_31 : decode cX6_isWord 31 = .ok (.istore_n 3, 1) := by decide +kernel
theorem dX6_isWord_32 : decode cX6_isWord 32 = .ok (.iload_n 3, 1) := by decide +kernel
theorem dX6_isWord_33 : decode cX6_isWord 33 = .ok (.aload_n 1, 1) := by decide +kernel
theorem dX6_isWord_34 : decode cX6_isWord 34 = .ok (.invokevirtual 259, 3) := by decide +kernel
theorem dX6_isWord_37 : decode cX6_isWord 37 = .ok (.if_icmp .ge 38, 3) := by decide +kernel
theorem dX6_isWord_40 : decode cX6_isWord 40 = .ok (.iload_n 2, 1) := by decide +kernel
theorem dX6_isWord_41 : decode cX6_isWord 41 = .ok (.ifCond .eq 34, 3) := by decide +kernel
theorem dX6_isWord_44 : decode cX6_isWord 44 = .ok (.aload_n 0, 1) := by decide +kernel
theorem dX6_isWord_45 : decode cX6_isWord 45 = .ok (.getfield 22, 3) := by decide +kernel
theorem dX6_isWord_48 : decode cX6_isWord 48 = .ok (.aload_n 0, 1) := by decide +kernel
theorem dX6_isWord_49 : decode cX6_isWord 49 = .ok (.getfield 247, 3) := by decide +kernel
theorem dX6_isWord_52 : decode cX6_isWord 52 = .ok (.iload_n 3, 1) := by decide +kernel
theorem dX6_isWord_53 : decode cX6_isWord 53 = .ok (.iadd, 1) := by decide +kernel
theorem dX6_isWord_54 : decode cX6_isWord 54 = .ok (.iaload, 1) := by decide +kernel
theorem dX6_isWord_55 : decode cX6_isWord 55 = .ok (.aload_n 1, 1) := by decide +kernel
theorem dX6_isWord_56 : decode cX6_isWord 56 = .ok (.iload_n 3, 1) := by decide +kernel
theorem dX6_isWord_57 : decode cX6_isWord 57 = .ok (.invokevirtual 262, 3) := by decide +kernel
theorem dX6_isWord_60 : decode cX6_isWord 60 = .ok (.if_icmp .ne 7, 3) := by decide +kernel
theorem dX6_isWord_63 : decode cX6_isWord 63 = .ok (.iconst 1, 1) := by decide +kernel
theorem dX6_isWord_64 : decode cX6_isWord 64 = .ok (.goto 4, 3) := by decide +kernel
theorem dX6_isWord_67 : decode cX6_isWord 67 = .ok (.iconst 0, 1) := by decide +kernel
theorem dX6_isWord_68 : decode cX6_isWord 68 = .ok (.istore_n 2, 1) := by decide +kernel
theorem dX6_isWord_69 : decode cX6_isWord 69 = .ok (.iinc 3 1, 3) := by decide +kernel
theorem dX6_isWord_72 : decode cX6_isWord 72 = .ok (.goto (-40), 3) := by decide +kernel
theorem dX6_isWord_75 : decode cX6_isWord 75 = .ok (.iload_n 2, 1) := by decide +kernel
theorem dX6_isWord_76 : decode cX6_isWord 76 = .ok (.ireturn, 1) := by decide +kernel
set_option maxRecDepth 20000 in
theorem ggX6_must_X6_next : GoodIn wsX6_must wsX6_next := goodIn_r _ [6, 7, 8, 9, 10, 11, 12, 13, 14, 15, 16, 17, 5, 18, 19, 20, 21, 22, 23, 24, 25, 26, 27, 28, 29, 30, 31, 32, 33, 34, 35, 36, 37, 38, 39, 40, 41, 42, 43, 44, 45] (by decide +kernel) (by decide +kernel)
set_option maxRecDepth 20000 in
theorem gX6_must_X6_next : GoodIn wsX6_must (wsV RX6 270 RX6 yX6_next wsX6_next) := goodIn_app (goodIn_of _ (by decide +kernel)) ggX6_must_X6_next
theorem dX6_must_0 : decode cX6_must 0 = .ok (.aload_n 0, 1) := by decide +kernel
theorem dX6_must_1 : decode cX6_must 1 = .ok (.aload_n 0, 1) := by decide +kernel
theorem dX6_must_2 : decode cX6_must 2 = .ok (.getfield 266, 3) := by decide +kernel
theorem dX6_must_5 : decode cX6_must 5 = .ok (.ifCond .ne 7, 3) := by decide +kernel
theorem dX6_must_8 : decode cX6_must 8 = .ok (.iload_n 1, 1) := by decide +kernel
theorem dX6_must_9 : decode cX6_must 9 = .ok (.ifCond .ne 7, 3) := by decide +kernel
theorem dX6_must_12 : decode cX6_must 12 = .ok (.iconst 1, 1) := by decide +kernel
theorem dX6_must_13 : decode cX6_must 13 = .ok (.goto 4, 3) := by decide +kernel
theorem dX6_must_16 : decode cX6_must 16 = .ok (.iconst 0, 1) := by decide +kernel
theorem dX6_must_17 : decode cX6_must 17 = .ok (.putfield 266, 3) := by decide +kernel
theorem dX6_must_20 : decode cX6_must 20 = .ok (.aload_n 0, 1) := by decide +kernel
theorem dX6_must_21 : decode cX6_must 21 = .ok (.getfield 266, 3) := by decide +kernel
theorem dX6_must_24 : decode cX6_must 24 = .ok (.ifCond .ne 7, 3) := by decide +kernel
theorem dX6_must_27 : decode cX6_must 27 = .ok (.aload_n 0, 1) := by decide +kernel
theorem dX6_must_28 : decode cX6_must 28 = .ok (.invokevirtual 270, 3) := by decide +kernel
theorem dX6_must_31 : decode cX6_must 31 = .ok (.return_, 1) := by decide +kernel
set_option maxRecDepth 20000 in
theorem ggX6_number_X6_within : GoodIn wsX6_number wsX6_within := goodIn_r _ [6] (by decide +kernel) (by decide +kernel)
set_option maxRecDepth 20000 in
theorem gX6_number_X6_within : GoodIn wsX6_number (va_wsS RX6 69 yX6_within wsX6_within) := goodIn_app (goodIn_of _ (by decide +kernel)) ggX6_number_X6_within
set_option maxRecDepth 20000 in
theorem ggX6_number_X6_must : GoodIn wsX6_number wsX6_must := goodIn_r _ [10, 11, 12, 13, 14, 5, 15, 16, 17, 1, 2, 18, 19, 20, 21, 22, 23, 24, 25, 26, 27, 3, 4, 6, 28, 29, 30, 31, 32, 33, 34, 35, 36, 37, 38, 39, 40, 41, 42, 43, 44, 45, 46, 47, 48, 49] (by decide +kernel) (by decide +kernel)
set_option maxRecDepth 20000 in
theorem gX6_number_X6_must : GoodIn wsX6_number (wsV RX6 273 RX6 yX6_must wsX6_must) := goodIn_app (goodIn_of _ (by decide +kernel)) ggX6_number_X6_must
theorem dX6_number_0 : decode cX6_number 0 = .ok (.aload_n 0, 1) := by decide +kernel
theorem dX6_number_1 : decode cX6_number 1 = .ok (.getfield 253, 3) := by decide +kernel
theorem dX6_number_4 : decode cX6_number 4 = .ok (.istore_n 3, 1) := by decide +kernel
theorem dX6_number_5 : decode cX6_number 5 = .ok (.aload_n 0, 1) := by decide +kernel
theorem dX6_number_6 : decode cX6_number 6 = .ok (.aload_n 0, 1) := by decide +kernel
theorem dX6_number_7 : decode cX6_number 7 = .ok (.getfield 256, 3) := by decide +kernel
theorem dX6_number_10 : decode cX6_number 10 = .ok (.iconst 2, 1) := by decide +kernel
theorem dX6_number_11 : decode cX6_number 11 = .ok (.if_icmp .ne 16, 3) := by decide +kernel
theorem dX6_number_14 : decode cX6_number 14 = .ok (.iload_n 3, 1) := by decide +kernel
theorem dX6_number_15 : decode cX6_number 15 = .ok (.iload_n 1, 1) := by decide +kernel
theorem dX6_number_16 : decode cX6_number 16 = .ok (.iload_n 2, 1) := by decide +kernel
theorem dX6_number_17 : decode cX6_number 17 = .ok (.invokestatic 69, 3) := by decide +kernel
theorem dX6_number_20 : decode cX6_number 20 = .ok (.ifCond .eq 7, 3) := by decide +kernel
theorem dX6_number_23 : decode cX6_number 23 = .ok (.iconst 1, 1) := by decide +kernel
theorem dX6_number_24 : decode cX6_number 24 = .ok (.goto 4, 3) := by decide +kernel
theorem dX6_number_27 : decode cX6_number 27 = .ok (.iconst 0, 1) := by decide +kernel
theorem dX6_number_28 : decode cX6_number 28 = .ok (.invokevirtual 273, 3) := by decide +kernel
theorem dX6_number_31 : decode cX6_number 31 = .ok (.iload_n 3, 1) := by decide +kernel
theorem dX6_number_32 : decode cX6_number 32 = .ok (.ireturn, 1) := by decide +kernel
theorem dX6_row_0 : decode cX6_row 0 = .ok (.aload_n 0, 1) := by decide +kernel
theorem dX6_row_1 : decode cX6_row 1 = .ok (.getfield 45, 3) := by decide +kernel
theorem dX6_row_4 : decode cX6_row 4 = .ok (.iconst 2, 1) := by decide +kernel
theorem dX6_row_5 : decode cX6_row 5 = .ok (.aload_n 0, 1) := by decide +kernel
theorem dX6_row_6 : decode cX6_row 6 = .ok (.getfield 277, 3) := by decide +kernel
theorem dX6_row_9 : decode cX6_row 9 = .ok (.imul, 1) := by decide +kernel
theorem dX6_row_10 : decode cX6_row 10 = .ok (.iload_n 1, 1) := by decide +kernel
theorem dX6_row_11 : decode cX6_row 11 = .ok (.iastore, 1) := by decide +kernel
theorem dX6_row_12 : decode cX6_row 12 = .ok (.aload_n 0, 1) := by decide +kernel
theorem dX6_row_13 : decode cX6_row 13 = .ok (.getfield 45, 3) := by decide +kernel
theorem dX6_row_16 : decode cX6_row 16 = .ok (.iconst 2, 1) := by decide +kernel
theorem dX6_row_17 : decode cX6_row 17 = .ok (.aload_n 0, 1) := by decide +kernel
theorem dX6_row_18 : decode cX6_row 18 = .ok (.getfield 277, 3) := by decide +kernel
theorem dX6_row_21 : decode cX6_row 21 = .ok (.imul, 1) := by decide +kernel
theorem dX6_row_22 : decode cX6_row 22 = .ok (.iconst 1, 1) := by decide +kernel
theorem dX6_row_23 : decode cX6_row 23 = .ok (.iadd, 1) := by decide +kernel
theorem dX6_row_24 : decode cX6_row 24 = .ok (.iload_n 2, 1) := by decide +kernel
theorem dX6_row_25 : decode cX6_row 25 = .ok (.iastore, 1) := by decide +kernel
theorem dX6_row_26 : decode cX6_row 26 = .ok (.aload_n 0, 1) := by decide +kernel
theorem dX6_row_27 : decode cX6_row 27 = .ok (.dup, 1) := by decide +kernel
theorem dX6_row_28 : decode cX6_row 28 = .ok (.getfield 277, 3) := by decide +kernel
theorem dX6_row_31 : decode cX6_row 31 = .ok (.iconst 1, 1) := by decide +kernel
theorem dX6_row_32 : decode cX6_row 32 = .ok (.iadd, 1) := by decide +kernel
theorem dX6_row_33 : decode cX6_row 33 = .ok (.putfield 277, 3) := by decide +kernel
theorem dX6_row_36 : decode cX6_row 36 = .ok (.return_, 1) := by decide +kernel
set_option maxRecDepth 20000 in
theorem ggX6_kindTold_X6_isWord : GoodIn wsX6_kindTold wsX6_isWord := goodIn_r _ [6, 7, 8, 9, 10, 11, 12, 13, 14, 15, 16, 17, 18, 19, 20, 21, 22, 23, 24, 25, 26, 27, 28, 29, 30, 31, 32, 33, 34, 35, 36, 37, 38, 39, 40, 41, 42, 43, 44, 45, 46, 47, 48, 49, 50, 51, 52, 53, 54, 55, 56, 57, 58, 59, 60, 61, 62, 63, 64, 65, 66, 67, 68, 69, 70, 71, 72, 73, 74, 75, 76, 77, 78, 79, 80, 81] (by decide +kernel) (by decide +kernel)
set_option maxRecDepth 20000 in
theorem gX6_kindTold_X6_isWord : GoodIn wsX6_kindTold (wsV RX6 280 RX6 yX6_isWord wsX6_isWord) := goodIn_app (goodIn_of _ (by decide +kernel)) ggX6_kindTold_X6_isWord
theorem dX6_kindTold_0 : decode cX6_kindTold 0 = .ok (.iconst (-1), 1) := by decide +kernel
theorem dX6_kindTold_1 : decode cX6_kindTold 1 = .ok (.istore_n 1, 1) := by decide +kernel
theorem dX6_kindTold_2 : decode cX6_kindTold 2 = .ok (.iconst 0, 1) := by decide +kernel
theorem dX6_kindTold_3 : decode cX6_kindTold 3 = .ok (.istore_n 2, 1) := by decide +kernel
theorem dX6_kindTold_4 : decode cX6_kindTold 4 = .ok (.iload_n 2, 1) := by decide +kernel
theorem dX6_kindTold_5 : decode cX6_kindTold 5 = .ok (.aload_n 0, 1) := by decide +kernel
theorem dX6_kindTold_6 : decode cX6_kindTold 6 = .ok (.getfield 41, 3) := by decide +kernel
theorem dX6_kindTold_9 : decode cX6_kindTold 9 = .ok (.arraylength, 1) := by decide +kernel
theorem dX6_kindTold_10 : decode cX6_kindTold 10 = .ok (.if_icmp .ge 28, 3) := by decide +kernel
theorem dX6_kindTold_13 : decode cX6_kindTold 13 = .ok (.aload_n 0, 1) := by decide +kernel
theorem dX6_kindTold_14 : decode cX6_kindTold 14 = .ok (.aload_n 0, 1) := by decide +kernel
theorem dX6_kindTold_15 : decode cX6_kindTold 15 = .ok (.getfield 41, 3) := by decide +kernel
theorem dX6_kindTold_18 : decode cX6_kindTold 18 = .ok (.iload_n 2, 1) := by decide +kernel
theorem dX6_kindTold_19 : decode cX6_kindTold 19 = .ok (.aaload, 1) := by decide +kernel
theorem dX6_kindTold_20 : decode cX6_kindTold 20 = .ok (.invokevirtual 280, 3) := by decide +kernel
theorem dX6_kindTold_23 : decode cX6_kindTold 23 = .ok (.ifCond .eq 7, 3) := by decide +kernel
theorem dX6_kindTold_26 : decode cX6_kindTold 26 = .ok (.iload_n 2, 1) := by decide +kernel
theorem dX6_kindTold_27 : decode cX6_kindTold 27 = .ok (.goto 4, 3) := by decide +kernel
theorem dX6_kindTold_30 : decode cX6_kindTold 30 = .ok (.iload_n 1, 1) := by decide +kernel
theorem dX6_kindTold_31 : decode cX6_kindTold 31 = .ok (.istore_n 1, 1) := by decide +kernel
theorem dX6_kindTold_32 : decode cX6_kindTold 32 = .ok (.iinc 2 1, 3) := by decide +kernel
theorem dX6_kindTold_35 : decode cX6_kindTold 35 = .ok (.goto (-31), 3) := by decide +kernel
theorem dX6_kindTold_38 : decode cX6_kindTold 38 = .ok (.iload_n 1, 1) := by decide +kernel
theorem dX6_kindTold_39 : decode cX6_kindTold 39 = .ok (.ireturn, 1) := by decide +kernel
set_option maxRecDepth 20000 in
theorem ggX6_isNext_X6_isWord : GoodIn wsX6_isNext wsX6_isWord := goodIn_r _ [6, 7, 8, 9, 10, 11, 12, 13, 14, 15, 16, 17, 18, 19, 20, 21, 22, 23, 24, 25, 26, 27, 28, 29, 30, 31, 32, 33, 34, 35, 36, 37, 38, 39, 40, 41, 42, 43, 44, 45, 46, 47, 48, 49, 50, 51, 52, 53, 54, 55, 56, 57, 58, 59, 81, 82, 83, 84, 85, 86, 87, 88, 89, 90, 91, 92, 93, 94, 95, 96, 97, 98, 99, 100, 101, 102] (by decide +kernel) (by decide +kernel)
set_option maxRecDepth 20000 in
theorem gX6_isNext_X6_isWord : GoodIn wsX6_isNext (wsV RX6 280 RX6 yX6_isWord wsX6_isWord) := goodIn_app (goodIn_of _ (by decide +kernel)) ggX6_isNext_X6_isWord
set_option maxRecDepth 20000 in
theorem ggX6_isNext_X6_must : GoodIn wsX6_isNext wsX6_must := goodIn_r _ [63, 1, 64, 65, 66, 5, 67, 8, 9, 68, 7, 69, 70, 71, 72, 73, 74, 75, 76, 77, 10, 78, 79, 80, 81, 82, 83, 84, 85, 86, 87, 88, 89, 90, 91, 92, 93, 94, 95, 96, 97, 98, 99, 100, 101, 102] (by decide +kernel) (by decide +kernel)
set_option maxRecDepth 20000 in
theorem gX6_isNext_X6_must : GoodIn wsX6_isNext (wsV RX6 273 RX6 yX6_must wsX6_must) := goodIn_app (goodIn_of _ (by decide +kernel)) ggX6_isNext_X6_must
theorem dX6_isNext_0 : decode cX6_isNext 0 = .ok (.aload_n 0, 1) := by decide +kernel
theorem dX6_isNext_1 : decode cX6_isNext 1 = .ok (.getfield 266, 3) := by decide +kernel
theorem dX6_isNext_4 : decode cX6_isNext 4 = .ok (.ifCond .ne 15, 3) := by decide +kernel
theorem dX6_isNext_7 : decode cX6_isNext 7 = .ok (.aload_n 0, 1) := by decide +kernel
theorem dX6_isNext_8 : decode cX6_isNext 8 = .ok (.aload_n 1, 1) := by decide +kernel
theorem dX6_isNext_9 : decode cX6_isNext 9 = .ok (.invokevirtual 280, 3) := by decide +kernel
theorem dX6_isNext_12 : decode cX6_isNext 12 = .ok (.ifCond .eq 7, 3) := by decide +kernel
theorem dX6_isNext_15 : decode cX6_isNext 15 = .ok (.iconst 1, 1) := by decide +kernel
theorem dX6_isNext_16 : decode cX6_isNext 16 = .ok (.goto 4, 3) := by decide +kernel
theorem dX6_isNext_19 : decode cX6_isNext 19 = .ok (.iconst 0, 1) := by decide +kernel
theorem dX6_isNext_20 : decode cX6_isNext 20 = .ok (.istore_n 2, 1) := by decide +kernel
theorem dX6_isNext_21 : decode cX6_isNext 21 = .ok (.iload_n 2, 1) := by decide +kernel
theorem dX6_isNext_22 : decode cX6_isNext 22 = .ok (.ifCond .eq 8, 3) := by decide +kernel
theorem dX6_isNext_25 : decode cX6_isNext 25 = .ok (.aload_n 0, 1) := by decide +kernel
theorem dX6_isNext_26 : decode cX6_isNext 26 = .ok (.iconst 1, 1) := by decide +kernel
theorem dX6_isNext_27 : decode cX6_isNext 27 = .ok (.invokevirtual 273, 3) := by decide +kernel
theorem dX6_isNext_30 : decode cX6_isNext 30 = .ok (.iload_n 2, 1) := by decide +kernel
theorem dX6_isNext_31 : decode cX6_isNext 31 = .ok (.ireturn, 1) := by decide +kernel
set_option maxRecDepth 20000 in
theorem ggX6_readItem_X6_kindTold : GoodIn wsX6_readItem wsX6_kindTold := goodIn_r _ [6, 7, 8, 9, 10, 5, 11, 12, 13, 14, 15, 16, 17, 18, 19, 20, 21, 22, 23, 24, 25, 26, 27, 28, 29, 30, 31, 32, 33, 34, 35, 36, 37, 38, 39, 40, 41, 42, 43, 44, 45, 46, 47, 48, 49, 50, 51, 52, 53, 54, 55, 56, 57, 58, 59, 60, 61, 62, 63, 64, 104, 105, 106, 107, 108, 109, 110, 111, 112, 113, 114, 115, 116, 117, 118, 119, 120, 121, 122, 123, 124, 125] (by decide +kernel) (by decide +kernel)
set_option maxRecDepth 20000 in
theorem gX6_readItem_X6_kindTold : GoodIn wsX6_readItem (wsV RX6 284 RX6 yX6_kindTold wsX6_kindTold) := goodIn_app (goodIn_of _ (by decide +kernel)) ggX6_readItem_X6_kindTold
set_option maxRecDepth 20000 in
theorem ggX6_readItem_X6_must : GoodIn wsX6_readItem wsX6_must := goodIn_r _ [68, 69, 70, 71, 72, 5, 73, 13, 14, 74, 12, 75, 76, 77, 78, 79, 80, 81, 82, 83, 15, 84, 85, 86, 104, 105, 106, 107, 108, 109, 110, 111, 112, 113, 114, 115, 116, 117, 118, 119, 120, 121, 122, 123, 124, 125] (by decide +kernel) (by decide +kernel)
set_option maxRecDepth 20000 in
theorem gX6_readItem_X6_must : GoodIn wsX6_readItem (wsV RX6 273 RX6 yX6_must wsX6_must) := goodIn_app (goodIn_of _ (by decide +kernel)) ggX6_readItem_X6_must
set_option maxRecDepth 20000 in
theorem ggX6_readItem_X6_number : GoodIn wsX6_readItem wsX6_number := goodIn_r _ [90, 74, 12, 84, 85, 5, 86, 65, 66, 67, 68, 69, 70, 71, 72, 73, 13, 14, 75, 76, 77, 78, 79, 80, 81, 82, 83, 15, 104, 105, 106, 107, 108, 109, 110, 111, 112, 113, 114, 115, 116, 117, 118, 119, 120, 121, 122, 123, 124, 125] (by decide +kernel) (by decide +kernel)
set_option maxRecDepth 20000 in
theorem gX6_readItem_X6_number : GoodIn wsX6_readItem (wsV RX6 290 RX6 yX6_number wsX6_number) := goodIn_app (goodIn_of _ (by decide +kernel)) ggX6_readItem_X6_number
set_option maxRecDepth 20000 in
theorem ggX6_readItem_X6_row : GoodIn wsX6_readItem wsX6_row := goodIn_r _ [94, 95, 96, 104, 105, 106, 107, 108, 109, 110, 111, 112, 113, 114, 115, 116, 117, 118, 119, 120, 121, 122, 123, 124, 125] (by decide +kernel) (by decide +kernel)
set_option maxRecDepth 20000 in
theorem gX6_readItem_X6_row : GoodIn wsX6_readItem (wsV RX6 293 RX6 yX6_row wsX6_row) := goodIn_app (goodIn_of _ (by decide +kernel)) ggX6_readItem_X6_row
set_option maxRecDepth 20000 in
theorem ggX6_readItem_X6_isNext : GoodIn wsX6_readItem wsX6_isNext := goodIn_r _ [100, 69, 8, 9, 10, 5, 11, 12, 13, 14, 15, 16, 17, 18, 19, 20, 21, 22, 23, 24, 25, 26, 27, 28, 29, 30, 31, 32, 33, 34, 35, 36, 37, 38, 39, 40, 41, 42, 43, 44, 45, 46, 47, 48, 49, 50, 51, 52, 53, 54, 55, 56, 57, 58, 59, 60, 61, 62, 63, 64, 65, 66, 67, 68, 70, 71, 72, 73, 74, 75, 76, 77, 78, 79, 80, 81, 82, 83, 84, 85, 86, 104, 105, 106, 107, 108, 109, 110, 111, 112, 113, 114, 115, 116, 117, 118, 119, 120, 121, 122, 123, 124, 125] (by decide +kernel) (by decide +kernel)
set_option maxRecDepth 20000 in
theorem gX6_readItem_X6_isNext : GoodIn wsX6_readItem (wsV RX6 298 RX6 yX6_isNext wsX6_isNext) := goodIn_app (goodIn_of _ (by decide +kernel)) ggX6_readItem_X6_isNext
set_option maxRecDepth 20000 in
theorem ggX6_readItem_X6_at : GoodIn wsX6_readItem wsX6_at := goodIn_r _ [103] (by decide +kernel) (by decide +kernel)
set_option maxRecDepth 20000 in
theorem gX6_readItem_X6_at : GoodIn wsX6_readItem (va_wsS RX6 60 yX6_at wsX6_at) := goodIn_app (goodIn_of _ (by decide +kernel)) ggX6_readItem_X6_at
set_option maxRecDepth 20000 in
theorem ggX6_readItem_X6_isWord : GoodIn wsX6_readItem wsX6_isWord := goodIn_r _ [11, 12, 13, 14, 15, 16, 17, 18, 19, 20, 21, 22, 23, 24, 25, 26, 27, 28, 29, 30, 31, 32, 33, 34, 35, 36, 37, 38, 39, 40, 41, 42, 43, 44, 45, 46, 47, 48, 49, 50, 51, 52, 53, 54, 55, 56, 57, 58, 59, 60, 61, 62, 63, 64, 104, 105, 106, 107, 108, 109, 110, 111, 112, 113, 114, 115, 116, 117, 118, 119, 120, 121, 122, 123, 124, 125] (by decide +kernel) (by decide +kernel)
set_option maxRecDepth 20000 in
theorem gX6_readItem_X6_isWord : GoodIn wsX6_readItem (wsV RX6 280 RX6 yX6_isWord wsX6_isWord) := goodIn_app (goodIn_of _ (by decide +kernel)) ggX6_readItem_X6_isWord
theorem dX6_readItem_0 : decode cX6_readItem 0 = .ok (.aload_n 0, 1) := by decide +kernel
theorem dX6_readItem_1 : decode cX6_readItem 1 = .ok (.invokevirtual 284, 3) := by decide +kernel
theorem dX6_readItem_4 : decode cX6_readItem 4 = .ok (.istore_n 1, 1) := by decide +kernel
theorem dX6_readItem_5 : decode cX6_readItem 5 = .ok (.aload_n 0, 1) := by decide +kernel
theorem dX6_readItem_6 : decode cX6_readItem 6 = .ok (.dup, 1) := by decide +kernel
theorem dX6_readItem_7 : decode cX6_readItem 7 = .ok (.getfield 287, 3) := by decide +kernel
theorem dX6_readItem_10 : decode cX6_readItem 10 = .ok (.iconst 1, 1) := by decide +kernel
theorem dX6_readItem_11 : decode cX6_readItem 11 = .ok (.iadd, 1) := by decide +kernel
theorem dX6_readItem_12 : decode cX6_readItem 12 = .ok (.putfield 287, 3) := by decide +kernel
theorem dX6_readItem_15 : decode cX6_readItem 15 = .ok (.iload_n 1, 1) := by decide +kernel
theorem dX6_readItem_16 : decode cX6_readItem 16 = .ok (.ifCond .lt 25, 3) := by decide +kernel
theorem dX6_readItem_19 : decode cX6_readItem 19 = .ok (.aload_n 0, 1) := by decide +kernel
theorem dX6_readItem_20 : decode cX6_readItem 20 = .ok (.iconst 1, 1) := by decide +kernel
theorem dX6_readItem_21 : decode cX6_readItem 21 = .ok (.invokevirtual 273, 3) := by decide +kernel
theorem dX6_readItem_24 : decode cX6_readItem 24 = .ok (.aload_n 0, 1) := by decide +kernel
theorem dX6_readItem_25 : decode cX6_readItem 25 = .ok (.bipush 15, 2) := by decide +kernel
theorem dX6_readItem_27 : decode cX6_readItem 27 = .ok (.aload_n 0, 1) := by decide +kernel
theorem dX6_readItem_28 : decode cX6_readItem 28 = .ok (.iconst 0, 1) := by decide +kernel
theorem dX6_readItem_29 : decode cX6_readItem 29 = .ok (.iconst 4, 1) := by decide +kernel
theorem dX6_readItem_30 : decode cX6_readItem 30 = .ok (.invokevirtual 290, 3) := by decide +kernel
theorem dX6_readItem_33 : decode cX6_readItem 33 = .ok (.iadd, 1) := by decide +kernel
theorem dX6_readItem_34 : decode cX6_readItem 34 = .ok (.iload_n 1, 1) := by decide +kernel
theorem dX6_readItem_35 : decode cX6_readItem 35 = .ok (.invokevirtual 293, 3) := by decide +kernel
theorem dX6_readItem_38 : decode cX6_readItem 38 = .ok (.goto 212, 3) := by decide +kernel
theorem dX6_readItem_41 : decode cX6_readItem 41 = .ok (.aload_n 0, 1) := by decide +kernel
theorem dX6_readItem_42 : decode cX6_readItem 42 = .ok (.ldc_w 296, 3) := by decide +kernel
theorem dX6_readItem_45 : decode cX6_readItem 45 = .ok (.invokevirtual 298, 3) := by decide +kernel
theorem dX6_readItem_48 : decode cX6_readItem 48 = .ok (.ifCond .eq 65, 3) := by decide +kernel
theorem dX6_readItem_51 : decode cX6_readItem 51 = .ok (.aload_n 0, 1) := by decide +kernel
theorem dX6_readItem_52 : decode cX6_readItem 52 = .ok (.iconst 0, 1) := by decide +kernel
theorem dX6_readItem_53 : decode cX6_readItem 53 = .ok (.iconst 1, 1) := by decide +kernel
theorem dX6_readItem_54 : decode cX6_readItem 54 = .ok (.invokevirtual 290, 3) := by decide +kernel
theorem dX6_readItem_57 : decode cX6_readItem 57 = .ok (.istore_n 2, 1) := by decide +kernel
theorem dX6_readItem_58 : decode cX6_readItem 58 = .ok (.aload_n 0, 1) := by decide +kernel
theorem dX6_readItem_59 : decode cX6_readItem 59 = .ok (.ldc_w 301, 3) := by decide +kernel
theorem dX6_readItem_62 : decode cX6_readItem 62 = .ok (.invokevirtual 298, 3) := by decide +kernel
theorem dX6_readItem_65 : decode cX6_readItem 65 = .ok (.ifCond .eq 19, 3) := by decide +kernel
theorem dX6_readItem_68 : decode cX6_readItem 68 = .ok (.aload_n 0, 1) := by decide +kernel
theorem dX6_readItem_69 : decode cX6_readItem 69 = .ok (.iload_n 2, 1) := by decide +kernel
theorem dX6_readItem_70 : decode cX6_readItem 70 = .ok (.iconst 0, 1) := by decide +kernel
theorem dX6_readItem_71 : decode cX6_readItem 71 = .ok (.invokestatic 60, 3) := by decide +kernel
theorem dX6_readItem_74 : decode cX6_readItem 74 = .ok (.aload_n 0, 1) := by decide +kernel
theorem dX6_readItem_75 : decode cX6_readItem 75 = .ok (.iconst 0, 1) := by decide +kernel
theorem dX6_readItem_76 : decode cX6_readItem 76 = .ok (.bipush 50, 2) := by decide +kernel
theorem dX6_readItem_78 : decode cX6_readItem 78 = .ok (.invokevirtual 290, 3) := by decide +kernel
theorem dX6_readItem_81 : decode cX6_readItem 81 = .ok (.invokevirtual 293, 3) := by decide +kernel
theorem dX6_readItem_84 : decode cX6_readItem 84 = .ok (.aload_n 0, 1) := by decide +kernel
theorem dX6_readItem_85 : decode cX6_readItem 85 = .ok (.ldc_w 303, 3) := by decide +kernel
theorem dX6_readItem_88 : decode cX6_readItem 88 = .ok (.invokevirtual 298, 3) := by decide +kernel
theorem dX6_readItem_91 : decode cX6_readItem 91 = .ok (.ifCond .eq 19, 3) := by decide +kernel
theorem dX6_readItem_94 : decode cX6_readItem 94 = .ok (.aload_n 0, 1) := by decide +kernel
theorem dX6_readItem_95 : decode cX6_readItem 95 = .ok (.iload_n 2, 1) := by decide +kernel
theorem dX6_readItem_96 : decode cX6_readItem 96 = .ok (.iconst 1, 1) := by decide +kernel
theorem dX6_readItem_97 : decode cX6_readItem 97 = .ok (.invokestatic 60, 3) := by decide +kernel
theorem dX6_readItem_100 : decode cX6_readItem 100 = .ok (.aload_n 0, 1) := by decide +kernel
theorem dX6_readItem_101 : decode cX6_readItem 101 = .ok (.iconst 0, 1) := by decide +kernel
theorem dX6_readItem_102 : decode cX6_readItem 102 = .ok (.bipush 9, 2) := by decide +kernel
theorem dX6_readItem_104 : decode cX6_readItem 104 = .ok (.invokevirtual 290, 3) := by decide +kernel
theorem dX6_readItem_107 : decode cX6_readItem 107 = .ok (.invokevirtual 293, 3) := by decide +kernel
theorem dX6_readItem_110 : decode cX6_readItem 110 = .ok (.goto 140, 3) := by decide +kernel
theorem dX6_readItem_113 : decode cX6_readItem 113 = .ok (.aload_n 0, 1) := by decide +kernel
theorem dX6_readItem_114 : decode cX6_readItem 114 = .ok (.ldc_w 305, 3) := by decide +kernel
theorem dX6_readItem_117 : decode cX6_readItem 117 = .ok (.invokevirtual 298, 3) := by decide +kernel
theorem dX6_readItem_120 : decode cX6_readItem 120 = .ok (.ifCond .eq 18, 3) := by decide +kernel
theorem dX6_readItem_123 : decode cX6_readItem 123 = .ok (.aload_n 0, 1) := by decide +kernel
theorem dX6_readItem_124 : decode cX6_readItem 124 = .ok (.iconst 1, 1) := by decide +kernel
theorem dX6_readItem_125 : decode cX6_readItem 125 = .ok (.aload_n 0, 1) := by decide +kernel
theorem dX6_readItem_126 : decode cX6_readItem 126 = .ok (.iconst 0, 1) := by decide +kernel
theorem dX6_readItem_127 : decode cX6_readItem 127 = .ok (.bipush 9, 2) := by decide +kernel
theorem dX6_readItem_129 : decode cX6_readItem 129 = .ok (.invokevirtual 290, 3) := by decide +kernel
theorem dX6_readItem_132 : decode cX6_readItem 132 = .ok (.invokevirtual 293, 3) := by decide +kernel
theorem dX6_readItem_135 : decode cX6_readItem 135 = .ok (.goto 115, 3) := by decide +kernel
theorem dX6_readItem_138 : decode cX6_readItem 138 = .ok (.aload_n 0, 1) := by decide +kernel
theorem dX6_readItem_139 : decode cX6_readItem 139 = .ok (.ldc_w 307, 3) := by decide +kernel
theorem dX6_readItem_142 : decode cX6_readItem 142 = .ok (.invokevirtual 280, 3) := by decide +kernel
theorem dX6_readItem_145 : decode cX6_readItem 145 = .ok (.istore_n 2, 1) := by decide +kernel
theorem dX6_readItem_146 : decode cX6_readItem 146 = .ok (.iload_n 2, 1) := by decide +kernel
theorem dX6_readItem_147 : decode cX6_readItem 147 = .ok (.ifCond .eq 8, 3) := by decide +kernel
theorem dX6_readItem_150 : decode cX6_readItem 150 = .ok (.bipush 12, 2) := by decide +kernel
theorem dX6_readItem_152 : decode cX6_readItem 152 = .ok (.goto 19, 3) := by decide +kernel
theorem dX6_readItem_155 : decode cX6_readItem 155 = .ok (.aload_n 0, 1) := by decide +kernel
theorem dX6_readItem_156 : decode cX6_readItem 156 = .ok (.ldc_w 309, 3) := by decide +kernel
theorem dX6_readItem_159 : decode cX6_readItem 159 = .ok (.invokevirtual 280, 3) := by decide +kernel
theorem dX6_readItem_162 : decode cX6_readItem 162 = .ok (.ifCond .eq 7, 3) := by decide +kernel
theorem dX6_readItem_165 : decode cX6_readItem 165 = .ok (.iconst 2, 1) := by decide +kernel
theorem dX6_readItem_166 : decode cX6_readItem 166 = .ok (.goto 5, 3) := by decide +kernel
theorem dX6_readItem_169 : decode cX6_readItem 169 = .ok (.bipush 7, 2) := by decide +kernel
theorem dX6_readItem_171 : decode cX6_readItem 171 = .ok (.istore_n 3, 1) := by decide +kernel
theorem dX6_readItem_172 : decode cX6_readItem 172 = .ok (.aload_n 0, 1) := by decide +kernel
theorem dX6_readItem_173 : decode cX6_readItem 173 = .ok (.iload_n 2, 1) := by decide +kernel
theorem dX6_readItem_174 : decode cX6_readItem 174 = .ok (.ifCond .ne 23, 3) := by decide +kernel
theorem dX6_readItem_177 : decode cX6_readItem 177 = .ok (.aload_n 0, 1) := by decide +kernel
theorem dX6_readItem_178 : decode cX6_readItem 178 = .ok (.ldc_w 309, 3) := by decide +kernel
theorem dX6_readItem_181 : decode cX6_readItem 181 = .ok (.invokevirtual 280, 3) := by decide +kernel
theorem dX6_readItem_184 : decode cX6_readItem 184 = .ok (.ifCond .ne 13, 3) := by decide +kernel
theorem dX6_readItem_187 : decode cX6_readItem 187 = .ok (.aload_n 0, 1) := by decide +kernel
theorem dX6_readItem_188 : decode cX6_readItem 188 = .ok (.ldc_w 311, 3) := by decide +kernel
theorem dX6_readItem_191 : decode cX6_readItem 191 = .ok (.invokevirtual 280, 3) := by decide +kernel
theorem dX6_readItem_194 : decode cX6_readItem 194 = .ok (.ifCond .eq 7, 3) := by decide +kernel
theorem dX6_readItem_197 : decode cX6_readItem 197 = .ok (.iconst 1, 1) := by decide +kernel
theorem dX6_readItem_198 : decode cX6_readItem 198 = .ok (.goto 4, 3) := by decide +kernel
theorem dX6_readItem_201 : decode cX6_readItem 201 = .ok (.iconst 0, 1) := by decide +kernel
theorem dX6_readItem_202 : decode cX6_readItem 202 = .ok (.invokevirtual 273, 3) := by decide +kernel
theorem dX6_readItem_205 : decode cX6_readItem 205 = .ok (.aload_n 0, 1) := by decide +kernel
theorem dX6_readItem_206 : decode cX6_readItem 206 = .ok (.iconst 0, 1) := by decide +kernel
theorem dX6_readItem_207 : decode cX6_readItem 207 = .ok (.iconst 1, 1) := by decide +kernel
theorem dX6_readItem_208 : decode cX6_readItem 208 = .ok (.invokevirtual 290, 3) := by decide +kernel
theorem dX6_readItem_211 : decode cX6_readItem 211 = .ok (.istore 4, 2) := by decide +kernel
theorem dX6_readItem_213 : decode cX6_readItem 213 = .ok (.aload_n 0, 1) := by decide +kernel
theorem dX6_readItem_214 : decode cX6_readItem 214 = .ok (.iconst 0, 1) := by decide +kernel
theorem dX6_readItem_215 : decode cX6_readItem 215 = .ok (.iconst 4, 1) := by decide +kernel
theorem dX6_readItem_216 : decode cX6_readItem 216 = .ok (.invokevirtual 290, 3) := by decide +kernel
theorem dX6_readItem_219 : decode cX6_readItem 219 = .ok (.istore 5, 2) := by decide +kernel
theorem dX6_readItem_221 : decode cX6_readItem 221 = .ok (.aload_n 0, 1) := by decide +kernel
theorem dX6_readItem_222 : decode cX6_readItem 222 = .ok (.iload 4, 2) := by decide +kernel
theorem dX6_readItem_224 : decode cX6_readItem 224 = .ok (.iload_n 3, 1) := by decide +kernel
theorem dX6_readItem_225 : decode cX6_readItem 225 = .ok (.iload 5, 2) := by decide +kernel
theorem dX6_readItem_227 : decode cX6_readItem 227 = .ok (.iadd, 1) := by decide +kernel
theorem dX6_readItem_228 : decode cX6_readItem 228 = .ok (.invokestatic 60, 3) := by decide +kernel
theorem dX6_readItem_231 : decode cX6_readItem 231 = .ok (.aload_n 0, 1) := by decide +kernel
theorem dX6_readItem_232 : decode cX6_readItem 232 = .ok (.iconst 0, 1) := by decide +kernel
theorem dX6_readItem_233 : decode cX6_readItem 233 = .ok (.iload_n 2, 1) := by decide +kernel
theorem dX6_readItem_234 : decode cX6_readItem 234 = .ok (.ifCond .eq 8, 3) := by decide +kernel
theorem dX6_readItem_237 : decode cX6_readItem 237 = .ok (.bipush 20, 2) := by decide +kernel
theorem dX6_readItem_239 : decode cX6_readItem 239 = .ok (.goto 5, 3) := by decide +kernel
theorem dX6_readItem_242 : decode cX6_readItem 242 = .ok (.bipush 99, 2) := by decide +kernel
theorem dX6_readItem_244 : decode cX6_readItem 244 = .ok (.invokevirtual 290, 3) := by decide +kernel
theorem dX6_readItem_247 : decode cX6_readItem 247 = .ok (.invokevirtual 293, 3) := by decide +kernel
theorem dX6_readItem_250 : decode cX6_readItem 250 = .ok (.return_, 1) := by decide +kernel
set_option maxRecDepth 20000 in
theorem ggX6_text_X6_next : GoodIn wsX6_text wsX6_next := goodIn_r _ [15, 1, 7, 16, 5, 17, 18, 19, 20, 21, 22, 23, 14, 24, 8, 6, 25, 26, 27, 109, 110, 111, 112, 113, 114, 115, 116, 117, 118, 119, 120, 121, 122, 123, 124, 125, 126, 127, 128, 129, 130] (by decide +kernel) (by decide +kernel)
set_option maxRecDepth 20000 in
theorem gX6_text_X6_next : GoodIn wsX6_text (wsV RX6 270 RX6 yX6_next wsX6_next) := goodIn_app (goodIn_of _ (by decide +kernel)) ggX6_text_X6_next
set_option maxRecDepth 20000 in
theorem ggX6_text_X6_readItem : GoodIn wsX6_text wsX6_readItem := goodIn_r _ [31, 4, 32, 33, 34, 14, 35, 36, 37, 38, 39, 40, 5, 1, 7, 6, 41, 42, 43, 44, 45, 46, 47, 48, 49, 50, 51, 52, 53, 54, 55, 56, 57, 58, 59, 60, 61, 62, 63, 64, 65, 66, 67, 68, 69, 70, 71, 72, 73, 74, 75, 76, 77, 78, 79, 80, 81, 82, 83, 84, 85, 86, 87, 88, 89, 90, 91, 92, 93, 2, 11, 12, 13, 15, 16, 17, 18, 19, 20, 21, 22, 23, 24, 8, 25, 26, 27, 94, 95, 96, 97, 98, 99, 100, 101, 10, 3, 102, 103, 104, 105, 106, 107, 108, 109, 110, 111, 112, 113, 114, 115, 116, 117, 118, 119, 120, 121, 122, 123, 124, 125, 126, 127, 128, 129, 130] (by decide +kernel) (by decide +kernel)
set_option maxRecDepth 20000 in
theorem gX6_text_X6_readItem : GoodIn wsX6_text (wsV RX6 313 RX6 yX6_readItem wsX6_readItem) := goodIn_app (goodIn_of _ (by decide +kernel)) ggX6_text_X6_readItem
set_option maxRecDepth 20000 in
theorem ggX6_text_X6_must : GoodIn wsX6_text wsX6_must := goodIn_r _ [93, 2, 11, 12, 13, 14, 15, 1, 7, 16, 5, 17, 18, 19, 20, 21, 22, 23, 24, 8, 6, 25, 26, 27, 109, 110, 111, 112, 113, 114, 115, 116, 117, 118, 119, 120, 121, 122, 123, 124, 125, 126, 127, 128, 129, 130] (by decide +kernel) (by decide +kernel)
set_option maxRecDepth 20000 in
theorem gX6_text_X6_must : GoodIn wsX6_text (wsV RX6 273 RX6 yX6_must wsX6_must) := goodIn_app (goodIn_of _ (by decide +kernel)) ggX6_text_X6_must
theorem dX6_text_0 : decode cX6_text 0 = .ok (.aload_n 0, 1) := by decide +kernel
theorem dX6_text_1 : decode cX6_text 1 = .ok (.iconst 0, 1) := by decide +kernel
theorem dX6_text_2 : decode cX6_text 2 = .ok (.putfield 244, 3) := by decide +kernel
theorem dX6_text_5 : decode cX6_text 5 = .ok (.aload_n 0, 1) := by decide +kernel
theorem dX6_text_6 : decode cX6_text 6 = .ok (.iconst 0, 1) := by decide +kernel
theorem dX6_text_7 : decode cX6_text 7 = .ok (.putfield 266, 3) := by decide +kernel
theorem dX6_text_10 : decode cX6_text 10 = .ok (.aload_n 0, 1) := by decide +kernel
theorem dX6_text_11 : decode cX6_text 11 = .ok (.iconst 0, 1) := by decide +kernel
theorem dX6_text_12 : decode cX6_text 12 = .ok (.putfield 277, 3) := by decide +kernel
theorem dX6_text_15 : decode cX6_text 15 = .ok (.aload_n 0, 1) := by decide +kernel
theorem dX6_text_16 : decode cX6_text 16 = .ok (.iconst 0, 1) := by decide +kernel
theorem dX6_text_17 : decode cX6_text 17 = .ok (.putfield 287, 3) := by decide +kernel
theorem dX6_text_20 : decode cX6_text 20 = .ok (.aload_n 0, 1) := by decide +kernel
theorem dX6_text_21 : decode cX6_text 21 = .ok (.invokevirtual 270, 3) := by decide +kernel
theorem dX6_text_24 : decode cX6_text 24 = .ok (.aload_n 0, 1) := by decide +kernel
theorem dX6_text_25 : decode cX6_text 25 = .ok (.invokevirtual 313, 3) := by decide +kernel
theorem dX6_text_28 : decode cX6_text 28 = .ok (.aload_n 0, 1) := by decide +kernel
theorem dX6_text_29 : decode cX6_text 29 = .ok (.getfield 266, 3) := by decide +kernel
theorem dX6_text_32 : decode cX6_text 32 = .ok (.ifCond .ne 37, 3) := by decide +kernel
theorem dX6_text_35 : decode cX6_text 35 = .ok (.aload_n 0, 1) := by decide +kernel
theorem dX6_text_36 : decode cX6_text 36 = .ok (.getfield 256, 3) := by decide +kernel
theorem dX6_text_39 : decode cX6_text 39 = .ok (.iconst 3, 1) := by decide +kernel
theorem dX6_text_40 : decode cX6_text 40 = .ok (.if_icmp .ne 29, 3) := by decide +kernel
theorem dX6_text_43 : decode cX6_text 43 = .ok (.aload_n 0, 1) := by decide +kernel
theorem dX6_text_44 : decode cX6_text 44 = .ok (.getfield 22, 3) := by decide +kernel
theorem dX6_text_47 : decode cX6_text 47 = .ok (.aload_n 0, 1) := by decide +kernel
theorem dX6_text_48 : decode cX6_text 48 = .ok (.getfield 247, 3) := by decide +kernel
theorem dX6_text_51 : decode cX6_text 51 = .ok (.iaload, 1) := by decide +kernel
theorem dX6_text_52 : decode cX6_text 52 = .ok (.bipush 59, 2) := by decide +kernel
theorem dX6_text_54 : decode cX6_text 54 = .ok (.if_icmp .ne 15, 3) := by decide +kernel
theorem dX6_text_57 : decode cX6_text 57 = .ok (.aload_n 0, 1) := by decide +kernel
theorem dX6_text_58 : decode cX6_text 58 = .ok (.iconst 1, 1) := by decide +kernel
theorem dX6_text_59 : decode cX6_text 59 = .ok (.invokevirtual 273, 3) := by decide +kernel
theorem dX6_text_62 : decode cX6_text 62 = .ok (.aload_n 0, 1) := by decide +kernel
theorem dX6_text_63 : decode cX6_text 63 = .ok (.invokevirtual 313, 3) := by decide +kernel
theorem dX6_text_66 : decode cX6_text 66 = .ok (.goto (-38), 3) := by decide +kernel
theorem dX6_text_69 : decode cX6_text 69 = .ok (.aload_n 0, 1) := by decide +kernel
theorem dX6_text_70 : decode cX6_text 70 = .ok (.aload_n 0, 1) := by decide +kernel
theorem dX6_text_71 : decode cX6_text 71 = .ok (.getfield 256, 3) := by decide +kernel
theorem dX6_text_74 : decode cX6_text 74 = .ok (.ifCond .ne 7, 3) := by decide +kernel
theorem dX6_text_77 : decode cX6_text 77 = .ok (.iconst 1, 1) := by decide +kernel
theorem dX6_text_78 : decode cX6_text 78 = .ok (.goto 4, 3) := by decide +kernel
theorem dX6_text_81 : decode cX6_text 81 = .ok (.iconst 0, 1) := by decide +kernel
theorem dX6_text_82 : decode cX6_text 82 = .ok (.invokevirtual 273, 3) := by decide +kernel
theorem dX6_text_85 : decode cX6_text 85 = .ok (.aload_n 0, 1) := by decide +kernel
theorem dX6_text_86 : decode cX6_text 86 = .ok (.iconst 0, 1) := by decide +kernel
theorem dX6_text_87 : decode cX6_text 87 = .ok (.putfield 240, 3) := by decide +kernel
theorem dX6_text_90 : decode cX6_text 90 = .ok (.aload_n 0, 1) := by decide +kernel
theorem dX6_text_91 : decode cX6_text 91 = .ok (.getfield 266, 3) := by decide +kernel
theorem dX6_text_94 : decode cX6_text 94 = .ok (.ifCond .eq 10, 3) := by decide +kernel
theorem dX6_text_97 : decode cX6_text 97 = .ok (.iconst (-1), 1) := by decide +kernel
theorem dX6_text_98 : decode cX6_text 98 = .ok (.aload_n 0, 1) := by decide +kernel
theorem dX6_text_99 : decode cX6_text 99 = .ok (.getfield 247, 3) := by decide +kernel
theorem dX6_text_102 : decode cX6_text 102 = .ok (.isub, 1) := by decide +kernel
theorem dX6_text_103 : decode cX6_text 103 = .ok (.ireturn, 1) := by decide +kernel
theorem dX6_text_104 : decode cX6_text 104 = .ok (.iconst 0, 1) := by decide +kernel
theorem dX6_text_105 : decode cX6_text 105 = .ok (.istore_n 1, 1) := by decide +kernel
theorem dX6_text_106 : decode cX6_text 106 = .ok (.iload_n 1, 1) := by decide +kernel
theorem dX6_text_107 : decode cX6_text 107 = .ok (.aload_n 0, 1) := by decide +kernel
theorem dX6_text_108 : decode cX6_text 108 = .ok (.getfield 277, 3) := by decide +kernel
theorem dX6_text_111 : decode cX6_text 111 = .ok (.if_icmp .ge 32, 3) := by decide +kernel
theorem dX6_text_114 : decode cX6_text 114 = .ok (.aload_n 0, 1) := by decide +kernel
theorem dX6_text_115 : decode cX6_text 115 = .ok (.getfield 9, 3) := by decide +kernel
theorem dX6_text_118 : decode cX6_text 118 = .ok (.aload_n 0, 1) := by decide +kernel
theorem dX6_text_119 : decode cX6_text 119 = .ok (.getfield 45, 3) := by decide +kernel
theorem dX6_text_122 : decode cX6_text 122 = .ok (.iconst 2, 1) := by decide +kernel
theorem dX6_text_123 : decode cX6_text 123 = .ok (.iload_n 1, 1) := by decide +kernel
theorem dX6_text_124 : decode cX6_text 124 = .ok (.imul, 1) := by decide +kernel
theorem dX6_text_125 : decode cX6_text 125 = .ok (.iaload, 1) := by decide +kernel
theorem dX6_text_126 : decode cX6_text 126 = .ok (.aload_n 0, 1) := by decide +kernel
theorem dX6_text_127 : decode cX6_text 127 = .ok (.getfield 45, 3) := by decide +kernel
theorem dX6_text_130 : decode cX6_text 130 = .ok (.iconst 2, 1) := by decide +kernel
theorem dX6_text_131 : decode cX6_text 131 = .ok (.iload_n 1, 1) := by decide +kernel
theorem dX6_text_132 : decode cX6_text 132 = .ok (.imul, 1) := by decide +kernel
theorem dX6_text_133 : decode cX6_text 133 = .ok (.iconst 1, 1) := by decide +kernel
theorem dX6_text_134 : decode cX6_text 134 = .ok (.iadd, 1) := by decide +kernel
theorem dX6_text_135 : decode cX6_text 135 = .ok (.iaload, 1) := by decide +kernel
theorem dX6_text_136 : decode cX6_text 136 = .ok (.iastore, 1) := by decide +kernel
theorem dX6_text_137 : decode cX6_text 137 = .ok (.iinc 1 1, 3) := by decide +kernel
theorem dX6_text_140 : decode cX6_text 140 = .ok (.goto (-34), 3) := by decide +kernel
theorem dX6_text_143 : decode cX6_text 143 = .ok (.aload_n 0, 1) := by decide +kernel
theorem dX6_text_144 : decode cX6_text 144 = .ok (.getfield 287, 3) := by decide +kernel
theorem dX6_text_147 : decode cX6_text 147 = .ok (.ireturn, 1) := by decide +kernel
set_option maxRecDepth 20000 in
theorem ggX6_isSpot_X6_within : GoodIn wsX6_isSpot wsX6_within := goodIn_r _ [4] (by decide +kernel) (by decide +kernel)
set_option maxRecDepth 20000 in
theorem gX6_isSpot_X6_within : GoodIn wsX6_isSpot (va_wsS RX6 69 yX6_within wsX6_within) := goodIn_app (goodIn_of _ (by decide +kernel)) ggX6_isSpot_X6_within
theorem dX6_isSpot_0 : decode cX6_isSpot 0 = .ok (.iload_n 0, 1) := by decide +kernel
theorem dX6_isSpot_1 : decode cX6_isSpot 1 = .ok (.iconst 0, 1) := by decide +kernel
theorem dX6_isSpot_2 : decode cX6_isSpot 2 = .ok (.bipush 9, 2) := by decide +kernel
theorem dX6_isSpot_4 : decode cX6_isSpot 4 = .ok (.invokestatic 69, 3) := by decide +kernel
theorem dX6_isSpot_7 : decode cX6_isSpot 7 = .ok (.ireturn, 1) := by decide +kernel
set_option maxRecDepth 20000 in
theorem ggX6_hold_X6_isSpot : GoodIn wsX6_hold wsX6_isSpot := goodIn_r _ [6, 7, 8, 5, 9] (by decide +kernel) (by decide +kernel)
set_option maxRecDepth 20000 in
theorem gX6_hold_X6_isSpot : GoodIn wsX6_hold (va_wsS RX6 316 yX6_isSpot wsX6_isSpot) := goodIn_app (goodIn_of _ (by decide +kernel)) ggX6_hold_X6_isSpot
set_option maxRecDepth 20000 in
theorem ggX6_hold_X6_isThing : GoodIn wsX6_hold wsX6_isThing := goodIn_r _ [12, 7, 8, 5, 9] (by decide +kernel) (by decide +kernel)
set_option maxRecDepth 20000 in
theorem gX6_hold_X6_isThing : GoodIn wsX6_hold (va_wsS RX6 73 yX6_isThing wsX6_isThing) := goodIn_app (goodIn_of _ (by decide +kernel)) ggX6_hold_X6_isThing
set_option maxRecDepth 20000 in
theorem ggX6_hold_X6_finding : GoodIn wsX6_hold wsX6_finding := goodIn_r _ [16, 17, 1, 18, 19, 20, 21, 22, 23, 24, 25, 26, 27, 28, 29, 30, 31, 32, 33, 34, 35, 36, 37, 38, 39] (by decide +kernel) (by decide +kernel)
set_option maxRecDepth 20000 in
theorem gX6_hold_X6_finding : GoodIn wsX6_hold (wsV RX6 83 RX6 yX6_finding wsX6_finding) := goodIn_app (goodIn_of _ (by decide +kernel)) ggX6_hold_X6_finding
theorem dX6_hold_0 : decode cX6_hold 0 = .ok (.iload_n 1, 1) := by decide +kernel
theorem dX6_hold_1 : decode cX6_hold 1 = .ok (.invokestatic 316, 3) := by decide +kernel
theorem dX6_hold_4 : decode cX6_hold 4 = .ok (.ifCond .eq 15, 3) := by decide +kernel
theorem dX6_hold_7 : decode cX6_hold 7 = .ok (.iload_n 2, 1) := by decide +kernel
theorem dX6_hold_8 : decode cX6_hold 8 = .ok (.iconst (-1), 1) := by decide +kernel
theorem dX6_hold_9 : decode cX6_hold 9 = .ok (.if_icmp .eq 17, 3) := by decide +kernel
theorem dX6_hold_12 : decode cX6_hold 12 = .ok (.iload_n 2, 1) := by decide +kernel
theorem dX6_hold_13 : decode cX6_hold 13 = .ok (.invokestatic 73, 3) := by decide +kernel
theorem dX6_hold_16 : decode cX6_hold 16 = .ok (.ifCond .ne 10, 3) := by decide +kernel
theorem dX6_hold_19 : decode cX6_hold 19 = .ok (.aload_n 0, 1) := by decide +kernel
theorem dX6_hold_20 : decode cX6_hold 20 = .ok (.ldc 64, 2) := by decide +kernel
theorem dX6_hold_22 : decode cX6_hold 22 = .ok (.invokevirtual 83, 3) := by decide +kernel
theorem dX6_hold_25 : decode cX6_hold 25 = .ok (.ireturn, 1) := by decide +kernel
theorem dX6_hold_26 : decode cX6_hold 26 = .ok (.aload_n 0, 1) := by decide +kernel
theorem dX6_hold_27 : decode cX6_hold 27 = .ok (.getfield 9, 3) := by decide +kernel
theorem dX6_hold_30 : decode cX6_hold 30 = .ok (.iconst 5, 1) := by decide +kernel
theorem dX6_hold_31 : decode cX6_hold 31 = .ok (.iload_n 1, 1) := by decide +kernel
theorem dX6_hold_32 : decode cX6_hold 32 = .ok (.iadd, 1) := by decide +kernel
theorem dX6_hold_33 : decode cX6_hold 33 = .ok (.iload_n 2, 1) := by decide +kernel
theorem dX6_hold_34 : decode cX6_hold 34 = .ok (.iastore, 1) := by decide +kernel
theorem dX6_hold_35 : decode cX6_hold 35 = .ok (.iconst 1, 1) := by decide +kernel
theorem dX6_hold_36 : decode cX6_hold 36 = .ok (.ireturn, 1) := by decide +kernel
set_option maxRecDepth 20000 in
theorem ggX6_as_X6_isSpot : GoodIn wsX6_as wsX6_isSpot := goodIn_r _ [8, 9, 10, 7, 11] (by decide +kernel) (by decide +kernel)
set_option maxRecDepth 20000 in
theorem gX6_as_X6_isSpot : GoodIn wsX6_as (va_wsS RX6 316 yX6_isSpot wsX6_isSpot) := goodIn_app (goodIn_of _ (by decide +kernel)) ggX6_as_X6_isSpot
set_option maxRecDepth 20000 in
theorem ggX6_as_X6_isKind : GoodIn wsX6_as wsX6_isKind := goodIn_r _ [14, 9, 10, 7, 11] (by decide +kernel) (by decide +kernel)
set_option maxRecDepth 20000 in
theorem gX6_as_X6_isKind : GoodIn wsX6_as (va_wsS RX6 77 yX6_isKind wsX6_isKind) := goodIn_app (goodIn_of _ (by decide +kernel)) ggX6_as_X6_isKind
set_option maxRecDepth 20000 in
theorem ggX6_as_X6_finding : GoodIn wsX6_as wsX6_finding := goodIn_r _ [18, 19, 1, 26, 27, 28, 29, 30, 31, 32, 33, 34, 35, 36, 37, 38, 39, 40, 41, 42, 43, 44, 45, 46, 47] (by decide +kernel) (by decide +kernel)
set_option maxRecDepth 20000 in
theorem gX6_as_X6_finding : GoodIn wsX6_as (wsV RX6 83 RX6 yX6_finding wsX6_finding) := goodIn_app (goodIn_of _ (by decide +kernel)) ggX6_as_X6_finding
set_option maxRecDepth 20000 in
theorem ggX6_as_X6_isUnder : GoodIn wsX6_as wsX6_isUnder := goodIn_r _ [22, 23, 24, 7, 25] (by decide +kernel) (by decide +kernel)
set_option maxRecDepth 20000 in
theorem gX6_as_X6_isUnder : GoodIn wsX6_as (va_wsS RX6 99 yX6_isUnder wsX6_isUnder) := goodIn_app (goodIn_of _ (by decide +kernel)) ggX6_as_X6_isUnder
theorem dX6_as_0 : decode cX6_as 0 = .ok (.iload_n 1, 1) := by decide +kernel
theorem dX6_as_1 : decode cX6_as 1 = .ok (.invokestatic 316, 3) := by decide +kernel
theorem dX6_as_4 : decode cX6_as 4 = .ok (.ifCond .eq 10, 3) := by decide +kernel
theorem dX6_as_7 : decode cX6_as 7 = .ok (.iload_n 2, 1) := by decide +kernel
theorem dX6_as_8 : decode cX6_as 8 = .ok (.invokestatic 77, 3) := by decide +kernel
theorem dX6_as_11 : decode cX6_as 11 = .ok (.ifCond .ne 10, 3) := by decide +kernel
theorem dX6_as_14 : decode cX6_as 14 = .ok (.aload_n 0, 1) := by decide +kernel
theorem dX6_as_15 : decode cX6_as 15 = .ok (.ldc 64, 2) := by decide +kernel
theorem dX6_as_17 : decode cX6_as 17 = .ok (.invokevirtual 83, 3) := by decide +kernel
theorem dX6_as_20 : decode cX6_as 20 = .ok (.ireturn, 1) := by decide +kernel
theorem dX6_as_21 : decode cX6_as 21 = .ok (.aload_n 0, 1) := by decide +kernel
theorem dX6_as_22 : decode cX6_as 22 = .ok (.getfield 9, 3) := by decide +kernel
theorem dX6_as_25 : decode cX6_as 25 = .ok (.iconst 5, 1) := by decide +kernel
theorem dX6_as_26 : decode cX6_as 26 = .ok (.iload_n 1, 1) := by decide +kernel
theorem dX6_as_27 : decode cX6_as 27 = .ok (.iadd, 1) := by decide +kernel
theorem dX6_as_28 : decode cX6_as 28 = .ok (.iaload, 1) := by decide +kernel
theorem dX6_as_29 : decode cX6_as 29 = .ok (.istore_n 3, 1) := by decide +kernel
theorem dX6_as_30 : decode cX6_as 30 = .ok (.iload_n 3, 1) := by decide +kernel
theorem dX6_as_31 : decode cX6_as 31 = .ok (.ifCond .ge 11, 3) := by decide +kernel
theorem dX6_as_34 : decode cX6_as 34 = .ok (.aload_n 0, 1) := by decide +kernel
theorem dX6_as_35 : decode cX6_as 35 = .ok (.ldc_w 319, 3) := by decide +kernel
theorem dX6_as_38 : decode cX6_as 38 = .ok (.invokevirtual 83, 3) := by decide +kernel
theorem dX6_as_41 : decode cX6_as 41 = .ok (.ireturn, 1) := by decide +kernel
theorem dX6_as_42 : decode cX6_as 42 = .ok (.aload_n 0, 1) := by decide +kernel
theorem dX6_as_43 : decode cX6_as 43 = .ok (.getfield 9, 3) := by decide +kernel
theorem dX6_as_46 : decode cX6_as 46 = .ok (.bipush 15, 2) := by decide +kernel
theorem dX6_as_48 : decode cX6_as 48 = .ok (.iload_n 3, 1) := by decide +kernel
theorem dX6_as_49 : decode cX6_as 49 = .ok (.iadd, 1) := by decide +kernel
theorem dX6_as_50 : decode cX6_as 50 = .ok (.iaload, 1) := by decide +kernel
theorem dX6_as_51 : decode cX6_as 51 = .ok (.iload_n 2, 1) := by decide +kernel
theorem dX6_as_52 : decode cX6_as 52 = .ok (.invokestatic 99, 3) := by decide +kernel
theorem dX6_as_55 : decode cX6_as 55 = .ok (.ifCond .eq 7, 3) := by decide +kernel
theorem dX6_as_58 : decode cX6_as 58 = .ok (.iload_n 3, 1) := by decide +kernel
theorem dX6_as_59 : decode cX6_as 59 = .ok (.goto 10, 3) := by decide +kernel
theorem dX6_as_62 : decode cX6_as 62 = .ok (.aload_n 0, 1) := by decide +kernel
theorem dX6_as_63 : decode cX6_as 63 = .ok (.ldc_w 320, 3) := by decide +kernel
theorem dX6_as_66 : decode cX6_as 66 = .ok (.invokevirtual 83, 3) := by decide +kernel
theorem dX6_as_69 : decode cX6_as 69 = .ok (.ireturn, 1) := by decide +kernel
set_option maxRecDepth 20000 in
theorem ggX6_isSheet_X6_within : GoodIn wsX6_isSheet wsX6_within := goodIn_r _ [4] (by decide +kernel) (by decide +kernel)
set_option maxRecDepth 20000 in
theorem gX6_isSheet_X6_within : GoodIn wsX6_isSheet (va_wsS RX6 69 yX6_within wsX6_within) := goodIn_app (goodIn_of _ (by decide +kernel)) ggX6_isSheet_X6_within
theorem dX6_isSheet_0 : decode cX6_isSheet 0 = .ok (.iload_n 0, 1) := by decide +kernel
theorem dX6_isSheet_1 : decode cX6_isSheet 1 = .ok (.iconst 0, 1) := by decide +kernel
theorem dX6_isSheet_2 : decode cX6_isSheet 2 = .ok (.iconst 3, 1) := by decide +kernel
theorem dX6_isSheet_3 : decode cX6_isSheet 3 = .ok (.invokestatic 69, 3) := by decide +kernel
theorem dX6_isSheet_6 : decode cX6_isSheet 6 = .ok (.ireturn, 1) := by decide +kernel
theorem dX6_cutTo_0 : decode cX6_cutTo 0 = .ok (.iload_n 1, 1) := by decide +kernel
theorem dX6_cutTo_1 : decode cX6_cutTo 1 = .ok (.bipush 8, 2) := by decide +kernel
theorem dX6_cutTo_3 : decode cX6_cutTo 3 = .ok (.if_icmp .ne 8, 3) := by decide +kernel
theorem dX6_cutTo_6 : decode cX6_cutTo 6 = .ok (.iload_n 0, 1) := by decide +kernel
theorem dX6_cutTo_7 : decode cX6_cutTo 7 = .ok (.i2b, 1) := by decide +kernel
theorem dX6_cutTo_8 : decode cX6_cutTo 8 = .ok (.goto 15, 3) := by decide +kernel
theorem dX6_cutTo_11 : decode cX6_cutTo 11 = .ok (.iload_n 1, 1) := by decide +kernel
theorem dX6_cutTo_12 : decode cX6_cutTo 12 = .ok (.bipush 16, 2) := by decide +kernel
theorem dX6_cutTo_14 : decode cX6_cutTo 14 = .ok (.if_icmp .ne 8, 3) := by decide +kernel
theorem dX6_cutTo_17 : decode cX6_cutTo 17 = .ok (.iload_n 0, 1) := by decide +kernel
theorem dX6_cutTo_18 : decode cX6_cutTo 18 = .ok (.i2s, 1) := by decide +kernel
theorem dX6_cutTo_19 : decode cX6_cutTo 19 = .ok (.goto 4, 3) := by decide +kernel
theorem dX6_cutTo_22 : decode cX6_cutTo 22 = .ok (.iload_n 0, 1) := by decide +kernel
theorem dX6_cutTo_23 : decode cX6_cutTo 23 = .ok (.ireturn, 1) := by decide +kernel
set_option maxRecDepth 20000 in
theorem ggX6_sheet_X6_isSheet : GoodIn wsX6_sheet wsX6_isSheet := goodIn_r _ [9, 10, 11, 8, 12] (by decide +kernel) (by decide +kernel)
set_option maxRecDepth 20000 in
theorem gX6_sheet_X6_isSheet : GoodIn wsX6_sheet (va_wsS RX6 321 yX6_isSheet wsX6_isSheet) := goodIn_app (goodIn_of _ (by decide +kernel)) ggX6_sheet_X6_isSheet
set_option maxRecDepth 20000 in
theorem ggX6_sheet_X6_finding : GoodIn wsX6_sheet wsX6_finding := goodIn_r _ [16, 17, 1, 18, 19, 20, 21, 22, 23, 24, 25, 26, 27, 28, 29, 30, 31, 32, 33, 34, 35, 36, 37, 38, 39] (by decide +kernel) (by decide +kernel)
set_option maxRecDepth 20000 in
theorem gX6_sheet_X6_finding : GoodIn wsX6_sheet (wsV RX6 83 RX6 yX6_finding wsX6_finding) := goodIn_app (goodIn_of _ (by decide +kernel)) ggX6_sheet_X6_finding
theorem dX6_sheet_0 : decode cX6_sheet 0 = .ok (.iload_n 1, 1) := by decide +kernel
theorem dX6_sheet_1 : decode cX6_sheet 1 = .ok (.invokestatic 321, 3) := by decide +kernel
theorem dX6_sheet_4 : decode cX6_sheet 4 = .ok (.ifCond .eq 25, 3) := by decide +kernel
theorem dX6_sheet_7 : decode cX6_sheet 7 = .ok (.iload_n 2, 1) := by decide +kernel
theorem dX6_sheet_8 : decode cX6_sheet 8 = .ok (.ifCond .eq 28, 3) := by decide +kernel
theorem dX6_sheet_11 : decode cX6_sheet 11 = .ok (.iload_n 2, 1) := by decide +kernel
theorem dX6_sheet_12 : decode cX6_sheet 12 = .ok (.bipush 8, 2) := by decide +kernel
theorem dX6_sheet_14 : decode cX6_sheet 14 = .ok (.if_icmp .eq 22, 3) := by decide +kernel
theorem dX6_sheet_17 : decode cX6_sheet 17 = .ok (.iload_n 2, 1) := by decide +kernel
theorem dX6_sheet_18 : decode cX6_sheet 18 = .ok (.bipush 16, 2) := by decide +kernel
theorem dX6_sheet_20 : decode cX6_sheet 20 = .ok (.if_icmp .eq 16, 3) := by decide +kernel
theorem dX6_sheet_23 : decode cX6_sheet 23 = .ok (.iload_n 2, 1) := by decide +kernel
theorem dX6_sheet_24 : decode cX6_sheet 24 = .ok (.bipush 32, 2) := by decide +kernel
theorem dX6_sheet_26 : decode cX6_sheet 26 = .ok (.if_icmp .eq 10, 3) := by decide +kernel
theorem dX6_sheet_29 : decode cX6_sheet 29 = .ok (.aload_n 0, 1) := by decide +kernel
theorem dX6_sheet_30 : decode cX6_sheet 30 = .ok (.ldc 64, 2) := by decide +kernel
theorem dX6_sheet_32 : decode cX6_sheet 32 = .ok (.invokevirtual 83, 3) := by decide +kernel
theorem dX6_sheet_35 : decode cX6_sheet 35 = .ok (.ireturn, 1) := by decide +kernel
theorem dX6_sheet_36 : decode cX6_sheet 36 = .ok (.iload_n 3, 1) := by decide +kernel
theorem dX6_sheet_37 : decode cX6_sheet 37 = .ok (.ifCond .ge 11, 3) := by decide +kernel
theorem dX6_sheet_40 : decode cX6_sheet 40 = .ok (.aload_n 0, 1) := by decide +kernel
theorem dX6_sheet_41 : decode cX6_sheet 41 = .ok (.ldc_w 324, 3) := by decide +kernel
theorem dX6_sheet_44 : decode cX6_sheet 44 = .ok (.invokevirtual 83, 3) := by decide +kernel
theorem dX6_sheet_47 : decode cX6_sheet 47 = .ok (.ireturn, 1) := by decide +kernel
theorem dX6_sheet_48 : decode cX6_sheet 48 = .ok (.iload_n 3, 1) := by decide +kernel
theorem dX6_sheet_49 : decode cX6_sheet 49 = .ok (.bipush 40, 2) := by decide +kernel
theorem dX6_sheet_51 : decode cX6_sheet 51 = .ok (.if_icmp .le 10, 3) := by decide +kernel
theorem dX6_sheet_54 : decode cX6_sheet 54 = .ok (.aload_n 0, 1) := by decide +kernel
theorem dX6_sheet_55 : decode cX6_sheet 55 = .ok (.ldc 64, 2) := by decide +kernel
theorem dX6_sheet_57 : decode cX6_sheet 57 = .ok (.invokevirtual 83, 3) := by decide +kernel
theorem dX6_sheet_60 : decode cX6_sheet 60 = .ok (.ireturn, 1) := by decide +kernel
theorem dX6_sheet_61 : decode cX6_sheet 61 = .ok (.aload_n 0, 1) := by decide +kernel
theorem dX6_sheet_62 : decode cX6_sheet 62 = .ok (.getfield 48, 3) := by decide +kernel
theorem dX6_sheet_65 : decode cX6_sheet 65 = .ok (.iload_n 1, 1) := by decide +kernel
theorem dX6_sheet_66 : decode cX6_sheet 66 = .ok (.iload_n 2, 1) := by decide +kernel
theorem dX6_sheet_67 : decode cX6_sheet 67 = .ok (.iastore, 1) := by decide +kernel
theorem dX6_sheet_68 : decode cX6_sheet 68 = .ok (.aload_n 0, 1) := by decide +kernel
theorem dX6_sheet_69 : decode cX6_sheet 69 = .ok (.getfield 51, 3) := by decide +kernel
theorem dX6_sheet_72 : decode cX6_sheet 72 = .ok (.iload_n 1, 1) := by decide +kernel
theorem dX6_sheet_73 : decode cX6_sheet 73 = .ok (.iload_n 2, 1) := by decide +kernel
theorem dX6_sheet_74 : decode cX6_sheet 74 = .ok (.ifCond .ne 7, 3) := by decide +kernel
theorem dX6_sheet_77 : decode cX6_sheet 77 = .ok (.iconst 0, 1) := by decide +kernel
theorem dX6_sheet_78 : decode cX6_sheet 78 = .ok (.goto 4, 3) := by decide +kernel
theorem dX6_sheet_81 : decode cX6_sheet 81 = .ok (.iload_n 3, 1) := by decide +kernel
theorem dX6_sheet_82 : decode cX6_sheet 82 = .ok (.iastore, 1) := by decide +kernel
theorem dX6_sheet_83 : decode cX6_sheet 83 = .ok (.iconst 0, 1) := by decide +kernel
theorem dX6_sheet_84 : decode cX6_sheet 84 = .ok (.istore 4, 2) := by decide +kernel
theorem dX6_sheet_86 : decode cX6_sheet 86 = .ok (.iload 4, 2) := by decide +kernel
theorem dX6_sheet_88 : decode cX6_sheet 88 = .ok (.bipush 40, 2) := by decide +kernel
theorem dX6_sheet_90 : decode cX6_sheet 90 = .ok (.if_icmp .ge 22, 3) := by decide +kernel
theorem dX6_sheet_93 : decode cX6_sheet 93 = .ok (.aload_n 0, 1) := by decide +kernel
theorem dX6_sheet_94 : decode cX6_sheet 94 = .ok (.getfield 54, 3) := by decide +kernel
theorem dX6_sheet_97 : decode cX6_sheet 97 = .ok (.bipush 40, 2) := by decide +kernel
theorem dX6_sheet_99 : decode cX6_sheet 99 = .ok (.iload_n 1, 1) := by decide +kernel
theorem dX6_sheet_100 : decode cX6_sheet 100 = .ok (.imul, 1) := by decide +kernel
theorem dX6_sheet_101 : decode cX6_sheet 101 = .ok (.iload 4, 2) := by decide +kernel
theorem dX6_sheet_103 : decode cX6_sheet 103 = .ok (.iadd, 1) := by decide +kernel
theorem dX6_sheet_104 : decode cX6_sheet 104 = .ok (.iconst 0, 1) := by decide +kernel
theorem dX6_sheet_105 : decode cX6_sheet 105 = .ok (.iastore, 1) := by decide +kernel
theorem dX6_sheet_106 : decode cX6_sheet 106 = .ok (.iinc 4 1, 3) := by decide +kernel
theorem dX6_sheet_109 : decode cX6_sheet 109 = .ok (.goto (-23), 3) := by decide +kernel
theorem dX6_sheet_112 : decode cX6_sheet 112 = .ok (.aload_n 0, 1) := by decide +kernel
theorem dX6_sheet_113 : decode cX6_sheet 113 = .ok (.getfield 51, 3) := by decide +kernel
theorem dX6_sheet_116 : decode cX6_sheet 116 = .ok (.iload_n 1, 1) := by decide +kernel
theorem dX6_sheet_117 : decode cX6_sheet 117 = .ok (.iaload, 1) := by decide +kernel
theorem dX6_sheet_118 : decode cX6_sheet 118 = .ok (.ireturn, 1) := by decide +kernel
set_option maxRecDepth 20000 in
theorem ggX6_write_X6_isSheet : GoodIn wsX6_write wsX6_isSheet := goodIn_r _ [9, 10, 11, 8, 12] (by decide +kernel) (by decide +kernel)
set_option maxRecDepth 20000 in
theorem gX6_write_X6_isSheet : GoodIn wsX6_write (va_wsS RX6 321 yX6_isSheet wsX6_isSheet) := goodIn_app (goodIn_of _ (by decide +kernel)) ggX6_write_X6_isSheet
set_option maxRecDepth 20000 in
theorem ggX6_write_X6_finding : GoodIn wsX6_write wsX6_finding := goodIn_r _ [16, 17, 1, 21, 22, 23, 24, 25, 26, 27, 28, 29, 30, 31, 32, 33, 34, 35, 36, 37, 38, 39, 40, 41, 42] (by decide +kernel) (by decide +kernel)
set_option maxRecDepth 20000 in
theorem gX6_write_X6_finding : GoodIn wsX6_write (wsV RX6 83 RX6 yX6_finding wsX6_finding) := goodIn_app (goodIn_of _ (by decide +kernel)) ggX6_write_X6_finding
set_option maxRecDepth 20000 in
theorem ggX6_write_X6_within : GoodIn wsX6_write wsX6_within := goodIn_r _ [12] (by decide +kernel) (by decide +kernel)
set_option maxRecDepth 20000 in
theorem gX6_write_X6_within : GoodIn wsX6_write (va_wsS RX6 69 yX6_within wsX6_within) := goodIn_app (goodIn_of _ (by decide +kernel)) ggX6_write_X6_within
set_option maxRecDepth 20000 in
theorem ggX6_write_X6_cutTo : GoodIn wsX6_write wsX6_cutTo := goodIn_r _ [20] (by decide +kernel) (by decide +kernel)
set_option maxRecDepth 20000 in
theorem gX6_write_X6_cutTo : GoodIn wsX6_write (va_wsS RX6 325 yX6_cutTo wsX6_cutTo) := goodIn_app (goodIn_of _ (by decide +kernel)) ggX6_write_X6_cutTo
theorem dX6_write_0 : decode cX6_write 0 = .ok (.iload_n 1, 1) := by decide +kernel
theorem dX6_write_1 : decode cX6_write 1 = .ok (.invokestatic 321, 3) := by decide +kernel
theorem dX6_write_4 : decode cX6_write 4 = .ok (.ifCond .ne 10, 3) := by decide +kernel
theorem dX6_write_7 : decode cX6_write 7 = .ok (.aload_n 0, 1) := by decide +kernel
theorem dX6_write_8 : decode cX6_write 8 = .ok (.ldc 64, 2) := by decide +kernel
theorem dX6_write_10 : decode cX6_write 10 = .ok (.invokevirtual 83, 3) := by decide +kernel
theorem dX6_write_13 : decode cX6_write 13 = .ok (.ireturn, 1) := by decide +kernel
theorem dX6_write_14 : decode cX6_write 14 = .ok (.aload_n 0, 1) := by decide +kernel
theorem dX6_write_15 : decode cX6_write 15 = .ok (.getfield 48, 3) := by decide +kernel
theorem dX6_write_18 : decode cX6_write 18 = .ok (.iload_n 1, 1) := by decide +kernel
theorem dX6_write_19 : decode cX6_write 19 = .ok (.iaload, 1) := by decide +kernel
theorem dX6_write_20 : decode cX6_write 20 = .ok (.ifCond .ne 11, 3) := by decide +kernel
theorem dX6_write_23 : decode cX6_write 23 = .ok (.aload_n 0, 1) := by decide +kernel
theorem dX6_write_24 : decode cX6_write 24 = .ok (.ldc_w 319, 3) := by decide +kernel
theorem dX6_write_27 : decode cX6_write 27 = .ok (.invokevirtual 83, 3) := by decide +kernel
theorem dX6_write_30 : decode cX6_write 30 = .ok (.ireturn, 1) := by decide +kernel
theorem dX6_write_31 : decode cX6_write 31 = .ok (.iload_n 2, 1) := by decide +kernel
theorem dX6_write_32 : decode cX6_write 32 = .ok (.iconst 0, 1) := by decide +kernel
theorem dX6_write_33 : decode cX6_write 33 = .ok (.aload_n 0, 1) := by decide +kernel
theorem dX6_write_34 : decode cX6_write 34 = .ok (.getfield 51, 3) := by decide +kernel
theorem dX6_write_37 : decode cX6_write 37 = .ok (.iload_n 1, 1) := by decide +kernel
theorem dX6_write_38 : decode cX6_write 38 = .ok (.iaload, 1) := by decide +kernel
theorem dX6_write_39 : decode cX6_write 39 = .ok (.iconst 1, 1) := by decide +kernel
theorem dX6_write_40 : decode cX6_write 40 = .ok (.isub, 1) := by decide +kernel
theorem dX6_write_41 : decode cX6_write 41 = .ok (.invokestatic 69, 3) := by decide +kernel
theorem dX6_write_44 : decode cX6_write 44 = .ok (.ifCond .ne 10, 3) := by decide +kernel
theorem dX6_write_47 : decode cX6_write 47 = .ok (.aload_n 0, 1) := by decide +kernel
theorem dX6_write_48 : decode cX6_write 48 = .ok (.ldc 64, 2) := by decide +kernel
theorem dX6_write_50 : decode cX6_write 50 = .ok (.invokevirtual 83, 3) := by decide +kernel
theorem dX6_write_53 : decode cX6_write 53 = .ok (.ireturn, 1) := by decide +kernel
theorem dX6_write_54 : decode cX6_write 54 = .ok (.aload_n 0, 1) := by decide +kernel
theorem dX6_write_55 : decode cX6_write 55 = .ok (.getfield 54, 3) := by decide +kernel
theorem dX6_write_58 : decode cX6_write 58 = .ok (.bipush 40, 2) := by decide +kernel
theorem dX6_write_60 : decode cX6_write 60 = .ok (.iload_n 1, 1) := by decide +kernel
theorem dX6_write_61 : decode cX6_write 61 = .ok (.imul, 1) := by decide +kernel
theorem dX6_write_62 : decode cX6_write 62 = .ok (.iload_n 2, 1) := by decide +kernel
theorem dX6_write_63 : decode cX6_write 63 = .ok (.iadd, 1) := by decide +kernel
theorem dX6_write_64 : decode cX6_write 64 = .ok (.iload_n 3, 1) := by decide +kernel
theorem dX6_write_65 : decode cX6_write 65 = .ok (.aload_n 0, 1) := by decide +kernel
theorem dX6_write_66 : decode cX6_write 66 = .ok (.getfield 48, 3) := by decide +kernel
theorem dX6_write_69 : decode cX6_write 69 = .ok (.iload_n 1, 1) := by decide +kernel
theorem dX6_write_70 : decode cX6_write 70 = .ok (.iaload, 1) := by decide +kernel
theorem dX6_write_71 : decode cX6_write 71 = .ok (.invokestatic 325, 3) := by decide +kernel
theorem dX6_write_74 : decode cX6_write 74 = .ok (.iastore, 1) := by decide +kernel
theorem dX6_write_75 : decode cX6_write 75 = .ok (.iconst 1, 1) := by decide +kernel
theorem dX6_write_76 : decode cX6_write 76 = .ok (.ireturn, 1) := by decide +kernel
set_option maxRecDepth 20000 in
theorem ggX6_copy_X6_isSheet : GoodIn wsX6_copy wsX6_isSheet := goodIn_r _ [11, 12, 13, 10, 14] (by decide +kernel) (by decide +kernel)
set_option maxRecDepth 20000 in
theorem gX6_copy_X6_isSheet : GoodIn wsX6_copy (va_wsS RX6 321 yX6_isSheet wsX6_isSheet) := goodIn_app (goodIn_of _ (by decide +kernel)) ggX6_copy_X6_isSheet
set_option maxRecDepth 20000 in
theorem ggX6_copy_X6_finding : GoodIn wsX6_copy wsX6_finding := goodIn_r _ [18, 19, 1, 20, 21, 22, 23, 24, 25, 26, 27, 28, 29, 30, 31, 32, 33, 34, 35, 36, 37, 38, 39, 40, 41] (by decide +kernel) (by decide +kernel)
set_option maxRecDepth 20000 in
theorem gX6_copy_X6_finding : GoodIn wsX6_copy (wsV RX6 83 RX6 yX6_finding wsX6_finding) := goodIn_app (goodIn_of _ (by decide +kernel)) ggX6_copy_X6_finding
theorem dX6_copy_0 : decode cX6_copy 0 = .ok (.iload_n 1, 1) := by decide +kernel
theorem dX6_copy_1 : decode cX6_copy 1 = .ok (.invokestatic 321, 3) := by decide +kernel
theorem dX6_copy_4 : decode cX6_copy 4 = .ok (.ifCond .eq 10, 3) := by decide +kernel
theorem dX6_copy_7 : decode cX6_copy 7 = .ok (.iload_n 3, 1) := by decide +kernel
theorem dX6_copy_8 : decode cX6_copy 8 = .ok (.invokestatic 321, 3) := by decide +kernel
theorem dX6_copy_11 : decode cX6_copy 11 = .ok (.ifCond .ne 10, 3) := by decide +kernel
theorem dX6_copy_14 : decode cX6_copy 14 = .ok (.aload_n 0, 1) := by decide +kernel
theorem dX6_copy_15 : decode cX6_copy 15 = .ok (.ldc 64, 2) := by decide +kernel
theorem dX6_copy_17 : decode cX6_copy 17 = .ok (.invokevirtual 83, 3) := by decide +kernel
theorem dX6_copy_20 : decode cX6_copy 20 = .ok (.ireturn, 1) := by decide +kernel
theorem dX6_copy_21 : decode cX6_copy 21 = .ok (.aload_n 0, 1) := by decide +kernel
theorem dX6_copy_22 : decode cX6_copy 22 = .ok (.getfield 48, 3) := by decide +kernel
theorem dX6_copy_25 : decode cX6_copy 25 = .ok (.iload_n 1, 1) := by decide +kernel
theorem dX6_copy_26 : decode cX6_copy 26 = .ok (.iaload, 1) := by decide +kernel
theorem dX6_copy_27 : decode cX6_copy 27 = .ok (.ifCond .eq 12, 3) := by decide +kernel
theorem dX6_copy_30 : decode cX6_copy 30 = .ok (.aload_n 0, 1) := by decide +kernel
theorem dX6_copy_31 : decode cX6_copy 31 = .ok (.getfield 48, 3) := by decide +kernel
theorem dX6_copy_34 : decode cX6_copy 34 = .ok (.iload_n 3, 1) := by decide +kernel
theorem dX6_copy_35 : decode cX6_copy 35 = .ok (.iaload, 1) := by decide +kernel
theorem dX6_copy_36 : decode cX6_copy 36 = .ok (.ifCond .ne 11, 3) := by decide +kernel
theorem dX6_copy_39 : decode cX6_copy 39 = .ok (.aload_n 0, 1) := by decide +kernel
theorem dX6_copy_40 : decode cX6_copy 40 = .ok (.ldc_w 319, 3) := by decide +kernel
theorem dX6_copy_43 : decode cX6_copy 43 = .ok (.invokevirtual 83, 3) := by decide +kernel
theorem dX6_copy_46 : decode cX6_copy 46 = .ok (.ireturn, 1) := by decide +kernel
theorem dX6_copy_47 : decode cX6_copy 47 = .ok (.aload_n 0, 1) := by decide +kernel
theorem dX6_copy_48 : decode cX6_copy 48 = .ok (.getfield 48, 3) := by decide +kernel
theorem dX6_copy_51 : decode cX6_copy 51 = .ok (.iload_n 1, 1) := by decide +kernel
theorem dX6_copy_52 : decode cX6_copy 52 = .ok (.iaload, 1) := by decide +kernel
theorem dX6_copy_53 : decode cX6_copy 53 = .ok (.aload_n 0, 1) := by decide +kernel
theorem dX6_copy_54 : decode cX6_copy 54 = .ok (.getfield 48, 3) := by decide +kernel
theorem dX6_copy_57 : decode cX6_copy 57 = .ok (.iload_n 3, 1) := by decide +kernel
theorem dX6_copy_58 : decode cX6_copy 58 = .ok (.iaload, 1) := by decide +kernel
theorem dX6_copy_59 : decode cX6_copy 59 = .ok (.if_icmp .eq 11, 3) := by decide +kernel
theorem dX6_copy_62 : decode cX6_copy 62 = .ok (.aload_n 0, 1) := by decide +kernel
theorem dX6_copy_63 : decode cX6_copy 63 = .ok (.ldc_w 320, 3) := by decide +kernel
theorem dX6_copy_66 : decode cX6_copy 66 = .ok (.invokevirtual 83, 3) := by decide +kernel
theorem dX6_copy_69 : decode cX6_copy 69 = .ok (.ireturn, 1) := by decide +kernel
theorem dX6_copy_70 : decode cX6_copy 70 = .ok (.iload_n 2, 1) := by decide +kernel
theorem dX6_copy_71 : decode cX6_copy 71 = .ok (.ifCond .lt 48, 3) := by decide +kernel
theorem dX6_copy_74 : decode cX6_copy 74 = .ok (.iload 4, 2) := by decide +kernel
theorem dX6_copy_76 : decode cX6_copy 76 = .ok (.ifCond .lt 43, 3) := by decide +kernel
theorem dX6_copy_79 : decode cX6_copy 79 = .ok (.iload 5, 2) := by decide +kernel
theorem dX6_copy_81 : decode cX6_copy 81 = .ok (.ifCond .lt 38, 3) := by decide +kernel
theorem dX6_copy_84 : decode cX6_copy 84 = .ok (.iload_n 2, 1) := by decide +kernel
theorem dX6_copy_85 : decode cX6_copy 85 = .ok (.i2l, 1) := by decide +kernel
theorem dX6_copy_86 : decode cX6_copy 86 = .ok (.iload 5, 2) := by decide +kernel
theorem dX6_copy_88 : decode cX6_copy 88 = .ok (.i2l, 1) := by decide +kernel
theorem dX6_copy_89 : decode cX6_copy 89 = .ok (.ladd, 1) := by decide +kernel
theorem dX6_copy_90 : decode cX6_copy 90 = .ok (.aload_n 0, 1) := by decide +kernel
theorem dX6_copy_91 : decode cX6_copy 91 = .ok (.getfield 51, 3) := by decide +kernel
theorem dX6_copy_94 : decode cX6_copy 94 = .ok (.iload_n 1, 1) := by decide +kernel
theorem dX6_copy_95 : decode cX6_copy 95 = .ok (.iaload, 1) := by decide +kernel
theorem dX6_copy_96 : decode cX6_copy 96 = .ok (.i2l, 1) := by decide +kernel
theorem dX6_copy_97 : decode cX6_copy 97 = .ok (.lcmp, 1) := by decide +kernel
theorem dX6_copy_98 : decode cX6_copy 98 = .ok (.ifCond .gt 21, 3) := by decide +kernel
theorem dX6_copy_101 : decode cX6_copy 101 = .ok (.iload 4, 2) := by decide +kernel
theorem dX6_copy_103 : decode cX6_copy 103 = .ok (.i2l, 1) := by decide +kernel
theorem dX6_copy_104 : decode cX6_copy 104 = .ok (.iload 5, 2) := by decide +kernel
theorem dX6_copy_106 : decode cX6_copy 106 = .ok (.i2l, 1) := by decide +kernel
theorem dX6_copy_107 : decode cX6_copy 107 = .ok (.ladd, 1) := by decide +kernel
theorem dX6_copy_108 : decode cX6_copy 108 = .ok (.aload_n 0, 1) := by decide +kernel
theorem dX6_copy_109 : decode cX6_copy 109 = .ok (.getfield 51, 3) := by decide +kernel
theorem dX6_copy_112 : decode cX6_copy 112 = .ok (.iload_n 3, 1) := by decide +kernel
theorem dX6_copy_113 : decode cX6_copy 113 = .ok (.iaload, 1) := by decide +kernel
theorem dX6_copy_114 : decode cX6_copy 114 = .ok (.i2l, 1) := by decide +kernel
theorem dX6_copy_115 : decode cX6_copy 115 = .ok (.lcmp, 1) := by decide +kernel
theorem dX6_copy_116 : decode cX6_copy 116 = .ok (.ifCond .le 10, 3) := by decide +kernel
theorem dX6_copy_119 : decode cX6_copy 119 = .ok (.aload_n 0, 1) := by decide +kernel
theorem dX6_copy_120 : decode cX6_copy 120 = .ok (.ldc 64, 2) := by decide +kernel
theorem dX6_copy_122 : decode cX6_copy 122 = .ok (.invokevirtual 83, 3) := by decide +kernel
theorem dX6_copy_125 : decode cX6_copy 125 = .ok (.ireturn, 1) := by decide +kernel
theorem dX6_copy_126 : decode cX6_copy 126 = .ok (.iconst 0, 1) := by decide +kernel
