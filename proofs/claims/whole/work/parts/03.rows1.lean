theorem dX0_init_0 : decode cX0_init 0 = .ok (.aload_n 0, 1) := by decide +kernel
theorem dX0_init_1 : decode cX0_init 1 = .ok (.invokespecial 5, 3) := by decide +kernel
theorem dX0_init_4 : decode cX0_init 4 = .ok (.aload_n 0, 1) := by decide +kernel
theorem dX0_init_5 : decode cX0_init 5 = .ok (.bipush 12, 2) := by decide +kernel
theorem dX0_init_7 : decode cX0_init 7 = .ok (.bipush 14, 2) := by decide +kernel
theorem dX0_init_9 : decode cX0_init 9 = .ok (.multianewarray 11 2, 4) := by decide +kernel
theorem dX0_init_13 : decode cX0_init 13 = .ok (.putfield 13, 3) := by decide +kernel
theorem dX0_init_16 : decode cX0_init 16 = .ok (.aload_n 0, 1) := by decide +kernel
theorem dX0_init_17 : decode cX0_init 17 = .ok (.iconst 0, 1) := by decide +kernel
theorem dX0_init_18 : decode cX0_init 18 = .ok (.putfield 16, 3) := by decide +kernel
theorem dX0_init_21 : decode cX0_init 21 = .ok (.aload_n 0, 1) := by decide +kernel
theorem dX0_init_22 : decode cX0_init 22 = .ok (.iconst 0, 1) := by decide +kernel
theorem dX0_init_23 : decode cX0_init 23 = .ok (.putfield 20, 3) := by decide +kernel
theorem dX0_init_26 : decode cX0_init 26 = .ok (.return_, 1) := by decide +kernel
theorem dX0_note_0 : decode cX0_note 0 = .ok (.aload_n 0, 1) := by decide +kernel
theorem dX0_note_1 : decode cX0_note 1 = .ok (.getfield 13, 3) := by decide +kernel
theorem dX0_note_4 : decode cX0_note 4 = .ok (.aload_n 0, 1) := by decide +kernel
theorem dX0_note_5 : decode cX0_note 5 = .ok (.getfield 16, 3) := by decide +kernel
theorem dX0_note_8 : decode cX0_note 8 = .ok (.aaload, 1) := by decide +kernel
theorem dX0_note_9 : decode cX0_note 9 = .ok (.astore 4, 2) := by decide +kernel
theorem dX0_note_11 : decode cX0_note 11 = .ok (.aload_n 1, 1) := by decide +kernel
theorem dX0_note_12 : decode cX0_note 12 = .ok (.getfield 23, 3) := by decide +kernel
theorem dX0_note_15 : decode cX0_note 15 = .ok (.iconst 0, 1) := by decide +kernel
theorem dX0_note_16 : decode cX0_note 16 = .ok (.aload 4, 2) := by decide +kernel
theorem dX0_note_18 : decode cX0_note 18 = .ok (.iconst 0, 1) := by decide +kernel
theorem dX0_note_19 : decode cX0_note 19 = .ok (.bipush 10, 2) := by decide +kernel
theorem dX0_note_21 : decode cX0_note 21 = .ok (.invokestatic 29, 3) := by decide +kernel
theorem dX0_note_24 : decode cX0_note 24 = .ok (.aload 4, 2) := by decide +kernel
theorem dX0_note_26 : decode cX0_note 26 = .ok (.bipush 10, 2) := by decide +kernel
theorem dX0_note_28 : decode cX0_note 28 = .ok (.aload_n 1, 1) := by decide +kernel
theorem dX0_note_29 : decode cX0_note 29 = .ok (.getfield 35, 3) := by decide +kernel
theorem dX0_note_32 : decode cX0_note 32 = .ok (.iastore, 1) := by decide +kernel
theorem dX0_note_33 : decode cX0_note 33 = .ok (.aload 4, 2) := by decide +kernel
theorem dX0_note_35 : decode cX0_note 35 = .ok (.bipush 11, 2) := by decide +kernel
theorem dX0_note_37 : decode cX0_note 37 = .ok (.aload_n 1, 1) := by decide +kernel
theorem dX0_note_38 : decode cX0_note 38 = .ok (.getfield 38, 3) := by decide +kernel
theorem dX0_note_41 : decode cX0_note 41 = .ok (.iload_n 2, 1) := by decide +kernel
theorem dX0_note_42 : decode cX0_note 42 = .ok (.iaload, 1) := by decide +kernel
theorem dX0_note_43 : decode cX0_note 43 = .ok (.iastore, 1) := by decide +kernel
theorem dX0_note_44 : decode cX0_note 44 = .ok (.aload 4, 2) := by decide +kernel
theorem dX0_note_46 : decode cX0_note 46 = .ok (.bipush 12, 2) := by decide +kernel
theorem dX0_note_48 : decode cX0_note 48 = .ok (.iload_n 2, 1) := by decide +kernel
theorem dX0_note_49 : decode cX0_note 49 = .ok (.iastore, 1) := by decide +kernel
theorem dX0_note_50 : decode cX0_note 50 = .ok (.aload 4, 2) := by decide +kernel
theorem dX0_note_52 : decode cX0_note 52 = .ok (.bipush 13, 2) := by decide +kernel
theorem dX0_note_54 : decode cX0_note 54 = .ok (.iload_n 3, 1) := by decide +kernel
theorem dX0_note_55 : decode cX0_note 55 = .ok (.iastore, 1) := by decide +kernel
theorem dX0_note_56 : decode cX0_note 56 = .ok (.aload_n 0, 1) := by decide +kernel
theorem dX0_note_57 : decode cX0_note 57 = .ok (.aload_n 0, 1) := by decide +kernel
theorem dX0_note_58 : decode cX0_note 58 = .ok (.getfield 16, 3) := by decide +kernel
theorem dX0_note_61 : decode cX0_note 61 = .ok (.iconst 1, 1) := by decide +kernel
theorem dX0_note_62 : decode cX0_note 62 = .ok (.iadd, 1) := by decide +kernel
theorem dX0_note_63 : decode cX0_note 63 = .ok (.bipush 12, 2) := by decide +kernel
theorem dX0_note_65 : decode cX0_note 65 = .ok (.irem, 1) := by decide +kernel
theorem dX0_note_66 : decode cX0_note 66 = .ok (.putfield 16, 3) := by decide +kernel
theorem dX0_note_69 : decode cX0_note 69 = .ok (.aload_n 0, 1) := by decide +kernel
theorem dX0_note_70 : decode cX0_note 70 = .ok (.bipush 12, 2) := by decide +kernel
theorem dX0_note_72 : decode cX0_note 72 = .ok (.aload_n 0, 1) := by decide +kernel
theorem dX0_note_73 : decode cX0_note 73 = .ok (.getfield 20, 3) := by decide +kernel
theorem dX0_note_76 : decode cX0_note 76 = .ok (.iconst 1, 1) := by decide +kernel
theorem dX0_note_77 : decode cX0_note 77 = .ok (.iadd, 1) := by decide +kernel
theorem dX0_note_78 : decode cX0_note 78 = .ok (.invokestatic 41, 3) := by decide +kernel
theorem dX0_note_81 : decode cX0_note 81 = .ok (.putfield 20, 3) := by decide +kernel
theorem dX0_note_84 : decode cX0_note 84 = .ok (.return_, 1) := by decide +kernel
set_option maxRecDepth 20000 in
theorem ggX0_latest_J9_floorMod_7cf53 : GoodIn wsX0_latest wsJ9_floorMod_7cf53 := goodIn_r _ [6] (by decide +kernel) (by decide +kernel)
set_option maxRecDepth 20000 in
theorem gX0_latest_J9_floorMod_7cf53 : GoodIn wsX0_latest (va_wsS RX0 47 yJ9_floorMod_7cf53 wsJ9_floorMod_7cf53) := goodIn_app (goodIn_of _ (by decide +kernel)) ggX0_latest_J9_floorMod_7cf53
theorem dX0_latest_0 : decode cX0_latest 0 = .ok (.aload_n 0, 1) := by decide +kernel
theorem dX0_latest_1 : decode cX0_latest 1 = .ok (.getfield 13, 3) := by decide +kernel
theorem dX0_latest_4 : decode cX0_latest 4 = .ok (.aload_n 0, 1) := by decide +kernel
theorem dX0_latest_5 : decode cX0_latest 5 = .ok (.getfield 16, 3) := by decide +kernel
theorem dX0_latest_8 : decode cX0_latest 8 = .ok (.iconst 1, 1) := by decide +kernel
theorem dX0_latest_9 : decode cX0_latest 9 = .ok (.isub, 1) := by decide +kernel
theorem dX0_latest_10 : decode cX0_latest 10 = .ok (.iload_n 1, 1) := by decide +kernel
theorem dX0_latest_11 : decode cX0_latest 11 = .ok (.isub, 1) := by decide +kernel
theorem dX0_latest_12 : decode cX0_latest 12 = .ok (.bipush 12, 2) := by decide +kernel
theorem dX0_latest_14 : decode cX0_latest 14 = .ok (.invokestatic 47, 3) := by decide +kernel
theorem dX0_latest_17 : decode cX0_latest 17 = .ok (.aaload, 1) := by decide +kernel
theorem dX0_latest_18 : decode cX0_latest 18 = .ok (.areturn, 1) := by decide +kernel
theorem dX0_copyFrom_0 : decode cX0_copyFrom 0 = .ok (.iconst 0, 1) := by decide +kernel
theorem dX0_copyFrom_1 : decode cX0_copyFrom 1 = .ok (.istore_n 2, 1) := by decide +kernel
theorem dX0_copyFrom_2 : decode cX0_copyFrom 2 = .ok (.iload_n 2, 1) := by decide +kernel
theorem dX0_copyFrom_3 : decode cX0_copyFrom 3 = .ok (.bipush 12, 2) := by decide +kernel
theorem dX0_copyFrom_5 : decode cX0_copyFrom 5 = .ok (.if_icmp .ge 28, 3) := by decide +kernel
theorem dX0_copyFrom_8 : decode cX0_copyFrom 8 = .ok (.aload_n 1, 1) := by decide +kernel
theorem dX0_copyFrom_9 : decode cX0_copyFrom 9 = .ok (.getfield 13, 3) := by decide +kernel
theorem dX0_copyFrom_12 : decode cX0_copyFrom 12 = .ok (.iload_n 2, 1) := by decide +kernel
theorem dX0_copyFrom_13 : decode cX0_copyFrom 13 = .ok (.aaload, 1) := by decide +kernel
theorem dX0_copyFrom_14 : decode cX0_copyFrom 14 = .ok (.iconst 0, 1) := by decide +kernel
theorem dX0_copyFrom_15 : decode cX0_copyFrom 15 = .ok (.aload_n 0, 1) := by decide +kernel
theorem dX0_copyFrom_16 : decode cX0_copyFrom 16 = .ok (.getfield 13, 3) := by decide +kernel
theorem dX0_copyFrom_19 : decode cX0_copyFrom 19 = .ok (.iload_n 2, 1) := by decide +kernel
theorem dX0_copyFrom_20 : decode cX0_copyFrom 20 = .ok (.aaload, 1) := by decide +kernel
theorem dX0_copyFrom_21 : decode cX0_copyFrom 21 = .ok (.iconst 0, 1) := by decide +kernel
theorem dX0_copyFrom_22 : decode cX0_copyFrom 22 = .ok (.bipush 14, 2) := by decide +kernel
theorem dX0_copyFrom_24 : decode cX0_copyFrom 24 = .ok (.invokestatic 29, 3) := by decide +kernel
theorem dX0_copyFrom_27 : decode cX0_copyFrom 27 = .ok (.iinc 2 1, 3) := by decide +kernel
theorem dX0_copyFrom_30 : decode cX0_copyFrom 30 = .ok (.goto (-28), 3) := by decide +kernel
theorem dX0_copyFrom_33 : decode cX0_copyFrom 33 = .ok (.aload_n 0, 1) := by decide +kernel
theorem dX0_copyFrom_34 : decode cX0_copyFrom 34 = .ok (.aload_n 1, 1) := by decide +kernel
theorem dX0_copyFrom_35 : decode cX0_copyFrom 35 = .ok (.getfield 16, 3) := by decide +kernel
theorem dX0_copyFrom_38 : decode cX0_copyFrom 38 = .ok (.putfield 16, 3) := by decide +kernel
theorem dX0_copyFrom_41 : decode cX0_copyFrom 41 = .ok (.aload_n 0, 1) := by decide +kernel
theorem dX0_copyFrom_42 : decode cX0_copyFrom 42 = .ok (.aload_n 1, 1) := by decide +kernel
theorem dX0_copyFrom_43 : decode cX0_copyFrom 43 = .ok (.getfield 20, 3) := by decide +kernel
theorem dX0_copyFrom_46 : decode cX0_copyFrom 46 = .ok (.putfield 20, 3) := by decide +kernel
theorem dX0_copyFrom_49 : decode cX0_copyFrom 49 = .ok (.return_, 1) := by decide +kernel
set_option maxRecDepth 20000 in
theorem ggX1_init_J7_fill_53178 : GoodIn wsX1_init wsJ7_fill_53178 := goodIn_r _ [18] (by decide +kernel) (by decide +kernel)
set_option maxRecDepth 20000 in
theorem gX1_init_J7_fill_53178 : GoodIn wsX1_init (va_wsS RX1 43 yJ7_fill_53178 wsJ7_fill_53178) := goodIn_app (goodIn_of _ (by decide +kernel)) ggX1_init_J7_fill_53178
theorem dX1_init_0 : decode cX1_init 0 = .ok (.aload_n 0, 1) := by decide +kernel
theorem dX1_init_1 : decode cX1_init 1 = .ok (.invokespecial 3, 3) := by decide +kernel
theorem dX1_init_4 : decode cX1_init 4 = .ok (.aload_n 0, 1) := by decide +kernel
theorem dX1_init_5 : decode cX1_init 5 = .ok (.iconst 5, 1) := by decide +kernel
theorem dX1_init_6 : decode cX1_init 6 = .ok (.newarray .int, 2) := by decide +kernel
theorem dX1_init_8 : decode cX1_init 8 = .ok (.putfield 9, 3) := by decide +kernel
theorem dX1_init_11 : decode cX1_init 11 = .ok (.aload_n 0, 1) := by decide +kernel
theorem dX1_init_12 : decode cX1_init 12 = .ok (.bipush 10, 2) := by decide +kernel
theorem dX1_init_14 : decode cX1_init 14 = .ok (.newarray .int, 2) := by decide +kernel
theorem dX1_init_16 : decode cX1_init 16 = .ok (.putfield 15, 3) := by decide +kernel
theorem dX1_init_19 : decode cX1_init 19 = .ok (.aload_n 0, 1) := by decide +kernel
theorem dX1_init_20 : decode cX1_init 20 = .ok (.bipush 10, 2) := by decide +kernel
theorem dX1_init_22 : decode cX1_init 22 = .ok (.newarray .int, 2) := by decide +kernel
theorem dX1_init_24 : decode cX1_init 24 = .ok (.putfield 18, 3) := by decide +kernel
theorem dX1_init_27 : decode cX1_init 27 = .ok (.aload_n 0, 1) := by decide +kernel
theorem dX1_init_28 : decode cX1_init 28 = .ok (.bipush 10, 2) := by decide +kernel
theorem dX1_init_30 : decode cX1_init 30 = .ok (.newarray .int, 2) := by decide +kernel
theorem dX1_init_32 : decode cX1_init 32 = .ok (.putfield 21, 3) := by decide +kernel
theorem dX1_init_35 : decode cX1_init 35 = .ok (.aload_n 0, 1) := by decide +kernel
theorem dX1_init_36 : decode cX1_init 36 = .ok (.iconst 2, 1) := by decide +kernel
theorem dX1_init_37 : decode cX1_init 37 = .ok (.newarray .int, 2) := by decide +kernel
theorem dX1_init_39 : decode cX1_init 39 = .ok (.putfield 24, 3) := by decide +kernel
theorem dX1_init_42 : decode cX1_init 42 = .ok (.aload_n 0, 1) := by decide +kernel
theorem dX1_init_43 : decode cX1_init 43 = .ok (.iconst 2, 1) := by decide +kernel
theorem dX1_init_44 : decode cX1_init 44 = .ok (.newarray .int, 2) := by decide +kernel
theorem dX1_init_46 : decode cX1_init 46 = .ok (.putfield 27, 3) := by decide +kernel
theorem dX1_init_49 : decode cX1_init 49 = .ok (.aload_n 0, 1) := by decide +kernel
theorem dX1_init_50 : decode cX1_init 50 = .ok (.iconst 0, 1) := by decide +kernel
theorem dX1_init_51 : decode cX1_init 51 = .ok (.putfield 30, 3) := by decide +kernel
theorem dX1_init_54 : decode cX1_init 54 = .ok (.aload_n 0, 1) := by decide +kernel
theorem dX1_init_55 : decode cX1_init 55 = .ok (.iconst 0, 1) := by decide +kernel
theorem dX1_init_56 : decode cX1_init 56 = .ok (.putfield 34, 3) := by decide +kernel
theorem dX1_init_59 : decode cX1_init 59 = .ok (.aload_n 0, 1) := by decide +kernel
theorem dX1_init_60 : decode cX1_init 60 = .ok (.iconst 0, 1) := by decide +kernel
theorem dX1_init_61 : decode cX1_init 61 = .ok (.putfield 37, 3) := by decide +kernel
theorem dX1_init_64 : decode cX1_init 64 = .ok (.aload_n 0, 1) := by decide +kernel
theorem dX1_init_65 : decode cX1_init 65 = .ok (.iconst 0, 1) := by decide +kernel
theorem dX1_init_66 : decode cX1_init 66 = .ok (.putfield 40, 3) := by decide +kernel
theorem dX1_init_69 : decode cX1_init 69 = .ok (.aload_n 0, 1) := by decide +kernel
theorem dX1_init_70 : decode cX1_init 70 = .ok (.getfield 15, 3) := by decide +kernel
theorem dX1_init_73 : decode cX1_init 73 = .ok (.bipush 10, 2) := by decide +kernel
theorem dX1_init_75 : decode cX1_init 75 = .ok (.invokestatic 43, 3) := by decide +kernel
theorem dX1_init_78 : decode cX1_init 78 = .ok (.aload_n 0, 1) := by decide +kernel
theorem dX1_init_79 : decode cX1_init 79 = .ok (.getfield 21, 3) := by decide +kernel
theorem dX1_init_82 : decode cX1_init 82 = .ok (.iconst 5, 1) := by decide +kernel
theorem dX1_init_83 : decode cX1_init 83 = .ok (.invokestatic 43, 3) := by decide +kernel
theorem dX1_init_86 : decode cX1_init 86 = .ok (.aload_n 0, 1) := by decide +kernel
theorem dX1_init_87 : decode cX1_init 87 = .ok (.getfield 24, 3) := by decide +kernel
theorem dX1_init_90 : decode cX1_init 90 = .ok (.iconst 2, 1) := by decide +kernel
theorem dX1_init_91 : decode cX1_init 91 = .ok (.invokestatic 43, 3) := by decide +kernel
theorem dX1_init_94 : decode cX1_init 94 = .ok (.aload_n 0, 1) := by decide +kernel
theorem dX1_init_95 : decode cX1_init 95 = .ok (.getfield 27, 3) := by decide +kernel
theorem dX1_init_98 : decode cX1_init 98 = .ok (.iconst 5, 1) := by decide +kernel
theorem dX1_init_99 : decode cX1_init 99 = .ok (.invokestatic 43, 3) := by decide +kernel
theorem dX1_init_102 : decode cX1_init 102 = .ok (.return_, 1) := by decide +kernel
theorem dX1_copyFrom_0 : decode cX1_copyFrom 0 = .ok (.aload_n 1, 1) := by decide +kernel
theorem dX1_copyFrom_1 : decode cX1_copyFrom 1 = .ok (.getfield 9, 3) := by decide +kernel
theorem dX1_copyFrom_4 : decode cX1_copyFrom 4 = .ok (.iconst 0, 1) := by decide +kernel
theorem dX1_copyFrom_5 : decode cX1_copyFrom 5 = .ok (.aload_n 0, 1) := by decide +kernel
theorem dX1_copyFrom_6 : decode cX1_copyFrom 6 = .ok (.getfield 9, 3) := by decide +kernel
theorem dX1_copyFrom_9 : decode cX1_copyFrom 9 = .ok (.iconst 0, 1) := by decide +kernel
theorem dX1_copyFrom_10 : decode cX1_copyFrom 10 = .ok (.iconst 5, 1) := by decide +kernel
theorem dX1_copyFrom_11 : decode cX1_copyFrom 11 = .ok (.invokestatic 49, 3) := by decide +kernel
theorem dX1_copyFrom_14 : decode cX1_copyFrom 14 = .ok (.aload_n 1, 1) := by decide +kernel
theorem dX1_copyFrom_15 : decode cX1_copyFrom 15 = .ok (.getfield 15, 3) := by decide +kernel
theorem dX1_copyFrom_18 : decode cX1_copyFrom 18 = .ok (.iconst 0, 1) := by decide +kernel
theorem dX1_copyFrom_19 : decode cX1_copyFrom 19 = .ok (.aload_n 0, 1) := by decide +kernel
theorem dX1_copyFrom_20 : decode cX1_copyFrom 20 = .ok (.getfield 15, 3) := by decide +kernel
theorem dX1_copyFrom_23 : decode cX1_copyFrom 23 = .ok (.iconst 0, 1) := by decide +kernel
theorem dX1_copyFrom_24 : decode cX1_copyFrom 24 = .ok (.bipush 10, 2) := by decide +kernel
theorem dX1_copyFrom_26 : decode cX1_copyFrom 26 = .ok (.invokestatic 49, 3) := by decide +kernel
theorem dX1_copyFrom_29 : decode cX1_copyFrom 29 = .ok (.aload_n 1, 1) := by decide +kernel
theorem dX1_copyFrom_30 : decode cX1_copyFrom 30 = .ok (.getfield 18, 3) := by decide +kernel
theorem dX1_copyFrom_33 : decode cX1_copyFrom 33 = .ok (.iconst 0, 1) := by decide +kernel
theorem dX1_copyFrom_34 : decode cX1_copyFrom 34 = .ok (.aload_n 0, 1) := by decide +kernel
theorem dX1_copyFrom_35 : decode cX1_copyFrom 35 = .ok (.getfield 18, 3) := by decide +kernel
theorem dX1_copyFrom_38 : decode cX1_copyFrom 38 = .ok (.iconst 0, 1) := by decide +kernel
theorem dX1_copyFrom_39 : decode cX1_copyFrom 39 = .ok (.bipush 10, 2) := by decide +kernel
theorem dX1_copyFrom_41 : decode cX1_copyFrom 41 = .ok (.invokestatic 49, 3) := by decide +kernel
theorem dX1_copyFrom_44 : decode cX1_copyFrom 44 = .ok (.aload_n 1, 1) := by decide +kernel
theorem dX1_copyFrom_45 : decode cX1_copyFrom 45 = .ok (.getfield 21, 3) := by decide +kernel
theorem dX1_copyFrom_48 : decode cX1_copyFrom 48 = .ok (.iconst 0, 1) := by decide +kernel
theorem dX1_copyFrom_49 : decode cX1_copyFrom 49 = .ok (.aload_n 0, 1) := by decide +kernel
theorem dX1_copyFrom_50 : decode cX1_copyFrom 50 = .ok (.getfield 21, 3) := by decide +kernel
theorem dX1_copyFrom_53 : decode cX1_copyFrom 53 = .ok (.iconst 0, 1) := by decide +kernel
theorem dX1_copyFrom_54 : decode cX1_copyFrom 54 = .ok (.bipush 10, 2) := by decide +kernel
theorem dX1_copyFrom_56 : decode cX1_copyFrom 56 = .ok (.invokestatic 49, 3) := by decide +kernel
theorem dX1_copyFrom_59 : decode cX1_copyFrom 59 = .ok (.aload_n 1, 1) := by decide +kernel
theorem dX1_copyFrom_60 : decode cX1_copyFrom 60 = .ok (.getfield 24, 3) := by decide +kernel
theorem dX1_copyFrom_63 : decode cX1_copyFrom 63 = .ok (.iconst 0, 1) := by decide +kernel
theorem dX1_copyFrom_64 : decode cX1_copyFrom 64 = .ok (.aload_n 0, 1) := by decide +kernel
theorem dX1_copyFrom_65 : decode cX1_copyFrom 65 = .ok (.getfield 24, 3) := by decide +kernel
theorem dX1_copyFrom_68 : decode cX1_copyFrom 68 = .ok (.iconst 0, 1) := by decide +kernel
theorem dX1_copyFrom_69 : decode cX1_copyFrom 69 = .ok (.iconst 2, 1) := by decide +kernel
theorem dX1_copyFrom_70 : decode cX1_copyFrom 70 = .ok (.invokestatic 49, 3) := by decide +kernel
theorem dX1_copyFrom_73 : decode cX1_copyFrom 73 = .ok (.aload_n 1, 1) := by decide +kernel
theorem dX1_copyFrom_74 : decode cX1_copyFrom 74 = .ok (.getfield 27, 3) := by decide +kernel
theorem dX1_copyFrom_77 : decode cX1_copyFrom 77 = .ok (.iconst 0, 1) := by decide +kernel
theorem dX1_copyFrom_78 : decode cX1_copyFrom 78 = .ok (.aload_n 0, 1) := by decide +kernel
theorem dX1_copyFrom_79 : decode cX1_copyFrom 79 = .ok (.getfield 27, 3) := by decide +kernel
theorem dX1_copyFrom_82 : decode cX1_copyFrom 82 = .ok (.iconst 0, 1) := by decide +kernel
theorem dX1_copyFrom_83 : decode cX1_copyFrom 83 = .ok (.iconst 2, 1) := by decide +kernel
theorem dX1_copyFrom_84 : decode cX1_copyFrom 84 = .ok (.invokestatic 49, 3) := by decide +kernel
theorem dX1_copyFrom_87 : decode cX1_copyFrom 87 = .ok (.aload_n 0, 1) := by decide +kernel
theorem dX1_copyFrom_88 : decode cX1_copyFrom 88 = .ok (.aload_n 1, 1) := by decide +kernel
theorem dX1_copyFrom_89 : decode cX1_copyFrom 89 = .ok (.getfield 30, 3) := by decide +kernel
theorem dX1_copyFrom_92 : decode cX1_copyFrom 92 = .ok (.putfield 30, 3) := by decide +kernel
theorem dX1_copyFrom_95 : decode cX1_copyFrom 95 = .ok (.aload_n 0, 1) := by decide +kernel
theorem dX1_copyFrom_96 : decode cX1_copyFrom 96 = .ok (.aload_n 1, 1) := by decide +kernel
theorem dX1_copyFrom_97 : decode cX1_copyFrom 97 = .ok (.getfield 34, 3) := by decide +kernel
theorem dX1_copyFrom_100 : decode cX1_copyFrom 100 = .ok (.putfield 34, 3) := by decide +kernel
theorem dX1_copyFrom_103 : decode cX1_copyFrom 103 = .ok (.aload_n 0, 1) := by decide +kernel
theorem dX1_copyFrom_104 : decode cX1_copyFrom 104 = .ok (.aload_n 1, 1) := by decide +kernel
theorem dX1_copyFrom_105 : decode cX1_copyFrom 105 = .ok (.getfield 37, 3) := by decide +kernel
theorem dX1_copyFrom_108 : decode cX1_copyFrom 108 = .ok (.putfield 37, 3) := by decide +kernel
theorem dX1_copyFrom_111 : decode cX1_copyFrom 111 = .ok (.aload_n 0, 1) := by decide +kernel
theorem dX1_copyFrom_112 : decode cX1_copyFrom 112 = .ok (.aload_n 1, 1) := by decide +kernel
theorem dX1_copyFrom_113 : decode cX1_copyFrom 113 = .ok (.getfield 40, 3) := by decide +kernel
theorem dX1_copyFrom_116 : decode cX1_copyFrom 116 = .ok (.putfield 40, 3) := by decide +kernel
theorem dX1_copyFrom_119 : decode cX1_copyFrom 119 = .ok (.return_, 1) := by decide +kernel
theorem dX1_standAs_0 : decode cX1_standAs 0 = .ok (.aload_n 1, 1) := by decide +kernel
theorem dX1_standAs_1 : decode cX1_standAs 1 = .ok (.iconst 0, 1) := by decide +kernel
theorem dX1_standAs_2 : decode cX1_standAs 2 = .ok (.aload_n 0, 1) := by decide +kernel
theorem dX1_standAs_3 : decode cX1_standAs 3 = .ok (.getfield 18, 3) := by decide +kernel
theorem dX1_standAs_6 : decode cX1_standAs 6 = .ok (.iconst 0, 1) := by decide +kernel
theorem dX1_standAs_7 : decode cX1_standAs 7 = .ok (.bipush 10, 2) := by decide +kernel
theorem dX1_standAs_9 : decode cX1_standAs 9 = .ok (.invokestatic 49, 3) := by decide +kernel
theorem dX1_standAs_12 : decode cX1_standAs 12 = .ok (.aload_n 0, 1) := by decide +kernel
theorem dX1_standAs_13 : decode cX1_standAs 13 = .ok (.aload_n 1, 1) := by decide +kernel
theorem dX1_standAs_14 : decode cX1_standAs 14 = .ok (.bipush 10, 2) := by decide +kernel
theorem dX1_standAs_16 : decode cX1_standAs 16 = .ok (.iaload, 1) := by decide +kernel
theorem dX1_standAs_17 : decode cX1_standAs 17 = .ok (.putfield 30, 3) := by decide +kernel
theorem dX1_standAs_20 : decode cX1_standAs 20 = .ok (.aload_n 0, 1) := by decide +kernel
theorem dX1_standAs_21 : decode cX1_standAs 21 = .ok (.getfield 27, 3) := by decide +kernel
theorem dX1_standAs_24 : decode cX1_standAs 24 = .ok (.aload_n 1, 1) := by decide +kernel
theorem dX1_standAs_25 : decode cX1_standAs 25 = .ok (.bipush 12, 2) := by decide +kernel
theorem dX1_standAs_27 : decode cX1_standAs 27 = .ok (.iaload, 1) := by decide +kernel
theorem dX1_standAs_28 : decode cX1_standAs 28 = .ok (.aload_n 1, 1) := by decide +kernel
theorem dX1_standAs_29 : decode cX1_standAs 29 = .ok (.bipush 11, 2) := by decide +kernel
theorem dX1_standAs_31 : decode cX1_standAs 31 = .ok (.iaload, 1) := by decide +kernel
theorem dX1_standAs_32 : decode cX1_standAs 32 = .ok (.iastore, 1) := by decide +kernel
theorem dX1_standAs_33 : decode cX1_standAs 33 = .ok (.return_, 1) := by decide +kernel
theorem dX1_stock_0 : decode cX1_stock 0 = .ok (.iload_n 1, 1) := by decide +kernel
theorem dX1_stock_1 : decode cX1_stock 1 = .ok (.lookupswitch 37 #[(0, 27), (1, 32)], 27) := by decide +kernel
theorem dX1_stock_28 : decode cX1_stock 28 = .ok (.aload_n 0, 1) := by decide +kernel
theorem dX1_stock_29 : decode cX1_stock 29 = .ok (.getfield 15, 3) := by decide +kernel
theorem dX1_stock_32 : decode cX1_stock 32 = .ok (.areturn, 1) := by decide +kernel
theorem dX1_stock_33 : decode cX1_stock 33 = .ok (.aload_n 0, 1) := by decide +kernel
theorem dX1_stock_34 : decode cX1_stock 34 = .ok (.getfield 18, 3) := by decide +kernel
theorem dX1_stock_37 : decode cX1_stock 37 = .ok (.areturn, 1) := by decide +kernel
theorem dX1_stock_38 : decode cX1_stock 38 = .ok (.aload_n 0, 1) := by decide +kernel
theorem dX1_stock_39 : decode cX1_stock 39 = .ok (.getfield 21, 3) := by decide +kernel
theorem dX1_stock_42 : decode cX1_stock 42 = .ok (.areturn, 1) := by decide +kernel
theorem dX1_priceOf_0 : decode cX1_priceOf 0 = .ok (.iload_n 3, 1) := by decide +kernel
theorem dX1_priceOf_1 : decode cX1_priceOf 1 = .ok (.ifCond .gt 5, 3) := by decide +kernel
theorem dX1_priceOf_4 : decode cX1_priceOf 4 = .ok (.iconst 0, 1) := by decide +kernel
theorem dX1_priceOf_5 : decode cX1_priceOf 5 = .ok (.ireturn, 1) := by decide +kernel
theorem dX1_priceOf_6 : decode cX1_priceOf 6 = .ok (.aload_n 0, 1) := by decide +kernel
theorem dX1_priceOf_7 : decode cX1_priceOf 7 = .ok (.getfield 21, 3) := by decide +kernel
theorem dX1_priceOf_10 : decode cX1_priceOf 10 = .ok (.iload_n 1, 1) := by decide +kernel
theorem dX1_priceOf_11 : decode cX1_priceOf 11 = .ok (.iconst 5, 1) := by decide +kernel
theorem dX1_priceOf_12 : decode cX1_priceOf 12 = .ok (.imul, 1) := by decide +kernel
theorem dX1_priceOf_13 : decode cX1_priceOf 13 = .ok (.iload_n 2, 1) := by decide +kernel
theorem dX1_priceOf_14 : decode cX1_priceOf 14 = .ok (.iadd, 1) := by decide +kernel
theorem dX1_priceOf_15 : decode cX1_priceOf 15 = .ok (.iaload, 1) := by decide +kernel
theorem dX1_priceOf_16 : decode cX1_priceOf 16 = .ok (.istore 4, 2) := by decide +kernel
theorem dX1_priceOf_18 : decode cX1_priceOf 18 = .ok (.aload_n 0, 1) := by decide +kernel
theorem dX1_priceOf_19 : decode cX1_priceOf 19 = .ok (.getfield 9, 3) := by decide +kernel
theorem dX1_priceOf_22 : decode cX1_priceOf 22 = .ok (.iload_n 2, 1) := by decide +kernel
theorem dX1_priceOf_23 : decode cX1_priceOf 23 = .ok (.iaload, 1) := by decide +kernel
theorem dX1_priceOf_24 : decode cX1_priceOf 24 = .ok (.tableswitch 87 2 6 #[36, 87, 46, 61, 73], 36) := by decide +kernel
theorem dX1_priceOf_60 : decode cX1_priceOf 60 = .ok (.iload 4, 2) := by decide +kernel
theorem dX1_priceOf_62 : decode cX1_priceOf 62 = .ok (.aload_n 0, 1) := by decide +kernel
theorem dX1_priceOf_63 : decode cX1_priceOf 63 = .ok (.getfield 30, 3) := by decide +kernel
theorem dX1_priceOf_66 : decode cX1_priceOf 66 = .ok (.iadd, 1) := by decide +kernel
theorem dX1_priceOf_67 : decode cX1_priceOf 67 = .ok (.iload_n 3, 1) := by decide +kernel
theorem dX1_priceOf_68 : decode cX1_priceOf 68 = .ok (.imul, 1) := by decide +kernel
theorem dX1_priceOf_69 : decode cX1_priceOf 69 = .ok (.ireturn, 1) := by decide +kernel
theorem dX1_priceOf_70 : decode cX1_priceOf 70 = .ok (.iload 4, 2) := by decide +kernel
theorem dX1_priceOf_72 : decode cX1_priceOf 72 = .ok (.aload_n 0, 1) := by decide +kernel
theorem dX1_priceOf_73 : decode cX1_priceOf 73 = .ok (.getfield 30, 3) := by decide +kernel
theorem dX1_priceOf_76 : decode cX1_priceOf 76 = .ok (.iadd, 1) := by decide +kernel
theorem dX1_priceOf_77 : decode cX1_priceOf 77 = .ok (.aload_n 0, 1) := by decide +kernel
theorem dX1_priceOf_78 : decode cX1_priceOf 78 = .ok (.getfield 30, 3) := by decide +kernel
theorem dX1_priceOf_81 : decode cX1_priceOf 81 = .ok (.iadd, 1) := by decide +kernel
theorem dX1_priceOf_82 : decode cX1_priceOf 82 = .ok (.iload_n 3, 1) := by decide +kernel
theorem dX1_priceOf_83 : decode cX1_priceOf 83 = .ok (.imul, 1) := by decide +kernel
theorem dX1_priceOf_84 : decode cX1_priceOf 84 = .ok (.ireturn, 1) := by decide +kernel
theorem dX1_priceOf_85 : decode cX1_priceOf 85 = .ok (.iload 4, 2) := by decide +kernel
theorem dX1_priceOf_87 : decode cX1_priceOf 87 = .ok (.iload_n 3, 1) := by decide +kernel
theorem dX1_priceOf_88 : decode cX1_priceOf 88 = .ok (.iconst 1, 1) := by decide +kernel
theorem dX1_priceOf_89 : decode cX1_priceOf 89 = .ok (.isub, 1) := by decide +kernel
theorem dX1_priceOf_90 : decode cX1_priceOf 90 = .ok (.iload 4, 2) := by decide +kernel
theorem dX1_priceOf_92 : decode cX1_priceOf 92 = .ok (.iconst 2, 1) := by decide +kernel
theorem dX1_priceOf_93 : decode cX1_priceOf 93 = .ok (.idiv, 1) := by decide +kernel
theorem dX1_priceOf_94 : decode cX1_priceOf 94 = .ok (.imul, 1) := by decide +kernel
theorem dX1_priceOf_95 : decode cX1_priceOf 95 = .ok (.iadd, 1) := by decide +kernel
theorem dX1_priceOf_96 : decode cX1_priceOf 96 = .ok (.ireturn, 1) := by decide +kernel
theorem dX1_priceOf_97 : decode cX1_priceOf 97 = .ok (.iload 4, 2) := by decide +kernel
theorem dX1_priceOf_99 : decode cX1_priceOf 99 = .ok (.iload_n 3, 1) := by decide +kernel
theorem dX1_priceOf_100 : decode cX1_priceOf 100 = .ok (.iconst 1, 1) := by decide +kernel
theorem dX1_priceOf_101 : decode cX1_priceOf 101 = .ok (.isub, 1) := by decide +kernel
theorem dX1_priceOf_102 : decode cX1_priceOf 102 = .ok (.iload 4, 2) := by decide +kernel
theorem dX1_priceOf_104 : decode cX1_priceOf 104 = .ok (.iconst 2, 1) := by decide +kernel
theorem dX1_priceOf_105 : decode cX1_priceOf 105 = .ok (.idiv, 1) := by decide +kernel
theorem dX1_priceOf_106 : decode cX1_priceOf 106 = .ok (.imul, 1) := by decide +kernel
theorem dX1_priceOf_107 : decode cX1_priceOf 107 = .ok (.iadd, 1) := by decide +kernel
theorem dX1_priceOf_108 : decode cX1_priceOf 108 = .ok (.iconst 3, 1) := by decide +kernel
theorem dX1_priceOf_109 : decode cX1_priceOf 109 = .ok (.iadd, 1) := by decide +kernel
theorem dX1_priceOf_110 : decode cX1_priceOf 110 = .ok (.ireturn, 1) := by decide +kernel
theorem dX1_priceOf_111 : decode cX1_priceOf 111 = .ok (.iload 4, 2) := by decide +kernel
theorem dX1_priceOf_113 : decode cX1_priceOf 113 = .ok (.iload_n 3, 1) := by decide +kernel
theorem dX1_priceOf_114 : decode cX1_priceOf 114 = .ok (.imul, 1) := by decide +kernel
theorem dX1_priceOf_115 : decode cX1_priceOf 115 = .ok (.ireturn, 1) := by decide +kernel
theorem dX1_eatenOf_0 : decode cX1_eatenOf 0 = .ok (.aload_n 0, 1) := by decide +kernel
theorem dX1_eatenOf_1 : decode cX1_eatenOf 1 = .ok (.getfield 9, 3) := by decide +kernel
theorem dX1_eatenOf_4 : decode cX1_eatenOf 4 = .ok (.iload_n 1, 1) := by decide +kernel
theorem dX1_eatenOf_5 : decode cX1_eatenOf 5 = .ok (.iaload, 1) := by decide +kernel
theorem dX1_eatenOf_6 : decode cX1_eatenOf 6 = .ok (.lookupswitch 50 #[(1, 26), (3, 32)], 26) := by decide +kernel
theorem dX1_eatenOf_32 : decode cX1_eatenOf 32 = .ok (.iload_n 2, 1) := by decide +kernel
theorem dX1_eatenOf_33 : decode cX1_eatenOf 33 = .ok (.iconst 1, 1) := by decide +kernel
theorem dX1_eatenOf_34 : decode cX1_eatenOf 34 = .ok (.invokestatic 57, 3) := by decide +kernel
theorem dX1_eatenOf_37 : decode cX1_eatenOf 37 = .ok (.ireturn, 1) := by decide +kernel
theorem dX1_eatenOf_38 : decode cX1_eatenOf 38 = .ok (.aload_n 0, 1) := by decide +kernel
theorem dX1_eatenOf_39 : decode cX1_eatenOf 39 = .ok (.getfield 30, 3) := by decide +kernel
theorem dX1_eatenOf_42 : decode cX1_eatenOf 42 = .ok (.iconst 4, 1) := by decide +kernel
theorem dX1_eatenOf_43 : decode cX1_eatenOf 43 = .ok (.if_icmp .le 7, 3) := by decide +kernel
theorem dX1_eatenOf_46 : decode cX1_eatenOf 46 = .ok (.iconst 0, 1) := by decide +kernel
theorem dX1_eatenOf_47 : decode cX1_eatenOf 47 = .ok (.goto 8, 3) := by decide +kernel
theorem dX1_eatenOf_50 : decode cX1_eatenOf 50 = .ok (.iload_n 2, 1) := by decide +kernel
theorem dX1_eatenOf_51 : decode cX1_eatenOf 51 = .ok (.iconst 2, 1) := by decide +kernel
theorem dX1_eatenOf_52 : decode cX1_eatenOf 52 = .ok (.invokestatic 57, 3) := by decide +kernel
theorem dX1_eatenOf_55 : decode cX1_eatenOf 55 = .ok (.ireturn, 1) := by decide +kernel
theorem dX1_eatenOf_56 : decode cX1_eatenOf 56 = .ok (.iconst 0, 1) := by decide +kernel
theorem dX1_eatenOf_57 : decode cX1_eatenOf 57 = .ok (.ireturn, 1) := by decide +kernel
set_option maxRecDepth 20000 in
theorem ggX1_heapValue_X1_priceOf : GoodIn wsX1_heapValue wsX1_priceOf := goodIn_r _ [6, 7, 8, 9, 10, 11, 12, 13, 14, 15, 16, 17, 18, 19] (by decide +kernel) (by decide +kernel)
set_option maxRecDepth 20000 in
theorem gX1_heapValue_X1_priceOf : GoodIn wsX1_heapValue (wsV RX1 63 RX1 yX1_priceOf wsX1_priceOf) := goodIn_app (goodIn_of _ (by decide +kernel)) ggX1_heapValue_X1_priceOf
theorem dX1_heapValue_0 : decode cX1_heapValue 0 = .ok (.iconst 0, 1) := by decide +kernel
theorem dX1_heapValue_1 : decode cX1_heapValue 1 = .ok (.istore_n 3, 1) := by decide +kernel
theorem dX1_heapValue_2 : decode cX1_heapValue 2 = .ok (.iconst 0, 1) := by decide +kernel
theorem dX1_heapValue_3 : decode cX1_heapValue 3 = .ok (.istore 4, 2) := by decide +kernel
theorem dX1_heapValue_5 : decode cX1_heapValue 5 = .ok (.iload 4, 2) := by decide +kernel
theorem dX1_heapValue_7 : decode cX1_heapValue 7 = .ok (.iconst 5, 1) := by decide +kernel
theorem dX1_heapValue_8 : decode cX1_heapValue 8 = .ok (.if_icmp .ge 30, 3) := by decide +kernel
theorem dX1_heapValue_11 : decode cX1_heapValue 11 = .ok (.iload_n 3, 1) := by decide +kernel
theorem dX1_heapValue_12 : decode cX1_heapValue 12 = .ok (.aload_n 0, 1) := by decide +kernel
theorem dX1_heapValue_13 : decode cX1_heapValue 13 = .ok (.iload_n 1, 1) := by decide +kernel
theorem dX1_heapValue_14 : decode cX1_heapValue 14 = .ok (.iload 4, 2) := by decide +kernel
theorem dX1_heapValue_16 : decode cX1_heapValue 16 = .ok (.aload_n 0, 1) := by decide +kernel
theorem dX1_heapValue_17 : decode cX1_heapValue 17 = .ok (.getfield 18, 3) := by decide +kernel
theorem dX1_heapValue_20 : decode cX1_heapValue 20 = .ok (.iload_n 2, 1) := by decide +kernel
theorem dX1_heapValue_21 : decode cX1_heapValue 21 = .ok (.iconst 5, 1) := by decide +kernel
theorem dX1_heapValue_22 : decode cX1_heapValue 22 = .ok (.imul, 1) := by decide +kernel
theorem dX1_heapValue_23 : decode cX1_heapValue 23 = .ok (.iload 4, 2) := by decide +kernel
theorem dX1_heapValue_25 : decode cX1_heapValue 25 = .ok (.iadd, 1) := by decide +kernel
theorem dX1_heapValue_26 : decode cX1_heapValue 26 = .ok (.iaload, 1) := by decide +kernel
theorem dX1_heapValue_27 : decode cX1_heapValue 27 = .ok (.invokevirtual 63, 3) := by decide +kernel
theorem dX1_heapValue_30 : decode cX1_heapValue 30 = .ok (.iadd, 1) := by decide +kernel
theorem dX1_heapValue_31 : decode cX1_heapValue 31 = .ok (.istore_n 3, 1) := by decide +kernel
theorem dX1_heapValue_32 : decode cX1_heapValue 32 = .ok (.iinc 4 1, 3) := by decide +kernel
theorem dX1_heapValue_35 : decode cX1_heapValue 35 = .ok (.goto (-30), 3) := by decide +kernel
theorem dX1_heapValue_38 : decode cX1_heapValue 38 = .ok (.iload_n 3, 1) := by decide +kernel
theorem dX1_heapValue_39 : decode cX1_heapValue 39 = .ok (.ireturn, 1) := by decide +kernel
set_option maxRecDepth 20000 in
theorem ggX1_wealth_X1_priceOf : GoodIn wsX1_wealth wsX1_priceOf := goodIn_r _ [7, 8, 9, 10, 11, 12, 13, 14, 15, 16, 17, 18, 19, 20] (by decide +kernel) (by decide +kernel)
set_option maxRecDepth 20000 in
theorem gX1_wealth_X1_priceOf : GoodIn wsX1_wealth (wsV RX1 63 RX1 yX1_priceOf wsX1_priceOf) := goodIn_app (goodIn_of _ (by decide +kernel)) ggX1_wealth_X1_priceOf
theorem dX1_wealth_0 : decode cX1_wealth 0 = .ok (.iconst 0, 1) := by decide +kernel
theorem dX1_wealth_1 : decode cX1_wealth 1 = .ok (.istore_n 2, 1) := by decide +kernel
theorem dX1_wealth_2 : decode cX1_wealth 2 = .ok (.iconst 0, 1) := by decide +kernel
theorem dX1_wealth_3 : decode cX1_wealth 3 = .ok (.istore_n 3, 1) := by decide +kernel
theorem dX1_wealth_4 : decode cX1_wealth 4 = .ok (.iload_n 3, 1) := by decide +kernel
theorem dX1_wealth_5 : decode cX1_wealth 5 = .ok (.iconst 5, 1) := by decide +kernel
theorem dX1_wealth_6 : decode cX1_wealth 6 = .ok (.if_icmp .ge 40, 3) := by decide +kernel
theorem dX1_wealth_9 : decode cX1_wealth 9 = .ok (.iload_n 1, 1) := by decide +kernel
theorem dX1_wealth_10 : decode cX1_wealth 10 = .ok (.iconst 5, 1) := by decide +kernel
theorem dX1_wealth_11 : decode cX1_wealth 11 = .ok (.imul, 1) := by decide +kernel
theorem dX1_wealth_12 : decode cX1_wealth 12 = .ok (.iload_n 3, 1) := by decide +kernel
theorem dX1_wealth_13 : decode cX1_wealth 13 = .ok (.iadd, 1) := by decide +kernel
theorem dX1_wealth_14 : decode cX1_wealth 14 = .ok (.istore 4, 2) := by decide +kernel
theorem dX1_wealth_16 : decode cX1_wealth 16 = .ok (.iload_n 2, 1) := by decide +kernel
theorem dX1_wealth_17 : decode cX1_wealth 17 = .ok (.aload_n 0, 1) := by decide +kernel
theorem dX1_wealth_18 : decode cX1_wealth 18 = .ok (.iload_n 1, 1) := by decide +kernel
theorem dX1_wealth_19 : decode cX1_wealth 19 = .ok (.iload_n 3, 1) := by decide +kernel
theorem dX1_wealth_20 : decode cX1_wealth 20 = .ok (.aload_n 0, 1) := by decide +kernel
theorem dX1_wealth_21 : decode cX1_wealth 21 = .ok (.getfield 15, 3) := by decide +kernel
theorem dX1_wealth_24 : decode cX1_wealth 24 = .ok (.iload 4, 2) := by decide +kernel
theorem dX1_wealth_26 : decode cX1_wealth 26 = .ok (.iaload, 1) := by decide +kernel
theorem dX1_wealth_27 : decode cX1_wealth 27 = .ok (.aload_n 0, 1) := by decide +kernel
theorem dX1_wealth_28 : decode cX1_wealth 28 = .ok (.getfield 18, 3) := by decide +kernel
theorem dX1_wealth_31 : decode cX1_wealth 31 = .ok (.iload 4, 2) := by decide +kernel
theorem dX1_wealth_33 : decode cX1_wealth 33 = .ok (.iaload, 1) := by decide +kernel
theorem dX1_wealth_34 : decode cX1_wealth 34 = .ok (.iadd, 1) := by decide +kernel
theorem dX1_wealth_35 : decode cX1_wealth 35 = .ok (.invokevirtual 63, 3) := by decide +kernel
theorem dX1_wealth_38 : decode cX1_wealth 38 = .ok (.iadd, 1) := by decide +kernel
theorem dX1_wealth_39 : decode cX1_wealth 39 = .ok (.istore_n 2, 1) := by decide +kernel
theorem dX1_wealth_40 : decode cX1_wealth 40 = .ok (.iinc 3 1, 3) := by decide +kernel
theorem dX1_wealth_43 : decode cX1_wealth 43 = .ok (.goto (-39), 3) := by decide +kernel
theorem dX1_wealth_46 : decode cX1_wealth 46 = .ok (.iload_n 2, 1) := by decide +kernel
theorem dX1_wealth_47 : decode cX1_wealth 47 = .ok (.ireturn, 1) := by decide +kernel
theorem dX1_heapCount_0 : decode cX1_heapCount 0 = .ok (.iconst 0, 1) := by decide +kernel
theorem dX1_heapCount_1 : decode cX1_heapCount 1 = .ok (.istore_n 2, 1) := by decide +kernel
theorem dX1_heapCount_2 : decode cX1_heapCount 2 = .ok (.iconst 0, 1) := by decide +kernel
theorem dX1_heapCount_3 : decode cX1_heapCount 3 = .ok (.istore_n 3, 1) := by decide +kernel
theorem dX1_heapCount_4 : decode cX1_heapCount 4 = .ok (.iload_n 3, 1) := by decide +kernel
theorem dX1_heapCount_5 : decode cX1_heapCount 5 = .ok (.iconst 5, 1) := by decide +kernel
theorem dX1_heapCount_6 : decode cX1_heapCount 6 = .ok (.if_icmp .ge 22, 3) := by decide +kernel
theorem dX1_heapCount_9 : decode cX1_heapCount 9 = .ok (.iload_n 2, 1) := by decide +kernel
theorem dX1_heapCount_10 : decode cX1_heapCount 10 = .ok (.aload_n 0, 1) := by decide +kernel
theorem dX1_heapCount_11 : decode cX1_heapCount 11 = .ok (.getfield 18, 3) := by decide +kernel
theorem dX1_heapCount_14 : decode cX1_heapCount 14 = .ok (.iload_n 1, 1) := by decide +kernel
theorem dX1_heapCount_15 : decode cX1_heapCount 15 = .ok (.iconst 5, 1) := by decide +kernel
theorem dX1_heapCount_16 : decode cX1_heapCount 16 = .ok (.imul, 1) := by decide +kernel
theorem dX1_heapCount_17 : decode cX1_heapCount 17 = .ok (.iload_n 3, 1) := by decide +kernel
theorem dX1_heapCount_18 : decode cX1_heapCount 18 = .ok (.iadd, 1) := by decide +kernel
theorem dX1_heapCount_19 : decode cX1_heapCount 19 = .ok (.iaload, 1) := by decide +kernel
theorem dX1_heapCount_20 : decode cX1_heapCount 20 = .ok (.iadd, 1) := by decide +kernel
theorem dX1_heapCount_21 : decode cX1_heapCount 21 = .ok (.istore_n 2, 1) := by decide +kernel
theorem dX1_heapCount_22 : decode cX1_heapCount 22 = .ok (.iinc 3 1, 3) := by decide +kernel
theorem dX1_heapCount_25 : decode cX1_heapCount 25 = .ok (.goto (-21), 3) := by decide +kernel
theorem dX1_heapCount_28 : decode cX1_heapCount 28 = .ok (.iload_n 2, 1) := by decide +kernel
theorem dX1_heapCount_29 : decode cX1_heapCount 29 = .ok (.ireturn, 1) := by decide +kernel
theorem dX1_homeCount_0 : decode cX1_homeCount 0 = .ok (.iconst 0, 1) := by decide +kernel
theorem dX1_homeCount_1 : decode cX1_homeCount 1 = .ok (.istore_n 1, 1) := by decide +kernel
theorem dX1_homeCount_2 : decode cX1_homeCount 2 = .ok (.iconst 0, 1) := by decide +kernel
theorem dX1_homeCount_3 : decode cX1_homeCount 3 = .ok (.istore_n 2, 1) := by decide +kernel
theorem dX1_homeCount_4 : decode cX1_homeCount 4 = .ok (.iload_n 2, 1) := by decide +kernel
theorem dX1_homeCount_5 : decode cX1_homeCount 5 = .ok (.bipush 10, 2) := by decide +kernel
theorem dX1_homeCount_7 : decode cX1_homeCount 7 = .ok (.if_icmp .ge 18, 3) := by decide +kernel
theorem dX1_homeCount_10 : decode cX1_homeCount 10 = .ok (.iload_n 1, 1) := by decide +kernel
theorem dX1_homeCount_11 : decode cX1_homeCount 11 = .ok (.aload_n 0, 1) := by decide +kernel
theorem dX1_homeCount_12 : decode cX1_homeCount 12 = .ok (.getfield 15, 3) := by decide +kernel
theorem dX1_homeCount_15 : decode cX1_homeCount 15 = .ok (.iload_n 2, 1) := by decide +kernel
theorem dX1_homeCount_16 : decode cX1_homeCount 16 = .ok (.iaload, 1) := by decide +kernel
theorem dX1_homeCount_17 : decode cX1_homeCount 17 = .ok (.iadd, 1) := by decide +kernel
theorem dX1_homeCount_18 : decode cX1_homeCount 18 = .ok (.istore_n 1, 1) := by decide +kernel
theorem dX1_homeCount_19 : decode cX1_homeCount 19 = .ok (.iinc 2 1, 3) := by decide +kernel
theorem dX1_homeCount_22 : decode cX1_homeCount 22 = .ok (.goto (-18), 3) := by decide +kernel
theorem dX1_homeCount_25 : decode cX1_homeCount 25 = .ok (.iload_n 1, 1) := by decide +kernel
theorem dX1_homeCount_26 : decode cX1_homeCount 26 = .ok (.ireturn, 1) := by decide +kernel
theorem dX1_mayLay_0 : decode cX1_mayLay 0 = .ok (.iload_n 1, 1) := by decide +kernel
theorem dX1_mayLay_1 : decode cX1_mayLay 1 = .ok (.iconst 5, 1) := by decide +kernel
theorem dX1_mayLay_2 : decode cX1_mayLay 2 = .ok (.imul, 1) := by decide +kernel
theorem dX1_mayLay_3 : decode cX1_mayLay 3 = .ok (.iload_n 2, 1) := by decide +kernel
theorem dX1_mayLay_4 : decode cX1_mayLay 4 = .ok (.iadd, 1) := by decide +kernel
theorem dX1_mayLay_5 : decode cX1_mayLay 5 = .ok (.istore 4, 2) := by decide +kernel
theorem dX1_mayLay_7 : decode cX1_mayLay 7 = .ok (.aload_n 0, 1) := by decide +kernel
theorem dX1_mayLay_8 : decode cX1_mayLay 8 = .ok (.getfield 15, 3) := by decide +kernel
theorem dX1_mayLay_11 : decode cX1_mayLay 11 = .ok (.iload 4, 2) := by decide +kernel
theorem dX1_mayLay_13 : decode cX1_mayLay 13 = .ok (.iaload, 1) := by decide +kernel
theorem dX1_mayLay_14 : decode cX1_mayLay 14 = .ok (.iload_n 3, 1) := by decide +kernel
theorem dX1_mayLay_15 : decode cX1_mayLay 15 = .ok (.if_icmp .lt 30, 3) := by decide +kernel
theorem dX1_mayLay_18 : decode cX1_mayLay 18 = .ok (.aload_n 0, 1) := by decide +kernel
theorem dX1_mayLay_19 : decode cX1_mayLay 19 = .ok (.getfield 27, 3) := by decide +kernel
theorem dX1_mayLay_22 : decode cX1_mayLay 22 = .ok (.iload_n 1, 1) := by decide +kernel
theorem dX1_mayLay_23 : decode cX1_mayLay 23 = .ok (.iaload, 1) := by decide +kernel
theorem dX1_mayLay_24 : decode cX1_mayLay 24 = .ok (.ifCond .le 21, 3) := by decide +kernel
theorem dX1_mayLay_27 : decode cX1_mayLay 27 = .ok (.aload_n 0, 1) := by decide +kernel
theorem dX1_mayLay_28 : decode cX1_mayLay 28 = .ok (.getfield 18, 3) := by decide +kernel
theorem dX1_mayLay_31 : decode cX1_mayLay 31 = .ok (.iload 4, 2) := by decide +kernel
theorem dX1_mayLay_33 : decode cX1_mayLay 33 = .ok (.iaload, 1) := by decide +kernel
theorem dX1_mayLay_34 : decode cX1_mayLay 34 = .ok (.iload_n 3, 1) := by decide +kernel
theorem dX1_mayLay_35 : decode cX1_mayLay 35 = .ok (.iadd, 1) := by decide +kernel
theorem dX1_mayLay_36 : decode cX1_mayLay 36 = .ok (.bipush 99, 2) := by decide +kernel
theorem dX1_mayLay_38 : decode cX1_mayLay 38 = .ok (.if_icmp .gt 7, 3) := by decide +kernel
theorem dX1_mayLay_41 : decode cX1_mayLay 41 = .ok (.iconst 1, 1) := by decide +kernel
theorem dX1_mayLay_42 : decode cX1_mayLay 42 = .ok (.goto 4, 3) := by decide +kernel
theorem dX1_mayLay_45 : decode cX1_mayLay 45 = .ok (.iconst 0, 1) := by decide +kernel
theorem dX1_mayLay_46 : decode cX1_mayLay 46 = .ok (.ireturn, 1) := by decide +kernel
theorem dX1_layDown_0 : decode cX1_layDown 0 = .ok (.iload_n 1, 1) := by decide +kernel
theorem dX1_layDown_1 : decode cX1_layDown 1 = .ok (.iconst 5, 1) := by decide +kernel
theorem dX1_layDown_2 : decode cX1_layDown 2 = .ok (.imul, 1) := by decide +kernel
theorem dX1_layDown_3 : decode cX1_layDown 3 = .ok (.iload_n 2, 1) := by decide +kernel
theorem dX1_layDown_4 : decode cX1_layDown 4 = .ok (.iadd, 1) := by decide +kernel
theorem dX1_layDown_5 : decode cX1_layDown 5 = .ok (.istore 4, 2) := by decide +kernel
theorem dX1_layDown_7 : decode cX1_layDown 7 = .ok (.aload_n 0, 1) := by decide +kernel
theorem dX1_layDown_8 : decode cX1_layDown 8 = .ok (.getfield 15, 3) := by decide +kernel
theorem dX1_layDown_11 : decode cX1_layDown 11 = .ok (.iload 4, 2) := by decide +kernel
theorem dX1_layDown_13 : decode cX1_layDown 13 = .ok (.dup2, 1) := by decide +kernel
theorem dX1_layDown_14 : decode cX1_layDown 14 = .ok (.iaload, 1) := by decide +kernel
theorem dX1_layDown_15 : decode cX1_layDown 15 = .ok (.iload_n 3, 1) := by decide +kernel
theorem dX1_layDown_16 : decode cX1_layDown 16 = .ok (.isub, 1) := by decide +kernel
theorem dX1_layDown_17 : decode cX1_layDown 17 = .ok (.iastore, 1) := by decide +kernel
theorem dX1_layDown_18 : decode cX1_layDown 18 = .ok (.aload_n 0, 1) := by decide +kernel
theorem dX1_layDown_19 : decode cX1_layDown 19 = .ok (.getfield 18, 3) := by decide +kernel
theorem dX1_layDown_22 : decode cX1_layDown 22 = .ok (.iload 4, 2) := by decide +kernel
theorem dX1_layDown_24 : decode cX1_layDown 24 = .ok (.dup2, 1) := by decide +kernel
theorem dX1_layDown_25 : decode cX1_layDown 25 = .ok (.iaload, 1) := by decide +kernel
theorem dX1_layDown_26 : decode cX1_layDown 26 = .ok (.iload_n 3, 1) := by decide +kernel
theorem dX1_layDown_27 : decode cX1_layDown 27 = .ok (.iadd, 1) := by decide +kernel
theorem dX1_layDown_28 : decode cX1_layDown 28 = .ok (.iastore, 1) := by decide +kernel
theorem dX1_layDown_29 : decode cX1_layDown 29 = .ok (.aload_n 0, 1) := by decide +kernel
theorem dX1_layDown_30 : decode cX1_layDown 30 = .ok (.getfield 18, 3) := by decide +kernel
theorem dX1_layDown_33 : decode cX1_layDown 33 = .ok (.iload 4, 2) := by decide +kernel
theorem dX1_layDown_35 : decode cX1_layDown 35 = .ok (.iaload, 1) := by decide +kernel
theorem dX1_layDown_36 : decode cX1_layDown 36 = .ok (.ireturn, 1) := by decide +kernel
theorem dX1_addHome_0 : decode cX1_addHome 0 = .ok (.iload_n 1, 1) := by decide +kernel
theorem dX1_addHome_1 : decode cX1_addHome 1 = .ok (.iconst 5, 1) := by decide +kernel
theorem dX1_addHome_2 : decode cX1_addHome 2 = .ok (.imul, 1) := by decide +kernel
theorem dX1_addHome_3 : decode cX1_addHome 3 = .ok (.iload_n 2, 1) := by decide +kernel
theorem dX1_addHome_4 : decode cX1_addHome 4 = .ok (.iadd, 1) := by decide +kernel
theorem dX1_addHome_5 : decode cX1_addHome 5 = .ok (.istore 4, 2) := by decide +kernel
theorem dX1_addHome_7 : decode cX1_addHome 7 = .ok (.aload_n 0, 1) := by decide +kernel
theorem dX1_addHome_8 : decode cX1_addHome 8 = .ok (.getfield 15, 3) := by decide +kernel
theorem dX1_addHome_11 : decode cX1_addHome 11 = .ok (.iload 4, 2) := by decide +kernel
theorem dX1_addHome_13 : decode cX1_addHome 13 = .ok (.bipush 99, 2) := by decide +kernel
theorem dX1_addHome_15 : decode cX1_addHome 15 = .ok (.aload_n 0, 1) := by decide +kernel
theorem dX1_addHome_16 : decode cX1_addHome 16 = .ok (.getfield 15, 3) := by decide +kernel
theorem dX1_addHome_19 : decode cX1_addHome 19 = .ok (.iload 4, 2) := by decide +kernel
theorem dX1_addHome_21 : decode cX1_addHome 21 = .ok (.iaload, 1) := by decide +kernel
theorem dX1_addHome_22 : decode cX1_addHome 22 = .ok (.iload_n 3, 1) := by decide +kernel
theorem dX1_addHome_23 : decode cX1_addHome 23 = .ok (.iadd, 1) := by decide +kernel
theorem dX1_addHome_24 : decode cX1_addHome 24 = .ok (.invokestatic 57, 3) := by decide +kernel
theorem dX1_addHome_27 : decode cX1_addHome 27 = .ok (.iastore, 1) := by decide +kernel
theorem dX1_addHome_28 : decode cX1_addHome 28 = .ok (.return_, 1) := by decide +kernel
set_option maxRecDepth 20000 in
theorem ggX1_bringHome_X1_addHome : GoodIn wsX1_bringHome wsX1_addHome := goodIn_r _ [6, 7, 8, 9, 10, 11, 12, 13, 14, 15, 16, 17, 18, 19, 20, 21] (by decide +kernel) (by decide +kernel)
set_option maxRecDepth 20000 in
theorem gX1_bringHome_X1_addHome : GoodIn wsX1_bringHome (wsV RX1 67 RX1 yX1_addHome wsX1_addHome) := goodIn_app (goodIn_of _ (by decide +kernel)) ggX1_bringHome_X1_addHome
theorem dX1_bringHome_0 : decode cX1_bringHome 0 = .ok (.iconst 0, 1) := by decide +kernel
theorem dX1_bringHome_1 : decode cX1_bringHome 1 = .ok (.istore_n 3, 1) := by decide +kernel
theorem dX1_bringHome_2 : decode cX1_bringHome 2 = .ok (.iload_n 3, 1) := by decide +kernel
theorem dX1_bringHome_3 : decode cX1_bringHome 3 = .ok (.iconst 5, 1) := by decide +kernel
theorem dX1_bringHome_4 : decode cX1_bringHome 4 = .ok (.if_icmp .ge 36, 3) := by decide +kernel
theorem dX1_bringHome_7 : decode cX1_bringHome 7 = .ok (.aload_n 0, 1) := by decide +kernel
theorem dX1_bringHome_8 : decode cX1_bringHome 8 = .ok (.iload_n 2, 1) := by decide +kernel
theorem dX1_bringHome_9 : decode cX1_bringHome 9 = .ok (.iload_n 3, 1) := by decide +kernel
theorem dX1_bringHome_10 : decode cX1_bringHome 10 = .ok (.aload_n 0, 1) := by decide +kernel
theorem dX1_bringHome_11 : decode cX1_bringHome 11 = .ok (.getfield 18, 3) := by decide +kernel
theorem dX1_bringHome_14 : decode cX1_bringHome 14 = .ok (.iload_n 1, 1) := by decide +kernel
theorem dX1_bringHome_15 : decode cX1_bringHome 15 = .ok (.iconst 5, 1) := by decide +kernel
theorem dX1_bringHome_16 : decode cX1_bringHome 16 = .ok (.imul, 1) := by decide +kernel
theorem dX1_bringHome_17 : decode cX1_bringHome 17 = .ok (.iload_n 3, 1) := by decide +kernel
theorem dX1_bringHome_18 : decode cX1_bringHome 18 = .ok (.iadd, 1) := by decide +kernel
theorem dX1_bringHome_19 : decode cX1_bringHome 19 = .ok (.iaload, 1) := by decide +kernel
theorem dX1_bringHome_20 : decode cX1_bringHome 20 = .ok (.invokevirtual 67, 3) := by decide +kernel
theorem dX1_bringHome_23 : decode cX1_bringHome 23 = .ok (.aload_n 0, 1) := by decide +kernel
theorem dX1_bringHome_24 : decode cX1_bringHome 24 = .ok (.getfield 18, 3) := by decide +kernel
theorem dX1_bringHome_27 : decode cX1_bringHome 27 = .ok (.iload_n 1, 1) := by decide +kernel
theorem dX1_bringHome_28 : decode cX1_bringHome 28 = .ok (.iconst 5, 1) := by decide +kernel
theorem dX1_bringHome_29 : decode cX1_bringHome 29 = .ok (.imul, 1) := by decide +kernel
theorem dX1_bringHome_30 : decode cX1_bringHome 30 = .ok (.iload_n 3, 1) := by decide +kernel
theorem dX1_bringHome_31 : decode cX1_bringHome 31 = .ok (.iadd, 1) := by decide +kernel
theorem dX1_bringHome_32 : decode cX1_bringHome 32 = .ok (.iconst 0, 1) := by decide +kernel
theorem dX1_bringHome_33 : decode cX1_bringHome 33 = .ok (.iastore, 1) := by decide +kernel
theorem dX1_bringHome_34 : decode cX1_bringHome 34 = .ok (.iinc 3 1, 3) := by decide +kernel
theorem dX1_bringHome_37 : decode cX1_bringHome 37 = .ok (.goto (-35), 3) := by decide +kernel
theorem dX1_bringHome_40 : decode cX1_bringHome 40 = .ok (.return_, 1) := by decide +kernel
theorem dX1_trustMore_0 : decode cX1_trustMore 0 = .ok (.aload_n 0, 1) := by decide +kernel
theorem dX1_trustMore_1 : decode cX1_trustMore 1 = .ok (.getfield 27, 3) := by decide +kernel
theorem dX1_trustMore_4 : decode cX1_trustMore 4 = .ok (.iload_n 1, 1) := by decide +kernel
theorem dX1_trustMore_5 : decode cX1_trustMore 5 = .ok (.bipush 9, 2) := by decide +kernel
theorem dX1_trustMore_7 : decode cX1_trustMore 7 = .ok (.aload_n 0, 1) := by decide +kernel
theorem dX1_trustMore_8 : decode cX1_trustMore 8 = .ok (.getfield 27, 3) := by decide +kernel
theorem dX1_trustMore_11 : decode cX1_trustMore 11 = .ok (.iload_n 1, 1) := by decide +kernel
theorem dX1_trustMore_12 : decode cX1_trustMore 12 = .ok (.iaload, 1) := by decide +kernel
theorem dX1_trustMore_13 : decode cX1_trustMore 13 = .ok (.iconst 1, 1) := by decide +kernel
theorem dX1_trustMore_14 : decode cX1_trustMore 14 = .ok (.iadd, 1) := by decide +kernel
theorem dX1_trustMore_15 : decode cX1_trustMore 15 = .ok (.invokestatic 57, 3) := by decide +kernel
theorem dX1_trustMore_18 : decode cX1_trustMore 18 = .ok (.iastore, 1) := by decide +kernel
theorem dX1_trustMore_19 : decode cX1_trustMore 19 = .ok (.return_, 1) := by decide +kernel
theorem dX1_turn_0 : decode cX1_turn 0 = .ok (.aload_n 0, 1) := by decide +kernel
theorem dX1_turn_1 : decode cX1_turn 1 = .ok (.getfield 34, 3) := by decide +kernel
theorem dX1_turn_4 : decode cX1_turn 4 = .ok (.iconst 1, 1) := by decide +kernel
theorem dX1_turn_5 : decode cX1_turn 5 = .ok (.iand, 1) := by decide +kernel
theorem dX1_turn_6 : decode cX1_turn 6 = .ok (.ireturn, 1) := by decide +kernel
set_option maxRecDepth 20000 in
theorem ggX1_isContent_X1_heapCount : GoodIn wsX1_isContent wsX1_heapCount := goodIn_r _ [6, 7, 19, 20, 21, 22, 23, 24, 25, 26, 27, 28] (by decide +kernel) (by decide +kernel)
set_option maxRecDepth 20000 in
theorem gX1_isContent_X1_heapCount : GoodIn wsX1_isContent (wsV RX1 71 RX1 yX1_heapCount wsX1_heapCount) := goodIn_app (goodIn_of _ (by decide +kernel)) ggX1_isContent_X1_heapCount
set_option maxRecDepth 20000 in
theorem ggX1_isContent_X1_heapValue : GoodIn wsX1_isContent wsX1_heapValue := goodIn_r _ [11, 7, 12, 13, 14, 5, 15, 16, 17, 18, 19, 20, 21, 22, 23, 24, 25, 26, 27, 28] (by decide +kernel) (by decide +kernel)
set_option maxRecDepth 20000 in
theorem gX1_isContent_X1_heapValue : GoodIn wsX1_isContent (wsV RX1 75 RX1 yX1_heapValue wsX1_heapValue) := goodIn_app (goodIn_of _ (by decide +kernel)) ggX1_isContent_X1_heapValue
theorem dX1_isContent_0 : decode cX1_isContent 0 = .ok (.iconst 1, 1) := by decide +kernel
theorem dX1_isContent_1 : decode cX1_isContent 1 = .ok (.iload_n 1, 1) := by decide +kernel
theorem dX1_isContent_2 : decode cX1_isContent 2 = .ok (.isub, 1) := by decide +kernel
theorem dX1_isContent_3 : decode cX1_isContent 3 = .ok (.istore_n 2, 1) := by decide +kernel
theorem dX1_isContent_4 : decode cX1_isContent 4 = .ok (.aload_n 0, 1) := by decide +kernel
theorem dX1_isContent_5 : decode cX1_isContent 5 = .ok (.iload_n 2, 1) := by decide +kernel
theorem dX1_isContent_6 : decode cX1_isContent 6 = .ok (.invokevirtual 71, 3) := by decide +kernel
theorem dX1_isContent_9 : decode cX1_isContent 9 = .ok (.ifCond .le 29, 3) := by decide +kernel
theorem dX1_isContent_12 : decode cX1_isContent 12 = .ok (.aload_n 0, 1) := by decide +kernel
theorem dX1_isContent_13 : decode cX1_isContent 13 = .ok (.iload_n 1, 1) := by decide +kernel
theorem dX1_isContent_14 : decode cX1_isContent 14 = .ok (.iload_n 2, 1) := by decide +kernel
theorem dX1_isContent_15 : decode cX1_isContent 15 = .ok (.invokevirtual 75, 3) := by decide +kernel
theorem dX1_isContent_18 : decode cX1_isContent 18 = .ok (.aload_n 0, 1) := by decide +kernel
theorem dX1_isContent_19 : decode cX1_isContent 19 = .ok (.iload_n 1, 1) := by decide +kernel
theorem dX1_isContent_20 : decode cX1_isContent 20 = .ok (.iload_n 1, 1) := by decide +kernel
theorem dX1_isContent_21 : decode cX1_isContent 21 = .ok (.invokevirtual 75, 3) := by decide +kernel
theorem dX1_isContent_24 : decode cX1_isContent 24 = .ok (.aload_n 0, 1) := by decide +kernel
theorem dX1_isContent_25 : decode cX1_isContent 25 = .ok (.getfield 24, 3) := by decide +kernel
theorem dX1_isContent_28 : decode cX1_isContent 28 = .ok (.iload_n 1, 1) := by decide +kernel
theorem dX1_isContent_29 : decode cX1_isContent 29 = .ok (.iaload, 1) := by decide +kernel
theorem dX1_isContent_30 : decode cX1_isContent 30 = .ok (.iadd, 1) := by decide +kernel
theorem dX1_isContent_31 : decode cX1_isContent 31 = .ok (.if_icmp .lt 7, 3) := by decide +kernel
theorem dX1_isContent_34 : decode cX1_isContent 34 = .ok (.iconst 1, 1) := by decide +kernel
theorem dX1_isContent_35 : decode cX1_isContent 35 = .ok (.goto 4, 3) := by decide +kernel
theorem dX1_isContent_38 : decode cX1_isContent 38 = .ok (.iconst 0, 1) := by decide +kernel
theorem dX1_isContent_39 : decode cX1_isContent 39 = .ok (.ireturn, 1) := by decide +kernel
set_option maxRecDepth 20000 in
theorem ggX1_deedOf_X1_heapCount : GoodIn wsX1_deedOf wsX1_heapCount := goodIn_r _ [6, 7, 24, 25, 26, 27, 28, 29, 30, 31, 32, 33] (by decide +kernel) (by decide +kernel)
set_option maxRecDepth 20000 in
theorem gX1_deedOf_X1_heapCount : GoodIn wsX1_deedOf (wsV RX1 71 RX1 yX1_heapCount wsX1_heapCount) := goodIn_app (goodIn_of _ (by decide +kernel)) ggX1_deedOf_X1_heapCount
set_option maxRecDepth 20000 in
theorem ggX1_deedOf_X1_isContent : GoodIn wsX1_deedOf wsX1_isContent := goodIn_r _ [11, 12, 2, 3, 4, 5, 6, 7, 13, 14, 15, 16, 17, 18, 19, 20, 21, 22, 23, 24, 25, 26, 27, 28, 29, 30, 31, 32, 33] (by decide +kernel) (by decide +kernel)
set_option maxRecDepth 20000 in
theorem gX1_deedOf_X1_isContent : GoodIn wsX1_deedOf (wsV RX1 78 RX1 yX1_isContent wsX1_isContent) := goodIn_app (goodIn_of _ (by decide +kernel)) ggX1_deedOf_X1_isContent
theorem dX1_deedOf_0 : decode cX1_deedOf 0 = .ok (.aload_n 0, 1) := by decide +kernel
theorem dX1_deedOf_1 : decode cX1_deedOf 1 = .ok (.iload_n 1, 1) := by decide +kernel
theorem dX1_deedOf_2 : decode cX1_deedOf 2 = .ok (.invokevirtual 71, 3) := by decide +kernel
theorem dX1_deedOf_5 : decode cX1_deedOf 5 = .ok (.ifCond .le 7, 3) := by decide +kernel
theorem dX1_deedOf_8 : decode cX1_deedOf 8 = .ok (.iconst 1, 1) := by decide +kernel
theorem dX1_deedOf_9 : decode cX1_deedOf 9 = .ok (.goto 4, 3) := by decide +kernel
theorem dX1_deedOf_12 : decode cX1_deedOf 12 = .ok (.iconst 0, 1) := by decide +kernel
theorem dX1_deedOf_13 : decode cX1_deedOf 13 = .ok (.istore_n 2, 1) := by decide +kernel
theorem dX1_deedOf_14 : decode cX1_deedOf 14 = .ok (.aload_n 0, 1) := by decide +kernel
theorem dX1_deedOf_15 : decode cX1_deedOf 15 = .ok (.getfield 27, 3) := by decide +kernel
theorem dX1_deedOf_18 : decode cX1_deedOf 18 = .ok (.iload_n 1, 1) := by decide +kernel
theorem dX1_deedOf_19 : decode cX1_deedOf 19 = .ok (.iaload, 1) := by decide +kernel
theorem dX1_deedOf_20 : decode cX1_deedOf 20 = .ok (.ifCond .ne 13, 3) := by decide +kernel
theorem dX1_deedOf_23 : decode cX1_deedOf 23 = .ok (.iload_n 2, 1) := by decide +kernel
theorem dX1_deedOf_24 : decode cX1_deedOf 24 = .ok (.ifCond .eq 7, 3) := by decide +kernel
theorem dX1_deedOf_27 : decode cX1_deedOf 27 = .ok (.iconst 3, 1) := by decide +kernel
theorem dX1_deedOf_28 : decode cX1_deedOf 28 = .ok (.goto 4, 3) := by decide +kernel
theorem dX1_deedOf_31 : decode cX1_deedOf 31 = .ok (.iconst 0, 1) := by decide +kernel
theorem dX1_deedOf_32 : decode cX1_deedOf 32 = .ok (.ireturn, 1) := by decide +kernel
theorem dX1_deedOf_33 : decode cX1_deedOf 33 = .ok (.aload_n 0, 1) := by decide +kernel
theorem dX1_deedOf_34 : decode cX1_deedOf 34 = .ok (.iload_n 1, 1) := by decide +kernel
theorem dX1_deedOf_35 : decode cX1_deedOf 35 = .ok (.invokevirtual 78, 3) := by decide +kernel
theorem dX1_deedOf_38 : decode cX1_deedOf 38 = .ok (.ifCond .eq 5, 3) := by decide +kernel
theorem dX1_deedOf_41 : decode cX1_deedOf 41 = .ok (.iconst 1, 1) := by decide +kernel
theorem dX1_deedOf_42 : decode cX1_deedOf 42 = .ok (.ireturn, 1) := by decide +kernel
theorem dX1_deedOf_43 : decode cX1_deedOf 43 = .ok (.iload_n 2, 1) := by decide +kernel
theorem dX1_deedOf_44 : decode cX1_deedOf 44 = .ok (.ifCond .eq 7, 3) := by decide +kernel
theorem dX1_deedOf_47 : decode cX1_deedOf 47 = .ok (.iconst 2, 1) := by decide +kernel
theorem dX1_deedOf_48 : decode cX1_deedOf 48 = .ok (.goto 4, 3) := by decide +kernel
theorem dX1_deedOf_51 : decode cX1_deedOf 51 = .ok (.iconst 0, 1) := by decide +kernel
theorem dX1_deedOf_52 : decode cX1_deedOf 52 = .ok (.ireturn, 1) := by decide +kernel
set_option maxRecDepth 20000 in
theorem ggX1_dearestLast_X1_priceOf : GoodIn wsX1_dearestLast wsX1_priceOf := goodIn_r _ [6, 7, 8, 9, 10, 11, 12, 13, 14, 15, 16, 17, 18, 19] (by decide +kernel) (by decide +kernel)
set_option maxRecDepth 20000 in
theorem gX1_dearestLast_X1_priceOf : GoodIn wsX1_dearestLast (wsV RX1 63 RX1 yX1_priceOf wsX1_priceOf) := goodIn_app (goodIn_of _ (by decide +kernel)) ggX1_dearestLast_X1_priceOf
theorem dX1_dearestLast_0 : decode cX1_dearestLast 0 = .ok (.iconst (-1), 1) := by decide +kernel
theorem dX1_dearestLast_1 : decode cX1_dearestLast 1 = .ok (.istore_n 2, 1) := by decide +kernel
theorem dX1_dearestLast_2 : decode cX1_dearestLast 2 = .ok (.iconst 0, 1) := by decide +kernel
theorem dX1_dearestLast_3 : decode cX1_dearestLast 3 = .ok (.istore_n 3, 1) := by decide +kernel
theorem dX1_dearestLast_4 : decode cX1_dearestLast 4 = .ok (.iconst 0, 1) := by decide +kernel
theorem dX1_dearestLast_5 : decode cX1_dearestLast 5 = .ok (.istore 4, 2) := by decide +kernel
theorem dX1_dearestLast_7 : decode cX1_dearestLast 7 = .ok (.iload 4, 2) := by decide +kernel
theorem dX1_dearestLast_9 : decode cX1_dearestLast 9 = .ok (.iconst 5, 1) := by decide +kernel
theorem dX1_dearestLast_10 : decode cX1_dearestLast 10 = .ok (.if_icmp .ge 66, 3) := by decide +kernel
theorem dX1_dearestLast_13 : decode cX1_dearestLast 13 = .ok (.aload_n 0, 1) := by decide +kernel
theorem dX1_dearestLast_14 : decode cX1_dearestLast 14 = .ok (.getfield 18, 3) := by decide +kernel
theorem dX1_dearestLast_17 : decode cX1_dearestLast 17 = .ok (.iload_n 1, 1) := by decide +kernel
theorem dX1_dearestLast_18 : decode cX1_dearestLast 18 = .ok (.iconst 5, 1) := by decide +kernel
theorem dX1_dearestLast_19 : decode cX1_dearestLast 19 = .ok (.imul, 1) := by decide +kernel
theorem dX1_dearestLast_20 : decode cX1_dearestLast 20 = .ok (.iload 4, 2) := by decide +kernel
theorem dX1_dearestLast_22 : decode cX1_dearestLast 22 = .ok (.iadd, 1) := by decide +kernel
theorem dX1_dearestLast_23 : decode cX1_dearestLast 23 = .ok (.iaload, 1) := by decide +kernel
theorem dX1_dearestLast_24 : decode cX1_dearestLast 24 = .ok (.istore 5, 2) := by decide +kernel
theorem dX1_dearestLast_26 : decode cX1_dearestLast 26 = .ok (.iload 5, 2) := by decide +kernel
theorem dX1_dearestLast_28 : decode cX1_dearestLast 28 = .ok (.ifCond .le 42, 3) := by decide +kernel
theorem dX1_dearestLast_31 : decode cX1_dearestLast 31 = .ok (.aload_n 0, 1) := by decide +kernel
theorem dX1_dearestLast_32 : decode cX1_dearestLast 32 = .ok (.iload_n 1, 1) := by decide +kernel
theorem dX1_dearestLast_33 : decode cX1_dearestLast 33 = .ok (.iload 4, 2) := by decide +kernel
theorem dX1_dearestLast_35 : decode cX1_dearestLast 35 = .ok (.iload 5, 2) := by decide +kernel
theorem dX1_dearestLast_37 : decode cX1_dearestLast 37 = .ok (.invokevirtual 63, 3) := by decide +kernel
theorem dX1_dearestLast_40 : decode cX1_dearestLast 40 = .ok (.aload_n 0, 1) := by decide +kernel
theorem dX1_dearestLast_41 : decode cX1_dearestLast 41 = .ok (.iload_n 1, 1) := by decide +kernel
theorem dX1_dearestLast_42 : decode cX1_dearestLast 42 = .ok (.iload 4, 2) := by decide +kernel
theorem dX1_dearestLast_44 : decode cX1_dearestLast 44 = .ok (.iload 5, 2) := by decide +kernel
theorem dX1_dearestLast_46 : decode cX1_dearestLast 46 = .ok (.iconst 1, 1) := by decide +kernel
theorem dX1_dearestLast_47 : decode cX1_dearestLast 47 = .ok (.isub, 1) := by decide +kernel
theorem dX1_dearestLast_48 : decode cX1_dearestLast 48 = .ok (.invokevirtual 63, 3) := by decide +kernel
theorem dX1_dearestLast_51 : decode cX1_dearestLast 51 = .ok (.isub, 1) := by decide +kernel
theorem dX1_dearestLast_52 : decode cX1_dearestLast 52 = .ok (.istore 6, 2) := by decide +kernel
theorem dX1_dearestLast_54 : decode cX1_dearestLast 54 = .ok (.iload_n 2, 1) := by decide +kernel
theorem dX1_dearestLast_55 : decode cX1_dearestLast 55 = .ok (.ifCond .lt 9, 3) := by decide +kernel
theorem dX1_dearestLast_58 : decode cX1_dearestLast 58 = .ok (.iload 6, 2) := by decide +kernel
theorem dX1_dearestLast_60 : decode cX1_dearestLast 60 = .ok (.iload_n 3, 1) := by decide +kernel
theorem dX1_dearestLast_61 : decode cX1_dearestLast 61 = .ok (.if_icmp .le 9, 3) := by decide +kernel
theorem dX1_dearestLast_64 : decode cX1_dearestLast 64 = .ok (.iload 4, 2) := by decide +kernel
theorem dX1_dearestLast_66 : decode cX1_dearestLast 66 = .ok (.istore_n 2, 1) := by decide +kernel
theorem dX1_dearestLast_67 : decode cX1_dearestLast 67 = .ok (.iload 6, 2) := by decide +kernel
theorem dX1_dearestLast_69 : decode cX1_dearestLast 69 = .ok (.istore_n 3, 1) := by decide +kernel
theorem dX1_dearestLast_70 : decode cX1_dearestLast 70 = .ok (.iinc 4 1, 3) := by decide +kernel
theorem dX1_dearestLast_73 : decode cX1_dearestLast 73 = .ok (.goto (-66), 3) := by decide +kernel
theorem dX1_dearestLast_76 : decode cX1_dearestLast 76 = .ok (.iload_n 2, 1) := by decide +kernel
theorem dX1_dearestLast_77 : decode cX1_dearestLast 77 = .ok (.ireturn, 1) := by decide +kernel
set_option maxRecDepth 20000 in
theorem ggX1_takeOneAway_X1_dearestLast : GoodIn wsX1_takeOneAway wsX1_dearestLast := goodIn_r _ [6, 1, 7, 8, 9, 5, 10, 11, 12, 13, 23, 24, 25, 26, 27, 28, 29, 30, 31, 32] (by decide +kernel) (by decide +kernel)
set_option maxRecDepth 20000 in
theorem gX1_takeOneAway_X1_dearestLast : GoodIn wsX1_takeOneAway (wsV RX1 82 RX1 yX1_dearestLast wsX1_dearestLast) := goodIn_app (goodIn_of _ (by decide +kernel)) ggX1_takeOneAway_X1_dearestLast
set_option maxRecDepth 20000 in
theorem ggX1_takeOneAway_X1_addHome : GoodIn wsX1_takeOneAway wsX1_addHome := goodIn_r _ [17, 18, 19, 20, 21, 22, 23, 24, 25, 26, 27, 28, 29, 30, 31, 32] (by decide +kernel) (by decide +kernel)
set_option maxRecDepth 20000 in
theorem gX1_takeOneAway_X1_addHome : GoodIn wsX1_takeOneAway (wsV RX1 67 RX1 yX1_addHome wsX1_addHome) := goodIn_app (goodIn_of _ (by decide +kernel)) ggX1_takeOneAway_X1_addHome
theorem dX1_takeOneAway_0 : decode cX1_takeOneAway 0 = .ok (.aload_n 0, 1) := by decide +kernel
theorem dX1_takeOneAway_1 : decode cX1_takeOneAway 1 = .ok (.iload_n 1, 1) := by decide +kernel
theorem dX1_takeOneAway_2 : decode cX1_takeOneAway 2 = .ok (.invokevirtual 82, 3) := by decide +kernel
theorem dX1_takeOneAway_5 : decode cX1_takeOneAway 5 = .ok (.istore_n 2, 1) := by decide +kernel
theorem dX1_takeOneAway_6 : decode cX1_takeOneAway 6 = .ok (.iload_n 2, 1) := by decide +kernel
theorem dX1_takeOneAway_7 : decode cX1_takeOneAway 7 = .ok (.ifCond .lt 24, 3) := by decide +kernel
theorem dX1_takeOneAway_10 : decode cX1_takeOneAway 10 = .ok (.aload_n 0, 1) := by decide +kernel
theorem dX1_takeOneAway_11 : decode cX1_takeOneAway 11 = .ok (.getfield 18, 3) := by decide +kernel
theorem dX1_takeOneAway_14 : decode cX1_takeOneAway 14 = .ok (.iload_n 1, 1) := by decide +kernel
theorem dX1_takeOneAway_15 : decode cX1_takeOneAway 15 = .ok (.iconst 5, 1) := by decide +kernel
theorem dX1_takeOneAway_16 : decode cX1_takeOneAway 16 = .ok (.imul, 1) := by decide +kernel
theorem dX1_takeOneAway_17 : decode cX1_takeOneAway 17 = .ok (.iload_n 2, 1) := by decide +kernel
theorem dX1_takeOneAway_18 : decode cX1_takeOneAway 18 = .ok (.iadd, 1) := by decide +kernel
theorem dX1_takeOneAway_19 : decode cX1_takeOneAway 19 = .ok (.dup2, 1) := by decide +kernel
theorem dX1_takeOneAway_20 : decode cX1_takeOneAway 20 = .ok (.iaload, 1) := by decide +kernel
theorem dX1_takeOneAway_21 : decode cX1_takeOneAway 21 = .ok (.iconst 1, 1) := by decide +kernel
theorem dX1_takeOneAway_22 : decode cX1_takeOneAway 22 = .ok (.isub, 1) := by decide +kernel
theorem dX1_takeOneAway_23 : decode cX1_takeOneAway 23 = .ok (.iastore, 1) := by decide +kernel
theorem dX1_takeOneAway_24 : decode cX1_takeOneAway 24 = .ok (.aload_n 0, 1) := by decide +kernel
theorem dX1_takeOneAway_25 : decode cX1_takeOneAway 25 = .ok (.iload_n 1, 1) := by decide +kernel
theorem dX1_takeOneAway_26 : decode cX1_takeOneAway 26 = .ok (.iload_n 2, 1) := by decide +kernel
theorem dX1_takeOneAway_27 : decode cX1_takeOneAway 27 = .ok (.iconst 1, 1) := by decide +kernel
theorem dX1_takeOneAway_28 : decode cX1_takeOneAway 28 = .ok (.invokevirtual 67, 3) := by decide +kernel
theorem dX1_takeOneAway_31 : decode cX1_takeOneAway 31 = .ok (.return_, 1) := by decide +kernel
set_option maxRecDepth 20000 in
theorem ggX1_changeHeaps_X1_bringHome : GoodIn wsX1_changeHeaps wsX1_bringHome := goodIn_r _ [6, 7, 8, 9, 10, 5, 11, 12, 13, 14, 15, 16, 22, 23, 24, 25, 26, 27, 28, 29, 30, 31] (by decide +kernel) (by decide +kernel)
set_option maxRecDepth 20000 in
theorem gX1_changeHeaps_X1_bringHome : GoodIn wsX1_changeHeaps (wsV RX1 85 RX1 yX1_bringHome wsX1_bringHome) := goodIn_app (goodIn_of _ (by decide +kernel)) ggX1_changeHeaps_X1_bringHome
set_option maxRecDepth 20000 in
theorem ggX1_changeHeaps_X1_trustMore : GoodIn wsX1_changeHeaps wsX1_trustMore := goodIn_r _ [20, 21, 13, 14, 15, 16, 22, 23, 24, 25, 26, 27, 28, 29, 30, 31] (by decide +kernel) (by decide +kernel)
set_option maxRecDepth 20000 in
theorem gX1_changeHeaps_X1_trustMore : GoodIn wsX1_changeHeaps (wsV RX1 89 RX1 yX1_trustMore wsX1_trustMore) := goodIn_app (goodIn_of _ (by decide +kernel)) ggX1_changeHeaps_X1_trustMore
theorem dX1_changeHeaps_0 : decode cX1_changeHeaps 0 = .ok (.aload_n 0, 1) := by decide +kernel
theorem dX1_changeHeaps_1 : decode cX1_changeHeaps 1 = .ok (.iconst 0, 1) := by decide +kernel
theorem dX1_changeHeaps_2 : decode cX1_changeHeaps 2 = .ok (.iconst 1, 1) := by decide +kernel
theorem dX1_changeHeaps_3 : decode cX1_changeHeaps 3 = .ok (.invokevirtual 85, 3) := by decide +kernel
theorem dX1_changeHeaps_6 : decode cX1_changeHeaps 6 = .ok (.aload_n 0, 1) := by decide +kernel
theorem dX1_changeHeaps_7 : decode cX1_changeHeaps 7 = .ok (.iconst 1, 1) := by decide +kernel
theorem dX1_changeHeaps_8 : decode cX1_changeHeaps 8 = .ok (.iconst 0, 1) := by decide +kernel
theorem dX1_changeHeaps_9 : decode cX1_changeHeaps 9 = .ok (.invokevirtual 85, 3) := by decide +kernel
theorem dX1_changeHeaps_12 : decode cX1_changeHeaps 12 = .ok (.aload_n 0, 1) := by decide +kernel
theorem dX1_changeHeaps_13 : decode cX1_changeHeaps 13 = .ok (.iconst 0, 1) := by decide +kernel
theorem dX1_changeHeaps_14 : decode cX1_changeHeaps 14 = .ok (.invokevirtual 89, 3) := by decide +kernel
theorem dX1_changeHeaps_17 : decode cX1_changeHeaps 17 = .ok (.aload_n 0, 1) := by decide +kernel
theorem dX1_changeHeaps_18 : decode cX1_changeHeaps 18 = .ok (.iconst 1, 1) := by decide +kernel
theorem dX1_changeHeaps_19 : decode cX1_changeHeaps 19 = .ok (.invokevirtual 89, 3) := by decide +kernel
theorem dX1_changeHeaps_22 : decode cX1_changeHeaps 22 = .ok (.aload_n 0, 1) := by decide +kernel
theorem dX1_changeHeaps_23 : decode cX1_changeHeaps 23 = .ok (.dup, 1) := by decide +kernel
theorem dX1_changeHeaps_24 : decode cX1_changeHeaps 24 = .ok (.getfield 37, 3) := by decide +kernel
theorem dX1_changeHeaps_27 : decode cX1_changeHeaps 27 = .ok (.iconst 1, 1) := by decide +kernel
theorem dX1_changeHeaps_28 : decode cX1_changeHeaps 28 = .ok (.iadd, 1) := by decide +kernel
theorem dX1_changeHeaps_29 : decode cX1_changeHeaps 29 = .ok (.putfield 37, 3) := by decide +kernel
theorem dX1_changeHeaps_32 : decode cX1_changeHeaps 32 = .ok (.return_, 1) := by decide +kernel
set_option maxRecDepth 20000 in
theorem ggX1_feedBirds_X1_eatenOf : GoodIn wsX1_feedBirds wsX1_eatenOf := goodIn_r _ [7, 8, 9, 10, 11, 12, 13, 14, 15, 16, 17, 18, 19, 20, 21, 22, 23] (by decide +kernel) (by decide +kernel)
set_option maxRecDepth 20000 in
theorem gX1_feedBirds_X1_eatenOf : GoodIn wsX1_feedBirds (wsV RX1 93 RX1 yX1_eatenOf wsX1_eatenOf) := goodIn_app (goodIn_of _ (by decide +kernel)) ggX1_feedBirds_X1_eatenOf
theorem dX1_feedBirds_0 : decode cX1_feedBirds 0 = .ok (.iconst 0, 1) := by decide +kernel
theorem dX1_feedBirds_1 : decode cX1_feedBirds 1 = .ok (.istore_n 1, 1) := by decide +kernel
theorem dX1_feedBirds_2 : decode cX1_feedBirds 2 = .ok (.iload_n 1, 1) := by decide +kernel
theorem dX1_feedBirds_3 : decode cX1_feedBirds 3 = .ok (.bipush 10, 2) := by decide +kernel
theorem dX1_feedBirds_5 : decode cX1_feedBirds 5 = .ok (.if_icmp .ge 43, 3) := by decide +kernel
theorem dX1_feedBirds_8 : decode cX1_feedBirds 8 = .ok (.aload_n 0, 1) := by decide +kernel
theorem dX1_feedBirds_9 : decode cX1_feedBirds 9 = .ok (.iload_n 1, 1) := by decide +kernel
theorem dX1_feedBirds_10 : decode cX1_feedBirds 10 = .ok (.iconst 5, 1) := by decide +kernel
theorem dX1_feedBirds_11 : decode cX1_feedBirds 11 = .ok (.irem, 1) := by decide +kernel
theorem dX1_feedBirds_12 : decode cX1_feedBirds 12 = .ok (.aload_n 0, 1) := by decide +kernel
theorem dX1_feedBirds_13 : decode cX1_feedBirds 13 = .ok (.getfield 18, 3) := by decide +kernel
theorem dX1_feedBirds_16 : decode cX1_feedBirds 16 = .ok (.iload_n 1, 1) := by decide +kernel
theorem dX1_feedBirds_17 : decode cX1_feedBirds 17 = .ok (.iaload, 1) := by decide +kernel
theorem dX1_feedBirds_18 : decode cX1_feedBirds 18 = .ok (.invokevirtual 93, 3) := by decide +kernel
theorem dX1_feedBirds_21 : decode cX1_feedBirds 21 = .ok (.istore_n 2, 1) := by decide +kernel
theorem dX1_feedBirds_22 : decode cX1_feedBirds 22 = .ok (.aload_n 0, 1) := by decide +kernel
theorem dX1_feedBirds_23 : decode cX1_feedBirds 23 = .ok (.getfield 18, 3) := by decide +kernel
theorem dX1_feedBirds_26 : decode cX1_feedBirds 26 = .ok (.iload_n 1, 1) := by decide +kernel
theorem dX1_feedBirds_27 : decode cX1_feedBirds 27 = .ok (.dup2, 1) := by decide +kernel
theorem dX1_feedBirds_28 : decode cX1_feedBirds 28 = .ok (.iaload, 1) := by decide +kernel
theorem dX1_feedBirds_29 : decode cX1_feedBirds 29 = .ok (.iload_n 2, 1) := by decide +kernel
theorem dX1_feedBirds_30 : decode cX1_feedBirds 30 = .ok (.isub, 1) := by decide +kernel
theorem dX1_feedBirds_31 : decode cX1_feedBirds 31 = .ok (.iastore, 1) := by decide +kernel
theorem dX1_feedBirds_32 : decode cX1_feedBirds 32 = .ok (.aload_n 0, 1) := by decide +kernel
theorem dX1_feedBirds_33 : decode cX1_feedBirds 33 = .ok (.dup, 1) := by decide +kernel
theorem dX1_feedBirds_34 : decode cX1_feedBirds 34 = .ok (.getfield 40, 3) := by decide +kernel
theorem dX1_feedBirds_37 : decode cX1_feedBirds 37 = .ok (.iload_n 2, 1) := by decide +kernel
theorem dX1_feedBirds_38 : decode cX1_feedBirds 38 = .ok (.iadd, 1) := by decide +kernel
theorem dX1_feedBirds_39 : decode cX1_feedBirds 39 = .ok (.putfield 40, 3) := by decide +kernel
theorem dX1_feedBirds_42 : decode cX1_feedBirds 42 = .ok (.iinc 1 1, 3) := by decide +kernel
theorem dX1_feedBirds_45 : decode cX1_feedBirds 45 = .ok (.goto (-43), 3) := by decide +kernel
theorem dX1_feedBirds_48 : decode cX1_feedBirds 48 = .ok (.return_, 1) := by decide +kernel
set_option maxRecDepth 20000 in
theorem ggX1_carryOut_X1_changeHeaps : GoodIn wsX1_carryOut wsX1_changeHeaps := goodIn_r _ [6, 7, 8, 9, 10, 5, 11, 12, 13, 14, 15, 16, 17, 18, 19, 20, 21, 22, 23, 24, 25, 26, 51, 52, 53, 54, 55, 56, 57, 58, 59, 60] (by decide +kernel) (by decide +kernel)
set_option maxRecDepth 20000 in
theorem gX1_carryOut_X1_changeHeaps : GoodIn wsX1_carryOut (wsV RX1 96 RX1 yX1_changeHeaps wsX1_changeHeaps) := goodIn_app (goodIn_of _ (by decide +kernel)) ggX1_carryOut_X1_changeHeaps
set_option maxRecDepth 20000 in
theorem ggX1_carryOut_X1_takeOneAway : GoodIn wsX1_carryOut wsX1_takeOneAway := goodIn_r _ [30, 12, 31, 32, 33, 5, 34, 35, 36, 37, 38, 39, 40, 41, 13, 14, 15, 16, 17, 18, 19, 20, 21, 51, 52, 53, 54, 55, 56, 57, 58, 59, 60] (by decide +kernel) (by decide +kernel)
set_option maxRecDepth 20000 in
theorem gX1_carryOut_X1_takeOneAway : GoodIn wsX1_carryOut (wsV RX1 99 RX1 yX1_takeOneAway wsX1_takeOneAway) := goodIn_app (goodIn_of _ (by decide +kernel)) ggX1_carryOut_X1_takeOneAway
set_option maxRecDepth 20000 in
theorem ggX1_carryOut_X1_bringHome : GoodIn wsX1_carryOut wsX1_bringHome := goodIn_r _ [11, 12, 13, 14, 15, 5, 16, 17, 18, 19, 20, 21, 51, 52, 53, 54, 55, 56, 57, 58, 59, 60] (by decide +kernel) (by decide +kernel)
set_option maxRecDepth 20000 in
theorem gX1_carryOut_X1_bringHome : GoodIn wsX1_carryOut (wsV RX1 85 RX1 yX1_bringHome wsX1_bringHome) := goodIn_app (goodIn_of _ (by decide +kernel)) ggX1_carryOut_X1_bringHome
set_option maxRecDepth 20000 in
theorem ggX1_carryOut_X1_feedBirds : GoodIn wsX1_carryOut wsX1_feedBirds := goodIn_r _ [45, 12, 46, 47, 48, 49, 5, 50, 40, 18, 19, 20, 21, 41, 51, 52, 53, 54, 55, 56, 57, 58, 59, 60] (by decide +kernel) (by decide +kernel)
set_option maxRecDepth 20000 in
theorem gX1_carryOut_X1_feedBirds : GoodIn wsX1_carryOut (wsV RX1 102 RX1 yX1_feedBirds wsX1_feedBirds) := goodIn_app (goodIn_of _ (by decide +kernel)) ggX1_carryOut_X1_feedBirds
theorem dX1_carryOut_0 : decode cX1_carryOut 0 = .ok (.iload_n 2, 1) := by decide +kernel
theorem dX1_carryOut_1 : decode cX1_carryOut 1 = .ok (.tableswitch 51 1 3 #[27, 34, 42], 27) := by decide +kernel
theorem dX1_carryOut_28 : decode cX1_carryOut 28 = .ok (.aload_n 0, 1) := by decide +kernel
theorem dX1_carryOut_29 : decode cX1_carryOut 29 = .ok (.invokevirtual 96, 3) := by decide +kernel
theorem dX1_carryOut_32 : decode cX1_carryOut 32 = .ok (.goto 20, 3) := by decide +kernel
theorem dX1_carryOut_35 : decode cX1_carryOut 35 = .ok (.aload_n 0, 1) := by decide +kernel
theorem dX1_carryOut_36 : decode cX1_carryOut 36 = .ok (.iload_n 1, 1) := by decide +kernel
theorem dX1_carryOut_37 : decode cX1_carryOut 37 = .ok (.invokevirtual 99, 3) := by decide +kernel
theorem dX1_carryOut_40 : decode cX1_carryOut 40 = .ok (.goto 12, 3) := by decide +kernel
theorem dX1_carryOut_43 : decode cX1_carryOut 43 = .ok (.aload_n 0, 1) := by decide +kernel
theorem dX1_carryOut_44 : decode cX1_carryOut 44 = .ok (.iload_n 1, 1) := by decide +kernel
theorem dX1_carryOut_45 : decode cX1_carryOut 45 = .ok (.iload_n 1, 1) := by decide +kernel
theorem dX1_carryOut_46 : decode cX1_carryOut 46 = .ok (.invokevirtual 85, 3) := by decide +kernel
theorem dX1_carryOut_49 : decode cX1_carryOut 49 = .ok (.goto 3, 3) := by decide +kernel
theorem dX1_carryOut_52 : decode cX1_carryOut 52 = .ok (.aload_n 0, 1) := by decide +kernel
theorem dX1_carryOut_53 : decode cX1_carryOut 53 = .ok (.invokevirtual 102, 3) := by decide +kernel
theorem dX1_carryOut_56 : decode cX1_carryOut 56 = .ok (.aload_n 0, 1) := by decide +kernel
theorem dX1_carryOut_57 : decode cX1_carryOut 57 = .ok (.dup, 1) := by decide +kernel
theorem dX1_carryOut_58 : decode cX1_carryOut 58 = .ok (.getfield 34, 3) := by decide +kernel
theorem dX1_carryOut_61 : decode cX1_carryOut 61 = .ok (.iconst 1, 1) := by decide +kernel
theorem dX1_carryOut_62 : decode cX1_carryOut 62 = .ok (.iadd, 1) := by decide +kernel
theorem dX1_carryOut_63 : decode cX1_carryOut 63 = .ok (.putfield 34, 3) := by decide +kernel
theorem dX1_carryOut_66 : decode cX1_carryOut 66 = .ok (.return_, 1) := by decide +kernel
set_option maxRecDepth 20000 in
theorem ggX1_passNights_X1_turn : GoodIn wsX1_passNights wsX1_turn := goodIn_r _ [5, 6, 76, 77, 78, 79, 80, 81, 82, 83, 84, 85] (by decide +kernel) (by decide +kernel)
set_option maxRecDepth 20000 in
theorem gX1_passNights_X1_turn : GoodIn wsX1_passNights (wsV RX1 105 RX1 yX1_turn wsX1_turn) := goodIn_app (goodIn_of _ (by decide +kernel)) ggX1_passNights_X1_turn
set_option maxRecDepth 20000 in
theorem ggX1_passNights_X1_deedOf : GoodIn wsX1_passNights wsX1_deedOf := goodIn_r _ [10, 11, 12, 13, 14, 4, 15, 16, 17, 18, 19, 20, 21, 22, 23, 24, 25, 26, 27, 28, 29, 30, 31, 32, 76, 77, 78, 79, 80, 81, 82, 83, 84, 85] (by decide +kernel) (by decide +kernel)
set_option maxRecDepth 20000 in
theorem gX1_passNights_X1_deedOf : GoodIn wsX1_passNights (wsV RX1 109 RX1 yX1_deedOf wsX1_deedOf) := goodIn_app (goodIn_of _ (by decide +kernel)) ggX1_passNights_X1_deedOf
set_option maxRecDepth 20000 in
theorem ggX1_passNights_X1_carryOut : GoodIn wsX1_passNights wsX1_carryOut := goodIn_r _ [36, 6, 37, 38, 39, 4, 40, 41, 42, 43, 44, 45, 16, 46, 47, 48, 49, 50, 51, 52, 53, 54, 55, 56, 57, 58, 11, 59, 60, 61, 62, 63, 64, 65, 66, 26, 27, 28, 29, 30, 31, 32, 67, 68, 69, 70, 71, 72, 73, 74, 75, 76, 77, 78, 79, 80, 81, 82, 83, 84, 85] (by decide +kernel) (by decide +kernel)
set_option maxRecDepth 20000 in
theorem gX1_passNights_X1_carryOut : GoodIn wsX1_passNights (wsV RX1 112 RX1 yX1_carryOut wsX1_carryOut) := goodIn_app (goodIn_of _ (by decide +kernel)) ggX1_passNights_X1_carryOut
theorem dX1_passNights_0 : decode cX1_passNights 0 = .ok (.iconst 0, 1) := by decide +kernel
theorem dX1_passNights_1 : decode cX1_passNights 1 = .ok (.istore_n 2, 1) := by decide +kernel
theorem dX1_passNights_2 : decode cX1_passNights 2 = .ok (.iconst 0, 1) := by decide +kernel
theorem dX1_passNights_3 : decode cX1_passNights 3 = .ok (.istore_n 3, 1) := by decide +kernel
theorem dX1_passNights_4 : decode cX1_passNights 4 = .ok (.iload_n 3, 1) := by decide +kernel
theorem dX1_passNights_5 : decode cX1_passNights 5 = .ok (.iload_n 1, 1) := by decide +kernel
theorem dX1_passNights_6 : decode cX1_passNights 6 = .ok (.if_icmp .ge 40, 3) := by decide +kernel
theorem dX1_passNights_9 : decode cX1_passNights 9 = .ok (.aload_n 0, 1) := by decide +kernel
theorem dX1_passNights_10 : decode cX1_passNights 10 = .ok (.invokevirtual 105, 3) := by decide +kernel
theorem dX1_passNights_13 : decode cX1_passNights 13 = .ok (.istore 4, 2) := by decide +kernel
theorem dX1_passNights_15 : decode cX1_passNights 15 = .ok (.aload_n 0, 1) := by decide +kernel
theorem dX1_passNights_16 : decode cX1_passNights 16 = .ok (.iload 4, 2) := by decide +kernel
theorem dX1_passNights_18 : decode cX1_passNights 18 = .ok (.invokevirtual 109, 3) := by decide +kernel
theorem dX1_passNights_21 : decode cX1_passNights 21 = .ok (.istore 5, 2) := by decide +kernel
theorem dX1_passNights_23 : decode cX1_passNights 23 = .ok (.aload_n 0, 1) := by decide +kernel
theorem dX1_passNights_24 : decode cX1_passNights 24 = .ok (.iload 4, 2) := by decide +kernel
theorem dX1_passNights_26 : decode cX1_passNights 26 = .ok (.iload 5, 2) := by decide +kernel
theorem dX1_passNights_28 : decode cX1_passNights 28 = .ok (.invokevirtual 112, 3) := by decide +kernel
theorem dX1_passNights_31 : decode cX1_passNights 31 = .ok (.iload 5, 2) := by decide +kernel
theorem dX1_passNights_33 : decode cX1_passNights 33 = .ok (.iconst 1, 1) := by decide +kernel
theorem dX1_passNights_34 : decode cX1_passNights 34 = .ok (.if_icmp .ne 6, 3) := by decide +kernel
theorem dX1_passNights_37 : decode cX1_passNights 37 = .ok (.iinc 2 1, 3) := by decide +kernel
theorem dX1_passNights_40 : decode cX1_passNights 40 = .ok (.iinc 3 1, 3) := by decide +kernel
theorem dX1_passNights_43 : decode cX1_passNights 43 = .ok (.goto (-39), 3) := by decide +kernel
theorem dX1_passNights_46 : decode cX1_passNights 46 = .ok (.iload_n 2, 1) := by decide +kernel
theorem dX1_passNights_47 : decode cX1_passNights 47 = .ok (.ireturn, 1) := by decide +kernel
theorem dX2_init_0 : decode cX2_init 0 = .ok (.aload_n 0, 1) := by decide +kernel
theorem dX2_init_1 : decode cX2_init 1 = .ok (.invokespecial 3, 3) := by decide +kernel
theorem dX2_init_4 : decode cX2_init 4 = .ok (.aload_n 0, 1) := by decide +kernel
theorem dX2_init_5 : decode cX2_init 5 = .ok (.bipush 120, 2) := by decide +kernel
theorem dX2_init_7 : decode cX2_init 7 = .ok (.newarray .int, 2) := by decide +kernel
theorem dX2_init_9 : decode cX2_init 9 = .ok (.putfield 9, 3) := by decide +kernel
theorem dX2_init_12 : decode cX2_init 12 = .ok (.aload_n 0, 1) := by decide +kernel
theorem dX2_init_13 : decode cX2_init 13 = .ok (.iconst 0, 1) := by decide +kernel
theorem dX2_init_14 : decode cX2_init 14 = .ok (.putfield 15, 3) := by decide +kernel
theorem dX2_init_17 : decode cX2_init 17 = .ok (.aload_n 0, 1) := by decide +kernel
theorem dX2_init_18 : decode cX2_init 18 = .ok (.iconst 0, 1) := by decide +kernel
theorem dX2_init_19 : decode cX2_init 19 = .ok (.putfield 19, 3) := by decide +kernel
theorem dX2_init_22 : decode cX2_init 22 = .ok (.aload_n 0, 1) := by decide +kernel
theorem dX2_init_23 : decode cX2_init 23 = .ok (.iconst 0, 1) := by decide +kernel
theorem dX2_init_24 : decode cX2_init 24 = .ok (.putfield 22, 3) := by decide +kernel
theorem dX2_init_27 : decode cX2_init 27 = .ok (.aload_n 0, 1) := by decide +kernel
theorem dX2_init_28 : decode cX2_init 28 = .ok (.iconst 0, 1) := by decide +kernel
theorem dX2_init_29 : decode cX2_init 29 = .ok (.putfield 25, 3) := by decide +kernel
theorem dX2_init_32 : decode cX2_init 32 = .ok (.aload_n 0, 1) := by decide +kernel
theorem dX2_init_33 : decode cX2_init 33 = .ok (.iconst 0, 1) := by decide +kernel
theorem dX2_init_34 : decode cX2_init 34 = .ok (.putfield 28, 3) := by decide +kernel
theorem dX2_init_37 : decode cX2_init 37 = .ok (.return_, 1) := by decide +kernel
theorem dX2_append_0 : decode cX2_append 0 = .ok (.aload_n 0, 1) := by decide +kernel
theorem dX2_append_1 : decode cX2_append 1 = .ok (.getfield 15, 3) := by decide +kernel
theorem dX2_append_4 : decode cX2_append 4 = .ok (.bipush 120, 2) := by decide +kernel
theorem dX2_append_6 : decode cX2_append 6 = .ok (.if_icmp .ge 23, 3) := by decide +kernel
theorem dX2_append_9 : decode cX2_append 9 = .ok (.aload_n 0, 1) := by decide +kernel
theorem dX2_append_10 : decode cX2_append 10 = .ok (.getfield 9, 3) := by decide +kernel
theorem dX2_append_13 : decode cX2_append 13 = .ok (.aload_n 0, 1) := by decide +kernel
theorem dX2_append_14 : decode cX2_append 14 = .ok (.getfield 15, 3) := by decide +kernel
theorem dX2_append_17 : decode cX2_append 17 = .ok (.iload_n 1, 1) := by decide +kernel
theorem dX2_append_18 : decode cX2_append 18 = .ok (.iastore, 1) := by decide +kernel
theorem dX2_append_19 : decode cX2_append 19 = .ok (.aload_n 0, 1) := by decide +kernel
theorem dX2_append_20 : decode cX2_append 20 = .ok (.dup, 1) := by decide +kernel
theorem dX2_append_21 : decode cX2_append 21 = .ok (.getfield 15, 3) := by decide +kernel
theorem dX2_append_24 : decode cX2_append 24 = .ok (.iconst 1, 1) := by decide +kernel
theorem dX2_append_25 : decode cX2_append 25 = .ok (.iadd, 1) := by decide +kernel
theorem dX2_append_26 : decode cX2_append 26 = .ok (.putfield 15, 3) := by decide +kernel
theorem dX2_append_29 : decode cX2_append 29 = .ok (.return_, 1) := by decide +kernel
set_option maxRecDepth 20000 in
theorem ggX2_tell_X2_advance : GoodIn wsX2_tell wsX2_advance := goodIn_r _ [8, 1, 2, 9, 10, 3, 11, 12, 13, 7, 14, 15, 16, 17, 18, 19, 20, 21, 22, 23, 24, 25, 26, 27, 28, 29, 30, 31, 132, 133, 134, 135, 136, 137] (by decide +kernel) (by decide +kernel)
set_option maxRecDepth 20000 in
theorem gX2_tell_X2_advance : GoodIn wsX2_tell (wsV RX2 31 RX2 yX2_advance wsX2_advance) := goodIn_app (goodIn_of _ (by decide +kernel)) ggX2_tell_X2_advance
set_option maxRecDepth 20000 in
theorem ggX2_tell_X2_tellItem : GoodIn wsX2_tell wsX2_tellItem := goodIn_r _ [35, 36, 37, 38, 7, 39, 40, 41, 42, 43, 3, 1, 2, 10, 44, 45, 46, 47, 48, 49, 50, 51, 52, 53, 54, 55, 56, 57, 58, 59, 60, 61, 62, 63, 64, 65, 66, 67, 68, 69, 70, 71, 72, 73, 74, 75, 76, 77, 78, 79, 80, 81, 82, 83, 84, 85, 86, 87, 88, 89, 90, 91, 92, 4, 5, 6, 8, 9, 11, 12, 13, 14, 15, 16, 17, 18, 19, 20, 21, 22, 23, 24, 25, 26, 27, 28, 29, 30, 31, 93, 94, 95, 96, 97, 98, 99, 100, 101, 102, 103, 104, 105, 106, 107, 108, 109, 110, 111, 112, 113, 114, 115, 116, 117, 118, 119, 120, 121, 122, 123, 124, 125, 126, 127, 128, 129, 130, 131, 132, 133, 134, 135, 136, 137, 138, 139, 140, 141, 142, 143, 144, 145, 146, 147] (by decide +kernel) (by decide +kernel)
set_option maxRecDepth 20000 in
theorem gX2_tell_X2_tellItem : GoodIn wsX2_tell (wsV RX2 34 RX2 yX2_tellItem wsX2_tellItem) := goodIn_app (goodIn_of _ (by decide +kernel)) ggX2_tell_X2_tellItem
theorem dX2_tell_0 : decode cX2_tell 0 = .ok (.aload_n 0, 1) := by decide +kernel
theorem dX2_tell_1 : decode cX2_tell 1 = .ok (.iconst 0, 1) := by decide +kernel
theorem dX2_tell_2 : decode cX2_tell 2 = .ok (.putfield 25, 3) := by decide +kernel
theorem dX2_tell_5 : decode cX2_tell 5 = .ok (.aload_n 0, 1) := by decide +kernel
theorem dX2_tell_6 : decode cX2_tell 6 = .ok (.invokevirtual 31, 3) := by decide +kernel
theorem dX2_tell_9 : decode cX2_tell 9 = .ok (.iconst 1, 1) := by decide +kernel
theorem dX2_tell_10 : decode cX2_tell 10 = .ok (.istore_n 2, 1) := by decide +kernel
theorem dX2_tell_11 : decode cX2_tell 11 = .ok (.iload_n 2, 1) := by decide +kernel
theorem dX2_tell_12 : decode cX2_tell 12 = .ok (.bipush 120, 2) := by decide +kernel
theorem dX2_tell_14 : decode cX2_tell 14 = .ok (.if_icmp .gt 52, 3) := by decide +kernel
theorem dX2_tell_17 : decode cX2_tell 17 = .ok (.aload_n 0, 1) := by decide +kernel
theorem dX2_tell_18 : decode cX2_tell 18 = .ok (.aload_n 1, 1) := by decide +kernel
theorem dX2_tell_19 : decode cX2_tell 19 = .ok (.invokevirtual 34, 3) := by decide +kernel
theorem dX2_tell_22 : decode cX2_tell 22 = .ok (.ifCond .ne 10, 3) := by decide +kernel
theorem dX2_tell_25 : decode cX2_tell 25 = .ok (.iconst (-1), 1) := by decide +kernel
theorem dX2_tell_26 : decode cX2_tell 26 = .ok (.aload_n 0, 1) := by decide +kernel
theorem dX2_tell_27 : decode cX2_tell 27 = .ok (.getfield 22, 3) := by decide +kernel
theorem dX2_tell_30 : decode cX2_tell 30 = .ok (.isub, 1) := by decide +kernel
theorem dX2_tell_31 : decode cX2_tell 31 = .ok (.ireturn, 1) := by decide +kernel
theorem dX2_tell_32 : decode cX2_tell 32 = .ok (.aload_n 0, 1) := by decide +kernel
theorem dX2_tell_33 : decode cX2_tell 33 = .ok (.getfield 19, 3) := by decide +kernel
theorem dX2_tell_36 : decode cX2_tell 36 = .ok (.ifCond .ne 5, 3) := by decide +kernel
theorem dX2_tell_39 : decode cX2_tell 39 = .ok (.iload_n 2, 1) := by decide +kernel
theorem dX2_tell_40 : decode cX2_tell 40 = .ok (.ireturn, 1) := by decide +kernel
theorem dX2_tell_41 : decode cX2_tell 41 = .ok (.aload_n 0, 1) := by decide +kernel
theorem dX2_tell_42 : decode cX2_tell 42 = .ok (.getfield 19, 3) := by decide +kernel
theorem dX2_tell_45 : decode cX2_tell 45 = .ok (.iconst 3, 1) := by decide +kernel
theorem dX2_tell_46 : decode cX2_tell 46 = .ok (.if_icmp .eq 10, 3) := by decide +kernel
theorem dX2_tell_49 : decode cX2_tell 49 = .ok (.iconst (-1), 1) := by decide +kernel
theorem dX2_tell_50 : decode cX2_tell 50 = .ok (.aload_n 0, 1) := by decide +kernel
theorem dX2_tell_51 : decode cX2_tell 51 = .ok (.getfield 22, 3) := by decide +kernel
theorem dX2_tell_54 : decode cX2_tell 54 = .ok (.isub, 1) := by decide +kernel
theorem dX2_tell_55 : decode cX2_tell 55 = .ok (.ireturn, 1) := by decide +kernel
theorem dX2_tell_56 : decode cX2_tell 56 = .ok (.aload_n 0, 1) := by decide +kernel
theorem dX2_tell_57 : decode cX2_tell 57 = .ok (.invokevirtual 31, 3) := by decide +kernel
theorem dX2_tell_60 : decode cX2_tell 60 = .ok (.iinc 2 1, 3) := by decide +kernel
theorem dX2_tell_63 : decode cX2_tell 63 = .ok (.goto (-52), 3) := by decide +kernel
theorem dX2_tell_66 : decode cX2_tell 66 = .ok (.iconst (-1), 1) := by decide +kernel
theorem dX2_tell_67 : decode cX2_tell 67 = .ok (.aload_n 0, 1) := by decide +kernel
theorem dX2_tell_68 : decode cX2_tell 68 = .ok (.getfield 22, 3) := by decide +kernel
theorem dX2_tell_71 : decode cX2_tell 71 = .ok (.isub, 1) := by decide +kernel
theorem dX2_tell_72 : decode cX2_tell 72 = .ok (.ireturn, 1) := by decide +kernel
set_option maxRecDepth 20000 in
theorem ggX2_advance_X2_isLetter : GoodIn wsX2_advance wsX2_isLetter := goodIn_r _ [10, 4, 28, 29, 30, 31, 32, 33] (by decide +kernel) (by decide +kernel)
set_option maxRecDepth 20000 in
theorem gX2_advance_X2_isLetter : GoodIn wsX2_advance (wsV RX2 38 RX2 yX2_isLetter wsX2_isLetter) := goodIn_app (goodIn_of _ (by decide +kernel)) ggX2_advance_X2_isLetter
set_option maxRecDepth 20000 in
theorem ggX2_advance_X2_readWord : GoodIn wsX2_advance wsX2_readWord := goodIn_r _ [14, 5, 1, 3, 6, 7, 8, 9, 10, 4, 28, 29, 30, 31, 32, 33] (by decide +kernel) (by decide +kernel)
set_option maxRecDepth 20000 in
theorem gX2_advance_X2_readWord : GoodIn wsX2_advance (wsV RX2 42 RX2 yX2_readWord wsX2_readWord) := goodIn_app (goodIn_of _ (by decide +kernel)) ggX2_advance_X2_readWord
set_option maxRecDepth 20000 in
theorem ggX2_advance_X2_isDigit : GoodIn wsX2_advance wsX2_isDigit := goodIn_r _ [18, 4, 28, 29, 30, 31, 32, 33] (by decide +kernel) (by decide +kernel)
set_option maxRecDepth 20000 in
theorem gX2_advance_X2_isDigit : GoodIn wsX2_advance (wsV RX2 45 RX2 yX2_isDigit wsX2_isDigit) := goodIn_app (goodIn_of _ (by decide +kernel)) ggX2_advance_X2_isDigit
set_option maxRecDepth 20000 in
theorem ggX2_advance_X2_readNumber : GoodIn wsX2_advance wsX2_readNumber := goodIn_r _ [22, 5, 23, 1, 3, 4, 24, 25, 26, 27, 15, 16, 17, 9, 18, 28, 29, 30, 31, 32, 33] (by decide +kernel) (by decide +kernel)
set_option maxRecDepth 20000 in
theorem gX2_advance_X2_readNumber : GoodIn wsX2_advance (wsV RX2 48 RX2 yX2_readNumber wsX2_readNumber) := goodIn_app (goodIn_of _ (by decide +kernel)) ggX2_advance_X2_readNumber
theorem dX2_advance_0 : decode cX2_advance 0 = .ok (.aload_n 0, 1) := by decide +kernel
theorem dX2_advance_1 : decode cX2_advance 1 = .ok (.aload_n 0, 1) := by decide +kernel
theorem dX2_advance_2 : decode cX2_advance 2 = .ok (.getfield 25, 3) := by decide +kernel
theorem dX2_advance_5 : decode cX2_advance 5 = .ok (.putfield 22, 3) := by decide +kernel
theorem dX2_advance_8 : decode cX2_advance 8 = .ok (.aload_n 0, 1) := by decide +kernel
theorem dX2_advance_9 : decode cX2_advance 9 = .ok (.getfield 22, 3) := by decide +kernel
theorem dX2_advance_12 : decode cX2_advance 12 = .ok (.aload_n 0, 1) := by decide +kernel
theorem dX2_advance_13 : decode cX2_advance 13 = .ok (.getfield 15, 3) := by decide +kernel
theorem dX2_advance_16 : decode cX2_advance 16 = .ok (.if_icmp .ge 30, 3) := by decide +kernel
theorem dX2_advance_19 : decode cX2_advance 19 = .ok (.aload_n 0, 1) := by decide +kernel
theorem dX2_advance_20 : decode cX2_advance 20 = .ok (.getfield 9, 3) := by decide +kernel
theorem dX2_advance_23 : decode cX2_advance 23 = .ok (.aload_n 0, 1) := by decide +kernel
theorem dX2_advance_24 : decode cX2_advance 24 = .ok (.getfield 22, 3) := by decide +kernel
theorem dX2_advance_27 : decode cX2_advance 27 = .ok (.iaload, 1) := by decide +kernel
theorem dX2_advance_28 : decode cX2_advance 28 = .ok (.bipush 32, 2) := by decide +kernel
theorem dX2_advance_30 : decode cX2_advance 30 = .ok (.if_icmp .ne 16, 3) := by decide +kernel
theorem dX2_advance_33 : decode cX2_advance 33 = .ok (.aload_n 0, 1) := by decide +kernel
theorem dX2_advance_34 : decode cX2_advance 34 = .ok (.dup, 1) := by decide +kernel
theorem dX2_advance_35 : decode cX2_advance 35 = .ok (.getfield 22, 3) := by decide +kernel
theorem dX2_advance_38 : decode cX2_advance 38 = .ok (.iconst 1, 1) := by decide +kernel
theorem dX2_advance_39 : decode cX2_advance 39 = .ok (.iadd, 1) := by decide +kernel
theorem dX2_advance_40 : decode cX2_advance 40 = .ok (.putfield 22, 3) := by decide +kernel
theorem dX2_advance_43 : decode cX2_advance 43 = .ok (.goto (-35), 3) := by decide +kernel
theorem dX2_advance_46 : decode cX2_advance 46 = .ok (.aload_n 0, 1) := by decide +kernel
theorem dX2_advance_47 : decode cX2_advance 47 = .ok (.aload_n 0, 1) := by decide +kernel
theorem dX2_advance_48 : decode cX2_advance 48 = .ok (.getfield 22, 3) := by decide +kernel
theorem dX2_advance_51 : decode cX2_advance 51 = .ok (.putfield 25, 3) := by decide +kernel
theorem dX2_advance_54 : decode cX2_advance 54 = .ok (.aload_n 0, 1) := by decide +kernel
theorem dX2_advance_55 : decode cX2_advance 55 = .ok (.getfield 22, 3) := by decide +kernel
theorem dX2_advance_58 : decode cX2_advance 58 = .ok (.aload_n 0, 1) := by decide +kernel
theorem dX2_advance_59 : decode cX2_advance 59 = .ok (.getfield 15, 3) := by decide +kernel
theorem dX2_advance_62 : decode cX2_advance 62 = .ok (.if_icmp .lt 11, 3) := by decide +kernel
theorem dX2_advance_65 : decode cX2_advance 65 = .ok (.aload_n 0, 1) := by decide +kernel
theorem dX2_advance_66 : decode cX2_advance 66 = .ok (.iconst 0, 1) := by decide +kernel
theorem dX2_advance_67 : decode cX2_advance 67 = .ok (.putfield 19, 3) := by decide +kernel
theorem dX2_advance_70 : decode cX2_advance 70 = .ok (.goto 72, 3) := by decide +kernel
theorem dX2_advance_73 : decode cX2_advance 73 = .ok (.aload_n 0, 1) := by decide +kernel
theorem dX2_advance_74 : decode cX2_advance 74 = .ok (.aload_n 0, 1) := by decide +kernel
theorem dX2_advance_75 : decode cX2_advance 75 = .ok (.getfield 22, 3) := by decide +kernel
theorem dX2_advance_78 : decode cX2_advance 78 = .ok (.invokevirtual 38, 3) := by decide +kernel
theorem dX2_advance_81 : decode cX2_advance 81 = .ok (.ifCond .eq 10, 3) := by decide +kernel
theorem dX2_advance_84 : decode cX2_advance 84 = .ok (.aload_n 0, 1) := by decide +kernel
theorem dX2_advance_85 : decode cX2_advance 85 = .ok (.invokevirtual 42, 3) := by decide +kernel
theorem dX2_advance_88 : decode cX2_advance 88 = .ok (.goto 54, 3) := by decide +kernel
theorem dX2_advance_91 : decode cX2_advance 91 = .ok (.aload_n 0, 1) := by decide +kernel
theorem dX2_advance_92 : decode cX2_advance 92 = .ok (.aload_n 0, 1) := by decide +kernel
theorem dX2_advance_93 : decode cX2_advance 93 = .ok (.getfield 22, 3) := by decide +kernel
theorem dX2_advance_96 : decode cX2_advance 96 = .ok (.invokevirtual 45, 3) := by decide +kernel
theorem dX2_advance_99 : decode cX2_advance 99 = .ok (.ifCond .eq 10, 3) := by decide +kernel
theorem dX2_advance_102 : decode cX2_advance 102 = .ok (.aload_n 0, 1) := by decide +kernel
theorem dX2_advance_103 : decode cX2_advance 103 = .ok (.invokevirtual 48, 3) := by decide +kernel
theorem dX2_advance_106 : decode cX2_advance 106 = .ok (.goto 36, 3) := by decide +kernel
theorem dX2_advance_109 : decode cX2_advance 109 = .ok (.aload_n 0, 1) := by decide +kernel
theorem dX2_advance_110 : decode cX2_advance 110 = .ok (.aload_n 0, 1) := by decide +kernel
theorem dX2_advance_111 : decode cX2_advance 111 = .ok (.getfield 9, 3) := by decide +kernel
theorem dX2_advance_114 : decode cX2_advance 114 = .ok (.aload_n 0, 1) := by decide +kernel
theorem dX2_advance_115 : decode cX2_advance 115 = .ok (.getfield 22, 3) := by decide +kernel
theorem dX2_advance_118 : decode cX2_advance 118 = .ok (.iaload, 1) := by decide +kernel
theorem dX2_advance_119 : decode cX2_advance 119 = .ok (.bipush 59, 2) := by decide +kernel
theorem dX2_advance_121 : decode cX2_advance 121 = .ok (.if_icmp .ne 7, 3) := by decide +kernel
theorem dX2_advance_124 : decode cX2_advance 124 = .ok (.iconst 3, 1) := by decide +kernel
theorem dX2_advance_125 : decode cX2_advance 125 = .ok (.goto 4, 3) := by decide +kernel
theorem dX2_advance_128 : decode cX2_advance 128 = .ok (.iconst 4, 1) := by decide +kernel
theorem dX2_advance_129 : decode cX2_advance 129 = .ok (.putfield 19, 3) := by decide +kernel
theorem dX2_advance_132 : decode cX2_advance 132 = .ok (.aload_n 0, 1) := by decide +kernel
theorem dX2_advance_133 : decode cX2_advance 133 = .ok (.aload_n 0, 1) := by decide +kernel
theorem dX2_advance_134 : decode cX2_advance 134 = .ok (.getfield 22, 3) := by decide +kernel
theorem dX2_advance_137 : decode cX2_advance 137 = .ok (.iconst 1, 1) := by decide +kernel
theorem dX2_advance_138 : decode cX2_advance 138 = .ok (.iadd, 1) := by decide +kernel
theorem dX2_advance_139 : decode cX2_advance 139 = .ok (.putfield 25, 3) := by decide +kernel
theorem dX2_advance_142 : decode cX2_advance 142 = .ok (.return_, 1) := by decide +kernel
theorem dX2_isLetter_0 : decode cX2_isLetter 0 = .ok (.aload_n 0, 1) := by decide +kernel
theorem dX2_isLetter_1 : decode cX2_isLetter 1 = .ok (.getfield 9, 3) := by decide +kernel
theorem dX2_isLetter_4 : decode cX2_isLetter 4 = .ok (.iload_n 1, 1) := by decide +kernel
theorem dX2_isLetter_5 : decode cX2_isLetter 5 = .ok (.iaload, 1) := by decide +kernel
theorem dX2_isLetter_6 : decode cX2_isLetter 6 = .ok (.bipush 97, 2) := by decide +kernel
theorem dX2_isLetter_8 : decode cX2_isLetter 8 = .ok (.if_icmp .lt 18, 3) := by decide +kernel
theorem dX2_isLetter_11 : decode cX2_isLetter 11 = .ok (.aload_n 0, 1) := by decide +kernel
theorem dX2_isLetter_12 : decode cX2_isLetter 12 = .ok (.getfield 9, 3) := by decide +kernel
theorem dX2_isLetter_15 : decode cX2_isLetter 15 = .ok (.iload_n 1, 1) := by decide +kernel
theorem dX2_isLetter_16 : decode cX2_isLetter 16 = .ok (.iaload, 1) := by decide +kernel
theorem dX2_isLetter_17 : decode cX2_isLetter 17 = .ok (.bipush 122, 2) := by decide +kernel
theorem dX2_isLetter_19 : decode cX2_isLetter 19 = .ok (.if_icmp .gt 7, 3) := by decide +kernel
theorem dX2_isLetter_22 : decode cX2_isLetter 22 = .ok (.iconst 1, 1) := by decide +kernel
theorem dX2_isLetter_23 : decode cX2_isLetter 23 = .ok (.goto 4, 3) := by decide +kernel
theorem dX2_isLetter_26 : decode cX2_isLetter 26 = .ok (.iconst 0, 1) := by decide +kernel
theorem dX2_isLetter_27 : decode cX2_isLetter 27 = .ok (.ireturn, 1) := by decide +kernel
theorem dX2_isDigit_0 : decode cX2_isDigit 0 = .ok (.aload_n 0, 1) := by decide +kernel
theorem dX2_isDigit_1 : decode cX2_isDigit 1 = .ok (.getfield 9, 3) := by decide +kernel
theorem dX2_isDigit_4 : decode cX2_isDigit 4 = .ok (.iload_n 1, 1) := by decide +kernel
theorem dX2_isDigit_5 : decode cX2_isDigit 5 = .ok (.iaload, 1) := by decide +kernel
theorem dX2_isDigit_6 : decode cX2_isDigit 6 = .ok (.bipush 48, 2) := by decide +kernel
theorem dX2_isDigit_8 : decode cX2_isDigit 8 = .ok (.if_icmp .lt 18, 3) := by decide +kernel
theorem dX2_isDigit_11 : decode cX2_isDigit 11 = .ok (.aload_n 0, 1) := by decide +kernel
theorem dX2_isDigit_12 : decode cX2_isDigit 12 = .ok (.getfield 9, 3) := by decide +kernel
theorem dX2_isDigit_15 : decode cX2_isDigit 15 = .ok (.iload_n 1, 1) := by decide +kernel
theorem dX2_isDigit_16 : decode cX2_isDigit 16 = .ok (.iaload, 1) := by decide +kernel
theorem dX2_isDigit_17 : decode cX2_isDigit 17 = .ok (.bipush 57, 2) := by decide +kernel
theorem dX2_isDigit_19 : decode cX2_isDigit 19 = .ok (.if_icmp .gt 7, 3) := by decide +kernel
theorem dX2_isDigit_22 : decode cX2_isDigit 22 = .ok (.iconst 1, 1) := by decide +kernel
theorem dX2_isDigit_23 : decode cX2_isDigit 23 = .ok (.goto 4, 3) := by decide +kernel
theorem dX2_isDigit_26 : decode cX2_isDigit 26 = .ok (.iconst 0, 1) := by decide +kernel
theorem dX2_isDigit_27 : decode cX2_isDigit 27 = .ok (.ireturn, 1) := by decide +kernel
set_option maxRecDepth 20000 in
theorem ggX2_readWord_X2_isLetter : GoodIn wsX2_readWord wsX2_isLetter := goodIn_r _ [8, 9, 10, 11, 12, 13, 14, 15] (by decide +kernel) (by decide +kernel)
set_option maxRecDepth 20000 in
theorem gX2_readWord_X2_isLetter : GoodIn wsX2_readWord (wsV RX2 38 RX2 yX2_isLetter wsX2_isLetter) := goodIn_app (goodIn_of _ (by decide +kernel)) ggX2_readWord_X2_isLetter
theorem dX2_readWord_0 : decode cX2_readWord 0 = .ok (.aload_n 0, 1) := by decide +kernel
theorem dX2_readWord_1 : decode cX2_readWord 1 = .ok (.iconst 1, 1) := by decide +kernel
theorem dX2_readWord_2 : decode cX2_readWord 2 = .ok (.putfield 19, 3) := by decide +kernel
theorem dX2_readWord_5 : decode cX2_readWord 5 = .ok (.aload_n 0, 1) := by decide +kernel
theorem dX2_readWord_6 : decode cX2_readWord 6 = .ok (.getfield 25, 3) := by decide +kernel
theorem dX2_readWord_9 : decode cX2_readWord 9 = .ok (.aload_n 0, 1) := by decide +kernel
theorem dX2_readWord_10 : decode cX2_readWord 10 = .ok (.getfield 15, 3) := by decide +kernel
theorem dX2_readWord_13 : decode cX2_readWord 13 = .ok (.if_icmp .ge 27, 3) := by decide +kernel
theorem dX2_readWord_16 : decode cX2_readWord 16 = .ok (.aload_n 0, 1) := by decide +kernel
theorem dX2_readWord_17 : decode cX2_readWord 17 = .ok (.aload_n 0, 1) := by decide +kernel
theorem dX2_readWord_18 : decode cX2_readWord 18 = .ok (.getfield 25, 3) := by decide +kernel
theorem dX2_readWord_21 : decode cX2_readWord 21 = .ok (.invokevirtual 38, 3) := by decide +kernel
theorem dX2_readWord_24 : decode cX2_readWord 24 = .ok (.ifCond .eq 16, 3) := by decide +kernel
theorem dX2_readWord_27 : decode cX2_readWord 27 = .ok (.aload_n 0, 1) := by decide +kernel
theorem dX2_readWord_28 : decode cX2_readWord 28 = .ok (.dup, 1) := by decide +kernel
theorem dX2_readWord_29 : decode cX2_readWord 29 = .ok (.getfield 25, 3) := by decide +kernel
theorem dX2_readWord_32 : decode cX2_readWord 32 = .ok (.iconst 1, 1) := by decide +kernel
theorem dX2_readWord_33 : decode cX2_readWord 33 = .ok (.iadd, 1) := by decide +kernel
theorem dX2_readWord_34 : decode cX2_readWord 34 = .ok (.putfield 25, 3) := by decide +kernel
theorem dX2_readWord_37 : decode cX2_readWord 37 = .ok (.goto (-32), 3) := by decide +kernel
theorem dX2_readWord_40 : decode cX2_readWord 40 = .ok (.return_, 1) := by decide +kernel
set_option maxRecDepth 20000 in
theorem ggX2_readNumber_X2_isDigit : GoodIn wsX2_readNumber wsX2_isDigit := goodIn_r _ [14, 5, 15, 16, 17, 18, 19, 20] (by decide +kernel) (by decide +kernel)
set_option maxRecDepth 20000 in
theorem gX2_readNumber_X2_isDigit : GoodIn wsX2_readNumber (wsV RX2 45 RX2 yX2_isDigit wsX2_isDigit) := goodIn_app (goodIn_of _ (by decide +kernel)) ggX2_readNumber_X2_isDigit
theorem dX2_readNumber_0 : decode cX2_readNumber 0 = .ok (.aload_n 0, 1) := by decide +kernel
theorem dX2_readNumber_1 : decode cX2_readNumber 1 = .ok (.iconst 2, 1) := by decide +kernel
theorem dX2_readNumber_2 : decode cX2_readNumber 2 = .ok (.putfield 19, 3) := by decide +kernel
theorem dX2_readNumber_5 : decode cX2_readNumber 5 = .ok (.aload_n 0, 1) := by decide +kernel
theorem dX2_readNumber_6 : decode cX2_readNumber 6 = .ok (.iconst 0, 1) := by decide +kernel
theorem dX2_readNumber_7 : decode cX2_readNumber 7 = .ok (.putfield 28, 3) := by decide +kernel
theorem dX2_readNumber_10 : decode cX2_readNumber 10 = .ok (.aload_n 0, 1) := by decide +kernel
theorem dX2_readNumber_11 : decode cX2_readNumber 11 = .ok (.getfield 25, 3) := by decide +kernel
theorem dX2_readNumber_14 : decode cX2_readNumber 14 = .ok (.aload_n 0, 1) := by decide +kernel
theorem dX2_readNumber_15 : decode cX2_readNumber 15 = .ok (.getfield 15, 3) := by decide +kernel
theorem dX2_readNumber_18 : decode cX2_readNumber 18 = .ok (.if_icmp .ge 57, 3) := by decide +kernel
theorem dX2_readNumber_21 : decode cX2_readNumber 21 = .ok (.aload_n 0, 1) := by decide +kernel
theorem dX2_readNumber_22 : decode cX2_readNumber 22 = .ok (.aload_n 0, 1) := by decide +kernel
theorem dX2_readNumber_23 : decode cX2_readNumber 23 = .ok (.getfield 25, 3) := by decide +kernel
theorem dX2_readNumber_26 : decode cX2_readNumber 26 = .ok (.invokevirtual 45, 3) := by decide +kernel
theorem dX2_readNumber_29 : decode cX2_readNumber 29 = .ok (.ifCond .eq 46, 3) := by decide +kernel
theorem dX2_readNumber_32 : decode cX2_readNumber 32 = .ok (.aload_n 0, 1) := by decide +kernel
theorem dX2_readNumber_33 : decode cX2_readNumber 33 = .ok (.sipush 1000, 3) := by decide +kernel
theorem dX2_readNumber_36 : decode cX2_readNumber 36 = .ok (.bipush 10, 2) := by decide +kernel
theorem dX2_readNumber_38 : decode cX2_readNumber 38 = .ok (.aload_n 0, 1) := by decide +kernel
theorem dX2_readNumber_39 : decode cX2_readNumber 39 = .ok (.getfield 28, 3) := by decide +kernel
theorem dX2_readNumber_42 : decode cX2_readNumber 42 = .ok (.imul, 1) := by decide +kernel
theorem dX2_readNumber_43 : decode cX2_readNumber 43 = .ok (.aload_n 0, 1) := by decide +kernel
theorem dX2_readNumber_44 : decode cX2_readNumber 44 = .ok (.getfield 9, 3) := by decide +kernel
theorem dX2_readNumber_47 : decode cX2_readNumber 47 = .ok (.aload_n 0, 1) := by decide +kernel
theorem dX2_readNumber_48 : decode cX2_readNumber 48 = .ok (.getfield 25, 3) := by decide +kernel
theorem dX2_readNumber_51 : decode cX2_readNumber 51 = .ok (.iaload, 1) := by decide +kernel
theorem dX2_readNumber_52 : decode cX2_readNumber 52 = .ok (.iadd, 1) := by decide +kernel
theorem dX2_readNumber_53 : decode cX2_readNumber 53 = .ok (.bipush 48, 2) := by decide +kernel
theorem dX2_readNumber_55 : decode cX2_readNumber 55 = .ok (.isub, 1) := by decide +kernel
theorem dX2_readNumber_56 : decode cX2_readNumber 56 = .ok (.invokestatic 51, 3) := by decide +kernel
theorem dX2_readNumber_59 : decode cX2_readNumber 59 = .ok (.putfield 28, 3) := by decide +kernel
theorem dX2_readNumber_62 : decode cX2_readNumber 62 = .ok (.aload_n 0, 1) := by decide +kernel
theorem dX2_readNumber_63 : decode cX2_readNumber 63 = .ok (.dup, 1) := by decide +kernel
theorem dX2_readNumber_64 : decode cX2_readNumber 64 = .ok (.getfield 25, 3) := by decide +kernel
theorem dX2_readNumber_67 : decode cX2_readNumber 67 = .ok (.iconst 1, 1) := by decide +kernel
theorem dX2_readNumber_68 : decode cX2_readNumber 68 = .ok (.iadd, 1) := by decide +kernel
theorem dX2_readNumber_69 : decode cX2_readNumber 69 = .ok (.putfield 25, 3) := by decide +kernel
theorem dX2_readNumber_72 : decode cX2_readNumber 72 = .ok (.goto (-62), 3) := by decide +kernel
theorem dX2_readNumber_75 : decode cX2_readNumber 75 = .ok (.return_, 1) := by decide +kernel
set_option maxRecDepth 20000 in
theorem ggX2_isWord_J0_length_8abf5 : GoodIn wsX2_isWord wsJ0_length_8abf5 := goodIn_r _ [9, 10, 11, 12, 13, 8, 14, 15, 16] (by decide +kernel) (by decide +kernel)
set_option maxRecDepth 20000 in
theorem gX2_isWord_J0_length_8abf5 : GoodIn wsX2_isWord (wsV RX2 57 RJ0 yJ0_length_8abf5 wsJ0_length_8abf5) := goodIn_app (goodIn_of _ (by decide +kernel)) ggX2_isWord_J0_length_8abf5
set_option maxRecDepth 20000 in
theorem ggX2_isWord_J0_charAt_5068e : GoodIn wsX2_isWord wsJ0_charAt_5068e := goodIn_r _ [20, 10, 21, 22, 23, 8, 24, 15, 16, 25, 26, 27, 28, 29, 30, 31, 32, 33, 34, 35, 36, 37, 38, 39, 40, 41, 42, 43, 44, 45, 46, 47, 48, 49, 50, 51, 52, 53] (by decide +kernel) (by decide +kernel)
set_option maxRecDepth 20000 in
theorem gX2_isWord_J0_charAt_5068e : GoodIn wsX2_isWord (wsV RX2 63 RJ0 yJ0_charAt_5068e wsJ0_charAt_5068e) := goodIn_app (goodIn_of _ (by decide +kernel)) ggX2_isWord_J0_charAt_5068e
theorem dX2_isWord_0 : decode cX2_isWord 0 = .ok (.aload_n 0, 1) := by decide +kernel
theorem dX2_isWord_1 : decode cX2_isWord 1 = .ok (.getfield 19, 3) := by decide +kernel
theorem dX2_isWord_4 : decode cX2_isWord 4 = .ok (.iconst 1, 1) := by decide +kernel
theorem dX2_isWord_5 : decode cX2_isWord 5 = .ok (.if_icmp .ne 19, 3) := by decide +kernel
theorem dX2_isWord_8 : decode cX2_isWord 8 = .ok (.aload_n 0, 1) := by decide +kernel
theorem dX2_isWord_9 : decode cX2_isWord 9 = .ok (.getfield 25, 3) := by decide +kernel
theorem dX2_isWord_12 : decode cX2_isWord 12 = .ok (.aload_n 0, 1) := by decide +kernel
theorem dX2_isWord_13 : decode cX2_isWord 13 = .ok (.getfield 22, 3) := by decide +kernel
theorem dX2_isWord_16 : decode cX2_isWord 16 = .ok (.isub, 1) := by decide +kernel
theorem dX2_isWord_17 : decode cX2_isWord 17 = .ok (.aload_n 1, 1) := by decide +kernel
theorem dX2_isWord_18 : decode cX2_isWord 18 = .ok (.invokevirtual 57, 3) := by decide +kernel
theorem dX2_isWord_21 : decode cX2_isWord 21 = .ok (.if_icmp .eq 5, 3) := by decide +kernel
theorem dX2_isWord_24 : decode cX2_isWord 24 = .ok (.iconst 0, 1) := by decide +kernel
theorem dX2_isWord_25 : decode cX2_isWord 25 = .ok (.ireturn, 1) := by decide +kernel
theorem dX2_isWord_26 : decode cX2_isWord 26 = .ok (.iconst 0, 1) := by decide +kernel
theorem dX2_isWord_27 : decode cX2_isWord 27 = .ok (.istore_n 2, 1) := by decide +kernel
theorem dX2_isWord_28 : decode cX2_isWord 28 = .ok (.iload_n 2, 1) := by decide +kernel
theorem dX2_isWord_29 : decode cX2_isWord 29 = .ok (.aload_n 1, 1) := by decide +kernel
theorem dX2_isWord_30 : decode cX2_isWord 30 = .ok (.invokevirtual 57, 3) := by decide +kernel
theorem dX2_isWord_33 : decode cX2_isWord 33 = .ok (.if_icmp .ge 30, 3) := by decide +kernel
theorem dX2_isWord_36 : decode cX2_isWord 36 = .ok (.aload_n 0, 1) := by decide +kernel
theorem dX2_isWord_37 : decode cX2_isWord 37 = .ok (.getfield 9, 3) := by decide +kernel
theorem dX2_isWord_40 : decode cX2_isWord 40 = .ok (.aload_n 0, 1) := by decide +kernel
theorem dX2_isWord_41 : decode cX2_isWord 41 = .ok (.getfield 22, 3) := by decide +kernel
theorem dX2_isWord_44 : decode cX2_isWord 44 = .ok (.iload_n 2, 1) := by decide +kernel
theorem dX2_isWord_45 : decode cX2_isWord 45 = .ok (.iadd, 1) := by decide +kernel
theorem dX2_isWord_46 : decode cX2_isWord 46 = .ok (.iaload, 1) := by decide +kernel
theorem dX2_isWord_47 : decode cX2_isWord 47 = .ok (.aload_n 1, 1) := by decide +kernel
theorem dX2_isWord_48 : decode cX2_isWord 48 = .ok (.iload_n 2, 1) := by decide +kernel
theorem dX2_isWord_49 : decode cX2_isWord 49 = .ok (.invokevirtual 63, 3) := by decide +kernel
theorem dX2_isWord_52 : decode cX2_isWord 52 = .ok (.if_icmp .eq 5, 3) := by decide +kernel
theorem dX2_isWord_55 : decode cX2_isWord 55 = .ok (.iconst 0, 1) := by decide +kernel
theorem dX2_isWord_56 : decode cX2_isWord 56 = .ok (.ireturn, 1) := by decide +kernel
theorem dX2_isWord_57 : decode cX2_isWord 57 = .ok (.iinc 2 1, 3) := by decide +kernel
theorem dX2_isWord_60 : decode cX2_isWord 60 = .ok (.goto (-32), 3) := by decide +kernel
theorem dX2_isWord_63 : decode cX2_isWord 63 = .ok (.iconst 1, 1) := by decide +kernel
theorem dX2_isWord_64 : decode cX2_isWord 64 = .ok (.ireturn, 1) := by decide +kernel
set_option maxRecDepth 20000 in
theorem ggX2_takeWord_X2_isWord : GoodIn wsX2_takeWord wsX2_isWord := goodIn_r _ [5, 6, 7, 8, 9, 10, 11, 12, 13, 14, 15, 16, 17, 18, 19, 20, 21, 22, 23, 24, 25, 26, 27, 28, 29, 30, 31, 32, 33, 34, 35, 36, 37, 38, 39, 40, 41, 42, 43, 44, 45, 46, 47, 48, 49, 50, 51, 52, 53, 54, 55, 56, 57, 58, 85, 86, 87, 88, 89, 90] (by decide +kernel) (by decide +kernel)
set_option maxRecDepth 20000 in
theorem gX2_takeWord_X2_isWord : GoodIn wsX2_takeWord (wsV RX2 67 RX2 yX2_isWord wsX2_isWord) := goodIn_app (goodIn_of _ (by decide +kernel)) ggX2_takeWord_X2_isWord
set_option maxRecDepth 20000 in
theorem ggX2_takeWord_X2_advance : GoodIn wsX2_takeWord wsX2_advance := goodIn_r _ [62, 7, 8, 63, 9, 6, 64, 65, 66, 4, 67, 68, 69, 70, 71, 72, 73, 74, 75, 76, 77, 78, 79, 80, 81, 82, 83, 84, 85, 86, 87, 88, 89, 90] (by decide +kernel) (by decide +kernel)
set_option maxRecDepth 20000 in
theorem gX2_takeWord_X2_advance : GoodIn wsX2_takeWord (wsV RX2 31 RX2 yX2_advance wsX2_advance) := goodIn_app (goodIn_of _ (by decide +kernel)) ggX2_takeWord_X2_advance
theorem dX2_takeWord_0 : decode cX2_takeWord 0 = .ok (.aload_n 0, 1) := by decide +kernel
theorem dX2_takeWord_1 : decode cX2_takeWord 1 = .ok (.aload_n 1, 1) := by decide +kernel
theorem dX2_takeWord_2 : decode cX2_takeWord 2 = .ok (.invokevirtual 67, 3) := by decide +kernel
theorem dX2_takeWord_5 : decode cX2_takeWord 5 = .ok (.istore_n 2, 1) := by decide +kernel
theorem dX2_takeWord_6 : decode cX2_takeWord 6 = .ok (.iload_n 2, 1) := by decide +kernel
theorem dX2_takeWord_7 : decode cX2_takeWord 7 = .ok (.ifCond .eq 7, 3) := by decide +kernel
theorem dX2_takeWord_10 : decode cX2_takeWord 10 = .ok (.aload_n 0, 1) := by decide +kernel
theorem dX2_takeWord_11 : decode cX2_takeWord 11 = .ok (.invokevirtual 31, 3) := by decide +kernel
theorem dX2_takeWord_14 : decode cX2_takeWord 14 = .ok (.iload_n 2, 1) := by decide +kernel
theorem dX2_takeWord_15 : decode cX2_takeWord 15 = .ok (.ireturn, 1) := by decide +kernel
set_option maxRecDepth 20000 in
theorem ggX2_takeNumber_X2_advance : GoodIn wsX2_takeNumber wsX2_advance := goodIn_r _ [7, 8, 9, 10, 11, 1, 12, 13, 14, 6, 15, 16, 17, 18, 19, 20, 21, 22, 23, 24, 25, 26, 27, 2, 28, 29, 30, 31, 32, 33, 34, 35, 36, 37] (by decide +kernel) (by decide +kernel)
set_option maxRecDepth 20000 in
theorem gX2_takeNumber_X2_advance : GoodIn wsX2_takeNumber (wsV RX2 31 RX2 yX2_advance wsX2_advance) := goodIn_app (goodIn_of _ (by decide +kernel)) ggX2_takeNumber_X2_advance
theorem dX2_takeNumber_0 : decode cX2_takeNumber 0 = .ok (.aload_n 0, 1) := by decide +kernel
theorem dX2_takeNumber_1 : decode cX2_takeNumber 1 = .ok (.getfield 19, 3) := by decide +kernel
theorem dX2_takeNumber_4 : decode cX2_takeNumber 4 = .ok (.iconst 2, 1) := by decide +kernel
theorem dX2_takeNumber_5 : decode cX2_takeNumber 5 = .ok (.if_icmp .ne 11, 3) := by decide +kernel
theorem dX2_takeNumber_8 : decode cX2_takeNumber 8 = .ok (.aload_n 0, 1) := by decide +kernel
theorem dX2_takeNumber_9 : decode cX2_takeNumber 9 = .ok (.getfield 28, 3) := by decide +kernel
theorem dX2_takeNumber_12 : decode cX2_takeNumber 12 = .ok (.iload_n 1, 1) := by decide +kernel
theorem dX2_takeNumber_13 : decode cX2_takeNumber 13 = .ok (.if_icmp .le 5, 3) := by decide +kernel
theorem dX2_takeNumber_16 : decode cX2_takeNumber 16 = .ok (.iconst (-1), 1) := by decide +kernel
theorem dX2_takeNumber_17 : decode cX2_takeNumber 17 = .ok (.ireturn, 1) := by decide +kernel
theorem dX2_takeNumber_18 : decode cX2_takeNumber 18 = .ok (.aload_n 0, 1) := by decide +kernel
theorem dX2_takeNumber_19 : decode cX2_takeNumber 19 = .ok (.getfield 28, 3) := by decide +kernel
theorem dX2_takeNumber_22 : decode cX2_takeNumber 22 = .ok (.istore_n 2, 1) := by decide +kernel
theorem dX2_takeNumber_23 : decode cX2_takeNumber 23 = .ok (.aload_n 0, 1) := by decide +kernel
theorem dX2_takeNumber_24 : decode cX2_takeNumber 24 = .ok (.invokevirtual 31, 3) := by decide +kernel
theorem dX2_takeNumber_27 : decode cX2_takeNumber 27 = .ok (.iload_n 2, 1) := by decide +kernel
theorem dX2_takeNumber_28 : decode cX2_takeNumber 28 = .ok (.ireturn, 1) := by decide +kernel
set_option maxRecDepth 20000 in
theorem ggX2_tellItem_X2_wordOfKind : GoodIn wsX2_tellItem wsX2_wordOfKind := goodIn_r _ [5, 6, 7, 8, 4, 9, 10, 11, 12, 13, 14, 15, 16, 17, 18, 19, 20, 21, 22, 23, 24, 25, 26, 27, 28, 29, 30, 31, 32, 33, 34, 35, 36, 37, 38, 39, 40, 41, 42, 43, 44, 45, 46, 47, 48, 49, 50, 51, 52, 53, 54, 55, 56, 57, 58, 59, 60, 61, 62, 128, 129, 130, 131, 132, 133] (by decide +kernel) (by decide +kernel)
set_option maxRecDepth 20000 in
theorem gX2_tellItem_X2_wordOfKind : GoodIn wsX2_tellItem (wsV RX2 71 RX2 yX2_wordOfKind wsX2_wordOfKind) := goodIn_app (goodIn_of _ (by decide +kernel)) ggX2_tellItem_X2_wordOfKind
set_option maxRecDepth 20000 in
theorem ggX2_tellItem_X2_advance : GoodIn wsX2_tellItem wsX2_advance := goodIn_r _ [66, 11, 12, 67, 13, 10, 68, 69, 70, 4, 71, 72, 73, 74, 75, 76, 77, 78, 79, 80, 81, 82, 83, 84, 85, 86, 87, 88, 128, 129, 130, 131, 132, 133] (by decide +kernel) (by decide +kernel)
set_option maxRecDepth 20000 in
theorem gX2_tellItem_X2_advance : GoodIn wsX2_tellItem (wsV RX2 31 RX2 yX2_advance wsX2_advance) := goodIn_app (goodIn_of _ (by decide +kernel)) ggX2_tellItem_X2_advance
set_option maxRecDepth 20000 in
theorem ggX2_tellItem_X2_tellKind : GoodIn wsX2_tellItem wsX2_tellKind := goodIn_r _ [92, 93, 94, 95, 96, 4, 97, 10, 84, 63, 64, 65, 66, 11, 12, 67, 13, 68, 69, 70, 71, 72, 73, 74, 75, 76, 77, 78, 79, 80, 81, 82, 83, 85, 86, 87, 88, 134, 135, 136, 137, 138, 139, 140, 141, 142, 143, 128, 129, 130, 131, 132, 133] (by decide +kernel) (by decide +kernel)
set_option maxRecDepth 20000 in
theorem gX2_tellItem_X2_tellKind : GoodIn wsX2_tellItem (wsV RX2 74 RX2 yX2_tellKind wsX2_tellKind) := goodIn_app (goodIn_of _ (by decide +kernel)) ggX2_tellItem_X2_tellKind
set_option maxRecDepth 20000 in
theorem ggX2_tellItem_X2_takeWord : GoodIn wsX2_tellItem wsX2_takeWord := goodIn_r _ [101, 6, 7, 8, 4, 9, 10, 11, 12, 13, 14, 15, 16, 17, 18, 19, 20, 21, 22, 23, 24, 25, 26, 27, 28, 29, 30, 31, 32, 33, 34, 35, 36, 37, 38, 39, 40, 41, 42, 43, 44, 45, 46, 47, 48, 49, 50, 51, 52, 53, 54, 55, 56, 57, 58, 59, 60, 61, 62, 63, 64, 65, 66, 67, 68, 69, 70, 71, 72, 73, 74, 75, 76, 77, 78, 79, 80, 81, 82, 83, 84, 85, 86, 87, 88, 128, 129, 130, 131, 132, 133] (by decide +kernel) (by decide +kernel)
set_option maxRecDepth 20000 in
theorem gX2_tellItem_X2_takeWord : GoodIn wsX2_tellItem (wsV RX2 80 RX2 yX2_takeWord wsX2_takeWord) := goodIn_app (goodIn_of _ (by decide +kernel)) ggX2_tellItem_X2_takeWord
set_option maxRecDepth 20000 in
theorem ggX2_tellItem_X2_tellSide : GoodIn wsX2_tellItem wsX2_tellSide := goodIn_r _ [105, 106, 107, 94, 95, 96, 4, 97, 10, 84, 63, 64, 65, 66, 11, 12, 67, 13, 68, 69, 70, 71, 72, 73, 74, 75, 76, 77, 78, 79, 80, 81, 82, 83, 85, 86, 87, 88, 98, 99, 100, 101, 6, 7, 8, 9, 14, 15, 16, 17, 18, 19, 20, 21, 22, 23, 24, 25, 26, 27, 28, 29, 30, 31, 32, 33, 34, 35, 36, 37, 38, 39, 40, 41, 42, 43, 44, 45, 46, 47, 48, 49, 50, 51, 52, 53, 54, 55, 56, 57, 58, 59, 60, 61, 62, 134, 135, 136, 137, 138, 139, 140, 141, 142, 143, 128, 129, 130, 131, 132, 133] (by decide +kernel) (by decide +kernel)
set_option maxRecDepth 20000 in
theorem gX2_tellItem_X2_tellSide : GoodIn wsX2_tellItem (wsV RX2 83 RX2 yX2_tellSide wsX2_tellSide) := goodIn_app (goodIn_of _ (by decide +kernel)) ggX2_tellItem_X2_tellSide
set_option maxRecDepth 20000 in
theorem ggX2_tellItem_X2_tellStock : GoodIn wsX2_tellItem wsX2_tellStock := goodIn_r _ [111, 94, 95, 96, 4, 97, 10, 84, 63, 64, 65, 66, 11, 12, 67, 13, 68, 69, 70, 71, 72, 73, 74, 75, 76, 77, 78, 79, 80, 81, 82, 83, 85, 86, 87, 88, 112, 113, 114, 115, 116, 117, 118, 119, 120, 121, 122, 128, 129, 130, 131, 132, 133, 134, 135, 136, 137, 138, 139, 140, 141, 142, 143] (by decide +kernel) (by decide +kernel)
set_option maxRecDepth 20000 in
theorem gX2_tellItem_X2_tellStock : GoodIn wsX2_tellItem (wsV RX2 88 RX2 yX2_tellStock wsX2_tellStock) := goodIn_app (goodIn_of _ (by decide +kernel)) ggX2_tellItem_X2_tellStock
set_option maxRecDepth 20000 in
theorem ggX2_tellItem_X2_tellFrost : GoodIn wsX2_tellItem wsX2_tellFrost := goodIn_r _ [126, 127, 94, 95, 96, 4, 97, 10, 84, 63, 64, 65, 66, 11, 12, 67, 13, 68, 69, 70, 71, 72, 73, 74, 75, 76, 77, 78, 79, 80, 81, 82, 83, 85, 86, 87, 88, 134, 135, 136, 137, 138, 139, 140, 141, 142, 143, 128, 129, 130, 131, 132, 133] (by decide +kernel) (by decide +kernel)
set_option maxRecDepth 20000 in
theorem gX2_tellItem_X2_tellFrost : GoodIn wsX2_tellItem (wsV RX2 97 RX2 yX2_tellFrost wsX2_tellFrost) := goodIn_app (goodIn_of _ (by decide +kernel)) ggX2_tellItem_X2_tellFrost
theorem dX2_tellItem_0 : decode cX2_tellItem 0 = .ok (.aload_n 0, 1) := by decide +kernel
theorem dX2_tellItem_1 : decode cX2_tellItem 1 = .ok (.invokevirtual 71, 3) := by decide +kernel
theorem dX2_tellItem_4 : decode cX2_tellItem 4 = .ok (.istore_n 2, 1) := by decide +kernel
theorem dX2_tellItem_5 : decode cX2_tellItem 5 = .ok (.iload_n 2, 1) := by decide +kernel
theorem dX2_tellItem_6 : decode cX2_tellItem 6 = .ok (.ifCond .lt 14, 3) := by decide +kernel
theorem dX2_tellItem_9 : decode cX2_tellItem 9 = .ok (.aload_n 0, 1) := by decide +kernel
theorem dX2_tellItem_10 : decode cX2_tellItem 10 = .ok (.invokevirtual 31, 3) := by decide +kernel
theorem dX2_tellItem_13 : decode cX2_tellItem 13 = .ok (.aload_n 0, 1) := by decide +kernel
theorem dX2_tellItem_14 : decode cX2_tellItem 14 = .ok (.aload_n 1, 1) := by decide +kernel
theorem dX2_tellItem_15 : decode cX2_tellItem 15 = .ok (.iload_n 2, 1) := by decide +kernel
theorem dX2_tellItem_16 : decode cX2_tellItem 16 = .ok (.invokevirtual 74, 3) := by decide +kernel
theorem dX2_tellItem_19 : decode cX2_tellItem 19 = .ok (.ireturn, 1) := by decide +kernel
theorem dX2_tellItem_20 : decode cX2_tellItem 20 = .ok (.aload_n 0, 1) := by decide +kernel
theorem dX2_tellItem_21 : decode cX2_tellItem 21 = .ok (.ldc 78, 2) := by decide +kernel
theorem dX2_tellItem_23 : decode cX2_tellItem 23 = .ok (.invokevirtual 80, 3) := by decide +kernel
theorem dX2_tellItem_26 : decode cX2_tellItem 26 = .ok (.ifCond .eq 9, 3) := by decide +kernel
theorem dX2_tellItem_29 : decode cX2_tellItem 29 = .ok (.aload_n 0, 1) := by decide +kernel
theorem dX2_tellItem_30 : decode cX2_tellItem 30 = .ok (.aload_n 1, 1) := by decide +kernel
theorem dX2_tellItem_31 : decode cX2_tellItem 31 = .ok (.invokevirtual 83, 3) := by decide +kernel
theorem dX2_tellItem_34 : decode cX2_tellItem 34 = .ok (.ireturn, 1) := by decide +kernel
theorem dX2_tellItem_35 : decode cX2_tellItem 35 = .ok (.aload_n 0, 1) := by decide +kernel
theorem dX2_tellItem_36 : decode cX2_tellItem 36 = .ok (.ldc 86, 2) := by decide +kernel
theorem dX2_tellItem_38 : decode cX2_tellItem 38 = .ok (.invokevirtual 80, 3) := by decide +kernel
theorem dX2_tellItem_41 : decode cX2_tellItem 41 = .ok (.ifCond .eq 10, 3) := by decide +kernel
theorem dX2_tellItem_44 : decode cX2_tellItem 44 = .ok (.aload_n 0, 1) := by decide +kernel
theorem dX2_tellItem_45 : decode cX2_tellItem 45 = .ok (.aload_n 1, 1) := by decide +kernel
theorem dX2_tellItem_46 : decode cX2_tellItem 46 = .ok (.iconst 0, 1) := by decide +kernel
theorem dX2_tellItem_47 : decode cX2_tellItem 47 = .ok (.invokevirtual 88, 3) := by decide +kernel
theorem dX2_tellItem_50 : decode cX2_tellItem 50 = .ok (.ireturn, 1) := by decide +kernel
theorem dX2_tellItem_51 : decode cX2_tellItem 51 = .ok (.aload_n 0, 1) := by decide +kernel
theorem dX2_tellItem_52 : decode cX2_tellItem 52 = .ok (.ldc 91, 2) := by decide +kernel
theorem dX2_tellItem_54 : decode cX2_tellItem 54 = .ok (.invokevirtual 80, 3) := by decide +kernel
theorem dX2_tellItem_57 : decode cX2_tellItem 57 = .ok (.ifCond .eq 10, 3) := by decide +kernel
theorem dX2_tellItem_60 : decode cX2_tellItem 60 = .ok (.aload_n 0, 1) := by decide +kernel
theorem dX2_tellItem_61 : decode cX2_tellItem 61 = .ok (.aload_n 1, 1) := by decide +kernel
theorem dX2_tellItem_62 : decode cX2_tellItem 62 = .ok (.iconst 1, 1) := by decide +kernel
theorem dX2_tellItem_63 : decode cX2_tellItem 63 = .ok (.invokevirtual 88, 3) := by decide +kernel
theorem dX2_tellItem_66 : decode cX2_tellItem 66 = .ok (.ireturn, 1) := by decide +kernel
theorem dX2_tellItem_67 : decode cX2_tellItem 67 = .ok (.aload_n 0, 1) := by decide +kernel
theorem dX2_tellItem_68 : decode cX2_tellItem 68 = .ok (.ldc 93, 2) := by decide +kernel
theorem dX2_tellItem_70 : decode cX2_tellItem 70 = .ok (.invokevirtual 80, 3) := by decide +kernel
theorem dX2_tellItem_73 : decode cX2_tellItem 73 = .ok (.ifCond .eq 10, 3) := by decide +kernel
theorem dX2_tellItem_76 : decode cX2_tellItem 76 = .ok (.aload_n 0, 1) := by decide +kernel
theorem dX2_tellItem_77 : decode cX2_tellItem 77 = .ok (.aload_n 1, 1) := by decide +kernel
theorem dX2_tellItem_78 : decode cX2_tellItem 78 = .ok (.iconst 2, 1) := by decide +kernel
theorem dX2_tellItem_79 : decode cX2_tellItem 79 = .ok (.invokevirtual 88, 3) := by decide +kernel
theorem dX2_tellItem_82 : decode cX2_tellItem 82 = .ok (.ireturn, 1) := by decide +kernel
theorem dX2_tellItem_83 : decode cX2_tellItem 83 = .ok (.aload_n 0, 1) := by decide +kernel
theorem dX2_tellItem_84 : decode cX2_tellItem 84 = .ok (.ldc 95, 2) := by decide +kernel
theorem dX2_tellItem_86 : decode cX2_tellItem 86 = .ok (.invokevirtual 80, 3) := by decide +kernel
theorem dX2_tellItem_89 : decode cX2_tellItem 89 = .ok (.ifCond .eq 15, 3) := by decide +kernel
theorem dX2_tellItem_92 : decode cX2_tellItem 92 = .ok (.aload_n 0, 1) := by decide +kernel
theorem dX2_tellItem_93 : decode cX2_tellItem 93 = .ok (.aload_n 1, 1) := by decide +kernel
theorem dX2_tellItem_94 : decode cX2_tellItem 94 = .ok (.invokevirtual 97, 3) := by decide +kernel
theorem dX2_tellItem_97 : decode cX2_tellItem 97 = .ok (.ifCond .eq 7, 3) := by decide +kernel
theorem dX2_tellItem_100 : decode cX2_tellItem 100 = .ok (.iconst 1, 1) := by decide +kernel
theorem dX2_tellItem_101 : decode cX2_tellItem 101 = .ok (.goto 4, 3) := by decide +kernel
theorem dX2_tellItem_104 : decode cX2_tellItem 104 = .ok (.iconst 0, 1) := by decide +kernel
theorem dX2_tellItem_105 : decode cX2_tellItem 105 = .ok (.ireturn, 1) := by decide +kernel
set_option maxRecDepth 20000 in
theorem ggX2_wordOfKind_X2_isWord : GoodIn wsX2_wordOfKind wsX2_isWord := goodIn_r _ [5, 6, 7, 8, 9, 10, 11, 12, 13, 14, 15, 16, 17, 18, 19, 20, 21, 22, 23, 24, 25, 26, 27, 28, 29, 30, 31, 32, 33, 34, 35, 36, 37, 38, 39, 40, 41, 42, 43, 44, 45, 46, 47, 48, 49, 50, 51, 52, 53, 54, 55, 56, 57, 58, 59, 60, 61, 62, 63, 64] (by decide +kernel) (by decide +kernel)
set_option maxRecDepth 20000 in
theorem gX2_wordOfKind_X2_isWord : GoodIn wsX2_wordOfKind (wsV RX2 67 RX2 yX2_isWord wsX2_isWord) := goodIn_app (goodIn_of _ (by decide +kernel)) ggX2_wordOfKind_X2_isWord
theorem dX2_wordOfKind_0 : decode cX2_wordOfKind 0 = .ok (.aload_n 0, 1) := by decide +kernel
theorem dX2_wordOfKind_1 : decode cX2_wordOfKind 1 = .ok (.ldc 100, 2) := by decide +kernel
theorem dX2_wordOfKind_3 : decode cX2_wordOfKind 3 = .ok (.invokevirtual 67, 3) := by decide +kernel
theorem dX2_wordOfKind_6 : decode cX2_wordOfKind 6 = .ok (.ifCond .eq 5, 3) := by decide +kernel
theorem dX2_wordOfKind_9 : decode cX2_wordOfKind 9 = .ok (.iconst 0, 1) := by decide +kernel
theorem dX2_wordOfKind_10 : decode cX2_wordOfKind 10 = .ok (.ireturn, 1) := by decide +kernel
theorem dX2_wordOfKind_11 : decode cX2_wordOfKind 11 = .ok (.aload_n 0, 1) := by decide +kernel
theorem dX2_wordOfKind_12 : decode cX2_wordOfKind 12 = .ok (.ldc 102, 2) := by decide +kernel
theorem dX2_wordOfKind_14 : decode cX2_wordOfKind 14 = .ok (.invokevirtual 67, 3) := by decide +kernel
theorem dX2_wordOfKind_17 : decode cX2_wordOfKind 17 = .ok (.ifCond .eq 5, 3) := by decide +kernel
theorem dX2_wordOfKind_20 : decode cX2_wordOfKind 20 = .ok (.iconst 1, 1) := by decide +kernel
theorem dX2_wordOfKind_21 : decode cX2_wordOfKind 21 = .ok (.ireturn, 1) := by decide +kernel
theorem dX2_wordOfKind_22 : decode cX2_wordOfKind 22 = .ok (.aload_n 0, 1) := by decide +kernel
theorem dX2_wordOfKind_23 : decode cX2_wordOfKind 23 = .ok (.ldc 104, 2) := by decide +kernel
theorem dX2_wordOfKind_25 : decode cX2_wordOfKind 25 = .ok (.invokevirtual 67, 3) := by decide +kernel
theorem dX2_wordOfKind_28 : decode cX2_wordOfKind 28 = .ok (.ifCond .eq 5, 3) := by decide +kernel
theorem dX2_wordOfKind_31 : decode cX2_wordOfKind 31 = .ok (.iconst 2, 1) := by decide +kernel
theorem dX2_wordOfKind_32 : decode cX2_wordOfKind 32 = .ok (.ireturn, 1) := by decide +kernel
theorem dX2_wordOfKind_33 : decode cX2_wordOfKind 33 = .ok (.aload_n 0, 1) := by decide +kernel
theorem dX2_wordOfKind_34 : decode cX2_wordOfKind 34 = .ok (.ldc 106, 2) := by decide +kernel
theorem dX2_wordOfKind_36 : decode cX2_wordOfKind 36 = .ok (.invokevirtual 67, 3) := by decide +kernel
theorem dX2_wordOfKind_39 : decode cX2_wordOfKind 39 = .ok (.ifCond .eq 5, 3) := by decide +kernel
theorem dX2_wordOfKind_42 : decode cX2_wordOfKind 42 = .ok (.iconst 3, 1) := by decide +kernel
theorem dX2_wordOfKind_43 : decode cX2_wordOfKind 43 = .ok (.ireturn, 1) := by decide +kernel
theorem dX2_wordOfKind_44 : decode cX2_wordOfKind 44 = .ok (.aload_n 0, 1) := by decide +kernel
theorem dX2_wordOfKind_45 : decode cX2_wordOfKind 45 = .ok (.ldc 108, 2) := by decide +kernel
theorem dX2_wordOfKind_47 : decode cX2_wordOfKind 47 = .ok (.invokevirtual 67, 3) := by decide +kernel
theorem dX2_wordOfKind_50 : decode cX2_wordOfKind 50 = .ok (.ifCond .eq 5, 3) := by decide +kernel
theorem dX2_wordOfKind_53 : decode cX2_wordOfKind 53 = .ok (.iconst 4, 1) := by decide +kernel
theorem dX2_wordOfKind_54 : decode cX2_wordOfKind 54 = .ok (.ireturn, 1) := by decide +kernel
theorem dX2_wordOfKind_55 : decode cX2_wordOfKind 55 = .ok (.aload_n 0, 1) := by decide +kernel
theorem dX2_wordOfKind_56 : decode cX2_wordOfKind 56 = .ok (.ldc 110, 2) := by decide +kernel
theorem dX2_wordOfKind_58 : decode cX2_wordOfKind 58 = .ok (.invokevirtual 67, 3) := by decide +kernel
theorem dX2_wordOfKind_61 : decode cX2_wordOfKind 61 = .ok (.ifCond .eq 5, 3) := by decide +kernel
theorem dX2_wordOfKind_64 : decode cX2_wordOfKind 64 = .ok (.iconst 5, 1) := by decide +kernel
theorem dX2_wordOfKind_65 : decode cX2_wordOfKind 65 = .ok (.ireturn, 1) := by decide +kernel
theorem dX2_wordOfKind_66 : decode cX2_wordOfKind 66 = .ok (.aload_n 0, 1) := by decide +kernel
theorem dX2_wordOfKind_67 : decode cX2_wordOfKind 67 = .ok (.ldc 112, 2) := by decide +kernel
theorem dX2_wordOfKind_69 : decode cX2_wordOfKind 69 = .ok (.invokevirtual 67, 3) := by decide +kernel
theorem dX2_wordOfKind_72 : decode cX2_wordOfKind 72 = .ok (.ifCond .eq 8, 3) := by decide +kernel
theorem dX2_wordOfKind_75 : decode cX2_wordOfKind 75 = .ok (.bipush 6, 2) := by decide +kernel
theorem dX2_wordOfKind_77 : decode cX2_wordOfKind 77 = .ok (.goto 4, 3) := by decide +kernel
theorem dX2_wordOfKind_80 : decode cX2_wordOfKind 80 = .ok (.iconst (-1), 1) := by decide +kernel
theorem dX2_wordOfKind_81 : decode cX2_wordOfKind 81 = .ok (.ireturn, 1) := by decide +kernel
set_option maxRecDepth 20000 in
theorem ggX2_tellKind_X2_takeNumber : GoodIn wsX2_tellKind wsX2_takeNumber := goodIn_r _ [6, 7, 8, 9, 10, 11, 5, 12, 13, 14, 15, 16, 17, 18, 19, 20, 21, 22, 23, 24, 25, 26, 27, 28, 29, 30, 31, 32, 33, 34, 35, 36, 47, 48, 49, 50, 51, 52] (by decide +kernel) (by decide +kernel)
set_option maxRecDepth 20000 in
theorem gX2_tellKind_X2_takeNumber : GoodIn wsX2_tellKind (wsV RX2 114 RX2 yX2_takeNumber wsX2_takeNumber) := goodIn_app (goodIn_of _ (by decide +kernel)) ggX2_tellKind_X2_takeNumber
theorem dX2_tellKind_0 : decode cX2_tellKind 0 = .ok (.aload_n 0, 1) := by decide +kernel
theorem dX2_tellKind_1 : decode cX2_tellKind 1 = .ok (.iconst 4, 1) := by decide +kernel
theorem dX2_tellKind_2 : decode cX2_tellKind 2 = .ok (.invokevirtual 114, 3) := by decide +kernel
theorem dX2_tellKind_5 : decode cX2_tellKind 5 = .ok (.istore_n 3, 1) := by decide +kernel
theorem dX2_tellKind_6 : decode cX2_tellKind 6 = .ok (.iload_n 3, 1) := by decide +kernel
theorem dX2_tellKind_7 : decode cX2_tellKind 7 = .ok (.ifCond .ge 5, 3) := by decide +kernel
theorem dX2_tellKind_10 : decode cX2_tellKind 10 = .ok (.iconst 0, 1) := by decide +kernel
theorem dX2_tellKind_11 : decode cX2_tellKind 11 = .ok (.ireturn, 1) := by decide +kernel
theorem dX2_tellKind_12 : decode cX2_tellKind 12 = .ok (.aload_n 1, 1) := by decide +kernel
theorem dX2_tellKind_13 : decode cX2_tellKind 13 = .ok (.getfield 118, 3) := by decide +kernel
theorem dX2_tellKind_16 : decode cX2_tellKind 16 = .ok (.iload_n 3, 1) := by decide +kernel
theorem dX2_tellKind_17 : decode cX2_tellKind 17 = .ok (.iload_n 2, 1) := by decide +kernel
theorem dX2_tellKind_18 : decode cX2_tellKind 18 = .ok (.iastore, 1) := by decide +kernel
theorem dX2_tellKind_19 : decode cX2_tellKind 19 = .ok (.iconst 1, 1) := by decide +kernel
theorem dX2_tellKind_20 : decode cX2_tellKind 20 = .ok (.ireturn, 1) := by decide +kernel
set_option maxRecDepth 20000 in
theorem ggX2_tellSide_X2_takeNumber : GoodIn wsX2_tellSide wsX2_takeNumber := goodIn_r _ [7, 8, 9, 10, 11, 12, 6, 13, 14, 15, 16, 17, 18, 19, 20, 21, 22, 23, 24, 25, 26, 27, 28, 29, 30, 31, 32, 33, 34, 35, 36, 37, 105, 106, 107, 108, 109, 110] (by decide +kernel) (by decide +kernel)
set_option maxRecDepth 20000 in
theorem gX2_tellSide_X2_takeNumber : GoodIn wsX2_tellSide (wsV RX2 114 RX2 yX2_takeNumber wsX2_takeNumber) := goodIn_app (goodIn_of _ (by decide +kernel)) ggX2_tellSide_X2_takeNumber
set_option maxRecDepth 20000 in
theorem ggX2_tellSide_X2_takeWord : GoodIn wsX2_tellSide wsX2_takeWord := goodIn_r _ [41, 42, 43, 44, 6, 45, 8, 14, 15, 17, 46, 47, 48, 49, 50, 51, 52, 53, 54, 55, 56, 57, 58, 59, 60, 61, 62, 63, 64, 65, 66, 67, 68, 69, 70, 71, 72, 73, 74, 75, 76, 77, 78, 79, 80, 81, 82, 83, 84, 85, 86, 87, 88, 89, 90, 91, 92, 93, 94, 10, 11, 12, 13, 16, 18, 19, 20, 21, 22, 23, 24, 25, 26, 27, 28, 29, 30, 31, 32, 33, 9, 34, 35, 36, 37, 105, 106, 107, 108, 109, 110] (by decide +kernel) (by decide +kernel)
set_option maxRecDepth 20000 in
theorem gX2_tellSide_X2_takeWord : GoodIn wsX2_tellSide (wsV RX2 80 RX2 yX2_takeWord wsX2_takeWord) := goodIn_app (goodIn_of _ (by decide +kernel)) ggX2_tellSide_X2_takeWord
theorem dX2_tellSide_0 : decode cX2_tellSide 0 = .ok (.aload_n 0, 1) := by decide +kernel
theorem dX2_tellSide_1 : decode cX2_tellSide 1 = .ok (.iconst 1, 1) := by decide +kernel
theorem dX2_tellSide_2 : decode cX2_tellSide 2 = .ok (.invokevirtual 114, 3) := by decide +kernel
theorem dX2_tellSide_5 : decode cX2_tellSide 5 = .ok (.istore_n 2, 1) := by decide +kernel
theorem dX2_tellSide_6 : decode cX2_tellSide 6 = .ok (.iload_n 2, 1) := by decide +kernel
theorem dX2_tellSide_7 : decode cX2_tellSide 7 = .ok (.ifCond .ge 5, 3) := by decide +kernel
theorem dX2_tellSide_10 : decode cX2_tellSide 10 = .ok (.iconst 0, 1) := by decide +kernel
theorem dX2_tellSide_11 : decode cX2_tellSide 11 = .ok (.ireturn, 1) := by decide +kernel
theorem dX2_tellSide_12 : decode cX2_tellSide 12 = .ok (.aload_n 0, 1) := by decide +kernel
theorem dX2_tellSide_13 : decode cX2_tellSide 13 = .ok (.ldc 123, 2) := by decide +kernel
theorem dX2_tellSide_15 : decode cX2_tellSide 15 = .ok (.invokevirtual 80, 3) := by decide +kernel
theorem dX2_tellSide_18 : decode cX2_tellSide 18 = .ok (.ifCond .eq 23, 3) := by decide +kernel
theorem dX2_tellSide_21 : decode cX2_tellSide 21 = .ok (.aload_n 0, 1) := by decide +kernel
theorem dX2_tellSide_22 : decode cX2_tellSide 22 = .ok (.bipush 50, 2) := by decide +kernel
theorem dX2_tellSide_24 : decode cX2_tellSide 24 = .ok (.invokevirtual 114, 3) := by decide +kernel
theorem dX2_tellSide_27 : decode cX2_tellSide 27 = .ok (.istore_n 3, 1) := by decide +kernel
theorem dX2_tellSide_28 : decode cX2_tellSide 28 = .ok (.iload_n 3, 1) := by decide +kernel
theorem dX2_tellSide_29 : decode cX2_tellSide 29 = .ok (.ifCond .ge 5, 3) := by decide +kernel
theorem dX2_tellSide_32 : decode cX2_tellSide 32 = .ok (.iconst 0, 1) := by decide +kernel
theorem dX2_tellSide_33 : decode cX2_tellSide 33 = .ok (.ireturn, 1) := by decide +kernel
theorem dX2_tellSide_34 : decode cX2_tellSide 34 = .ok (.aload_n 1, 1) := by decide +kernel
theorem dX2_tellSide_35 : decode cX2_tellSide 35 = .ok (.getfield 125, 3) := by decide +kernel
theorem dX2_tellSide_38 : decode cX2_tellSide 38 = .ok (.iload_n 2, 1) := by decide +kernel
theorem dX2_tellSide_39 : decode cX2_tellSide 39 = .ok (.iload_n 3, 1) := by decide +kernel
theorem dX2_tellSide_40 : decode cX2_tellSide 40 = .ok (.iastore, 1) := by decide +kernel
theorem dX2_tellSide_41 : decode cX2_tellSide 41 = .ok (.aload_n 0, 1) := by decide +kernel
theorem dX2_tellSide_42 : decode cX2_tellSide 42 = .ok (.ldc 128, 2) := by decide +kernel
theorem dX2_tellSide_44 : decode cX2_tellSide 44 = .ok (.invokevirtual 80, 3) := by decide +kernel
theorem dX2_tellSide_47 : decode cX2_tellSide 47 = .ok (.ifCond .eq 23, 3) := by decide +kernel
theorem dX2_tellSide_50 : decode cX2_tellSide 50 = .ok (.aload_n 0, 1) := by decide +kernel
theorem dX2_tellSide_51 : decode cX2_tellSide 51 = .ok (.bipush 9, 2) := by decide +kernel
theorem dX2_tellSide_53 : decode cX2_tellSide 53 = .ok (.invokevirtual 114, 3) := by decide +kernel
theorem dX2_tellSide_56 : decode cX2_tellSide 56 = .ok (.istore_n 3, 1) := by decide +kernel
theorem dX2_tellSide_57 : decode cX2_tellSide 57 = .ok (.iload_n 3, 1) := by decide +kernel
theorem dX2_tellSide_58 : decode cX2_tellSide 58 = .ok (.ifCond .ge 5, 3) := by decide +kernel
theorem dX2_tellSide_61 : decode cX2_tellSide 61 = .ok (.iconst 0, 1) := by decide +kernel
theorem dX2_tellSide_62 : decode cX2_tellSide 62 = .ok (.ireturn, 1) := by decide +kernel
theorem dX2_tellSide_63 : decode cX2_tellSide 63 = .ok (.aload_n 1, 1) := by decide +kernel
theorem dX2_tellSide_64 : decode cX2_tellSide 64 = .ok (.getfield 130, 3) := by decide +kernel
theorem dX2_tellSide_67 : decode cX2_tellSide 67 = .ok (.iload_n 2, 1) := by decide +kernel
theorem dX2_tellSide_68 : decode cX2_tellSide 68 = .ok (.iload_n 3, 1) := by decide +kernel
theorem dX2_tellSide_69 : decode cX2_tellSide 69 = .ok (.iastore, 1) := by decide +kernel
theorem dX2_tellSide_70 : decode cX2_tellSide 70 = .ok (.iconst 1, 1) := by decide +kernel
theorem dX2_tellSide_71 : decode cX2_tellSide 71 = .ok (.ireturn, 1) := by decide +kernel
set_option maxRecDepth 20000 in
theorem ggX2_tellStock_X2_takeNumber : GoodIn wsX2_tellStock wsX2_takeNumber := goodIn_r _ [5, 6, 7, 8, 9, 10, 4, 11, 12, 13, 14, 15, 16, 17, 18, 19, 20, 21, 22, 23, 24, 25, 26, 27, 28, 29, 30, 31, 32, 33, 34, 35, 47, 48, 49, 50, 51, 52] (by decide +kernel) (by decide +kernel)
set_option maxRecDepth 20000 in
theorem gX2_tellStock_X2_takeNumber : GoodIn wsX2_tellStock (wsV RX2 114 RX2 yX2_takeNumber wsX2_takeNumber) := goodIn_app (goodIn_of _ (by decide +kernel)) ggX2_tellStock_X2_takeNumber
set_option maxRecDepth 20000 in
theorem ggX2_tellStock_X5_mostOf : GoodIn wsX2_tellStock wsX5_mostOf := goodIn_r _ [38] (by decide +kernel) (by decide +kernel)
set_option maxRecDepth 20000 in
theorem gX2_tellStock_X5_mostOf_n133 : GoodIn wsX2_tellStock (wsX5_mostOf) := ggX2_tellStock_X5_mostOf
set_option maxRecDepth 20000 in
theorem ggX2_tellStock_X1_stock : GoodIn wsX2_tellStock wsX1_stock := goodIn_r _ [43, 44, 45, 46, 53, 54, 55, 56, 57, 58, 59, 60, 61, 62] (by decide +kernel) (by decide +kernel)
set_option maxRecDepth 20000 in
theorem gX2_tellStock_X1_stock : GoodIn wsX2_tellStock (wsV RX2 136 RX1 yX1_stock wsX1_stock) := goodIn_app (goodIn_of _ (by decide +kernel)) ggX2_tellStock_X1_stock
theorem dX2_tellStock_0 : decode cX2_tellStock 0 = .ok (.aload_n 0, 1) := by decide +kernel
theorem dX2_tellStock_1 : decode cX2_tellStock 1 = .ok (.iconst 1, 1) := by decide +kernel
theorem dX2_tellStock_2 : decode cX2_tellStock 2 = .ok (.invokevirtual 114, 3) := by decide +kernel
theorem dX2_tellStock_5 : decode cX2_tellStock 5 = .ok (.istore_n 3, 1) := by decide +kernel
theorem dX2_tellStock_6 : decode cX2_tellStock 6 = .ok (.iload_n 3, 1) := by decide +kernel
theorem dX2_tellStock_7 : decode cX2_tellStock 7 = .ok (.ifCond .ge 7, 3) := by decide +kernel
theorem dX2_tellStock_10 : decode cX2_tellStock 10 = .ok (.iconst (-1), 1) := by decide +kernel
theorem dX2_tellStock_11 : decode cX2_tellStock 11 = .ok (.goto 8, 3) := by decide +kernel
theorem dX2_tellStock_14 : decode cX2_tellStock 14 = .ok (.aload_n 0, 1) := by decide +kernel
theorem dX2_tellStock_15 : decode cX2_tellStock 15 = .ok (.iconst 4, 1) := by decide +kernel
theorem dX2_tellStock_16 : decode cX2_tellStock 16 = .ok (.invokevirtual 114, 3) := by decide +kernel
theorem dX2_tellStock_19 : decode cX2_tellStock 19 = .ok (.istore 4, 2) := by decide +kernel
theorem dX2_tellStock_21 : decode cX2_tellStock 21 = .ok (.iload 4, 2) := by decide +kernel
theorem dX2_tellStock_23 : decode cX2_tellStock 23 = .ok (.ifCond .ge 7, 3) := by decide +kernel
theorem dX2_tellStock_26 : decode cX2_tellStock 26 = .ok (.iconst (-1), 1) := by decide +kernel
theorem dX2_tellStock_27 : decode cX2_tellStock 27 = .ok (.goto 11, 3) := by decide +kernel
theorem dX2_tellStock_30 : decode cX2_tellStock 30 = .ok (.aload_n 0, 1) := by decide +kernel
theorem dX2_tellStock_31 : decode cX2_tellStock 31 = .ok (.iload_n 2, 1) := by decide +kernel
theorem dX2_tellStock_32 : decode cX2_tellStock 32 = .ok (.invokestatic 133, 3) := by decide +kernel
theorem dX2_tellStock_35 : decode cX2_tellStock 35 = .ok (.invokevirtual 114, 3) := by decide +kernel
theorem dX2_tellStock_38 : decode cX2_tellStock 38 = .ok (.istore 5, 2) := by decide +kernel
theorem dX2_tellStock_40 : decode cX2_tellStock 40 = .ok (.iload 5, 2) := by decide +kernel
theorem dX2_tellStock_42 : decode cX2_tellStock 42 = .ok (.ifCond .ge 5, 3) := by decide +kernel
theorem dX2_tellStock_45 : decode cX2_tellStock 45 = .ok (.iconst 0, 1) := by decide +kernel
theorem dX2_tellStock_46 : decode cX2_tellStock 46 = .ok (.ireturn, 1) := by decide +kernel
theorem dX2_tellStock_47 : decode cX2_tellStock 47 = .ok (.aload_n 1, 1) := by decide +kernel
theorem dX2_tellStock_48 : decode cX2_tellStock 48 = .ok (.iload_n 2, 1) := by decide +kernel
theorem dX2_tellStock_49 : decode cX2_tellStock 49 = .ok (.invokevirtual 136, 3) := by decide +kernel
theorem dX2_tellStock_52 : decode cX2_tellStock 52 = .ok (.iload_n 3, 1) := by decide +kernel
theorem dX2_tellStock_53 : decode cX2_tellStock 53 = .ok (.iconst 5, 1) := by decide +kernel
theorem dX2_tellStock_54 : decode cX2_tellStock 54 = .ok (.imul, 1) := by decide +kernel
theorem dX2_tellStock_55 : decode cX2_tellStock 55 = .ok (.iload 4, 2) := by decide +kernel
theorem dX2_tellStock_57 : decode cX2_tellStock 57 = .ok (.iadd, 1) := by decide +kernel
theorem dX2_tellStock_58 : decode cX2_tellStock 58 = .ok (.iload 5, 2) := by decide +kernel
theorem dX2_tellStock_60 : decode cX2_tellStock 60 = .ok (.iastore, 1) := by decide +kernel
theorem dX2_tellStock_61 : decode cX2_tellStock 61 = .ok (.iconst 1, 1) := by decide +kernel
theorem dX2_tellStock_62 : decode cX2_tellStock 62 = .ok (.ireturn, 1) := by decide +kernel
set_option maxRecDepth 20000 in
theorem ggX2_tellFrost_X2_takeNumber : GoodIn wsX2_tellFrost wsX2_takeNumber := goodIn_r _ [6, 7, 8, 9, 10, 11, 5, 12, 13, 14, 15, 16, 17, 18, 19, 20, 21, 22, 23, 24, 25, 26, 27, 28, 29, 30, 31, 32, 33, 34, 35, 36, 47, 48, 49, 50, 51, 52] (by decide +kernel) (by decide +kernel)
set_option maxRecDepth 20000 in
theorem gX2_tellFrost_X2_takeNumber : GoodIn wsX2_tellFrost (wsV RX2 114 RX2 yX2_takeNumber wsX2_takeNumber) := goodIn_app (goodIn_of _ (by decide +kernel)) ggX2_tellFrost_X2_takeNumber
theorem dX2_tellFrost_0 : decode cX2_tellFrost 0 = .ok (.aload_n 0, 1) := by decide +kernel
theorem dX2_tellFrost_1 : decode cX2_tellFrost 1 = .ok (.bipush 9, 2) := by decide +kernel
theorem dX2_tellFrost_3 : decode cX2_tellFrost 3 = .ok (.invokevirtual 114, 3) := by decide +kernel
theorem dX2_tellFrost_6 : decode cX2_tellFrost 6 = .ok (.istore_n 2, 1) := by decide +kernel
theorem dX2_tellFrost_7 : decode cX2_tellFrost 7 = .ok (.iload_n 2, 1) := by decide +kernel
theorem dX2_tellFrost_8 : decode cX2_tellFrost 8 = .ok (.ifCond .ge 5, 3) := by decide +kernel
theorem dX2_tellFrost_11 : decode cX2_tellFrost 11 = .ok (.iconst 0, 1) := by decide +kernel
theorem dX2_tellFrost_12 : decode cX2_tellFrost 12 = .ok (.ireturn, 1) := by decide +kernel
theorem dX2_tellFrost_13 : decode cX2_tellFrost 13 = .ok (.aload_n 1, 1) := by decide +kernel
theorem dX2_tellFrost_14 : decode cX2_tellFrost 14 = .ok (.iload_n 2, 1) := by decide +kernel
theorem dX2_tellFrost_15 : decode cX2_tellFrost 15 = .ok (.putfield 140, 3) := by decide +kernel
theorem dX2_tellFrost_18 : decode cX2_tellFrost 18 = .ok (.iconst 1, 1) := by decide +kernel
theorem dX2_tellFrost_19 : decode cX2_tellFrost 19 = .ok (.ireturn, 1) := by decide +kernel
theorem dX3_init_0 : decode cX3_init 0 = .ok (.aload_n 0, 1) := by decide +kernel
theorem dX3_init_1 : decode cX3_init 1 = .ok (.invokespecial 3, 3) := by decide +kernel
theorem dX3_init_4 : decode cX3_init 4 = .ok (.aload_n 0, 1) := by decide +kernel
theorem dX3_init_5 : decode cX3_init 5 = .ok (.bipush 40, 2) := by decide +kernel
theorem dX3_init_7 : decode cX3_init 7 = .ok (.newarray .int, 2) := by decide +kernel
theorem dX3_init_9 : decode cX3_init 9 = .ok (.putfield 9, 3) := by decide +kernel
theorem dX3_init_12 : decode cX3_init 12 = .ok (.aload_n 0, 1) := by decide +kernel
theorem dX3_init_13 : decode cX3_init 13 = .ok (.iconst 0, 1) := by decide +kernel
theorem dX3_init_14 : decode cX3_init 14 = .ok (.putfield 15, 3) := by decide +kernel
theorem dX3_init_17 : decode cX3_init 17 = .ok (.aload_n 0, 1) := by decide +kernel
theorem dX3_init_18 : decode cX3_init 18 = .ok (.iconst 0, 1) := by decide +kernel
theorem dX3_init_19 : decode cX3_init 19 = .ok (.putfield 19, 3) := by decide +kernel
theorem dX3_init_22 : decode cX3_init 22 = .ok (.return_, 1) := by decide +kernel
theorem dX3_isMissing_0 : decode cX3_isMissing 0 = .ok (.aload_n 0, 1) := by decide +kernel
theorem dX3_isMissing_1 : decode cX3_isMissing 1 = .ok (.getfield 15, 3) := by decide +kernel
theorem dX3_isMissing_4 : decode cX3_isMissing 4 = .ok (.ifCond .ne 7, 3) := by decide +kernel
theorem dX3_isMissing_7 : decode cX3_isMissing 7 = .ok (.iconst 1, 1) := by decide +kernel
theorem dX3_isMissing_8 : decode cX3_isMissing 8 = .ok (.goto 4, 3) := by decide +kernel
theorem dX3_isMissing_11 : decode cX3_isMissing 11 = .ok (.iconst 0, 1) := by decide +kernel
theorem dX3_isMissing_12 : decode cX3_isMissing 12 = .ok (.ireturn, 1) := by decide +kernel
set_option maxRecDepth 20000 in
theorem ggX3_begin_J7_fill_53178 : GoodIn wsX3_begin wsJ7_fill_53178 := goodIn_r _ [7] (by decide +kernel) (by decide +kernel)
set_option maxRecDepth 20000 in
theorem gX3_begin_J7_fill_53178 : GoodIn wsX3_begin (va_wsS RX3 22 yJ7_fill_53178 wsJ7_fill_53178) := goodIn_app (goodIn_of _ (by decide +kernel)) ggX3_begin_J7_fill_53178
theorem dX3_begin_0 : decode cX3_begin 0 = .ok (.aload_n 0, 1) := by decide +kernel
theorem dX3_begin_1 : decode cX3_begin 1 = .ok (.iload_n 1, 1) := by decide +kernel
theorem dX3_begin_2 : decode cX3_begin 2 = .ok (.putfield 15, 3) := by decide +kernel
theorem dX3_begin_5 : decode cX3_begin 5 = .ok (.aload_n 0, 1) := by decide +kernel
theorem dX3_begin_6 : decode cX3_begin 6 = .ok (.iload_n 1, 1) := by decide +kernel
theorem dX3_begin_7 : decode cX3_begin 7 = .ok (.ifCond .ne 7, 3) := by decide +kernel
theorem dX3_begin_10 : decode cX3_begin 10 = .ok (.iconst 0, 1) := by decide +kernel
theorem dX3_begin_11 : decode cX3_begin 11 = .ok (.goto 4, 3) := by decide +kernel
theorem dX3_begin_14 : decode cX3_begin 14 = .ok (.iload_n 2, 1) := by decide +kernel
theorem dX3_begin_15 : decode cX3_begin 15 = .ok (.putfield 19, 3) := by decide +kernel
theorem dX3_begin_18 : decode cX3_begin 18 = .ok (.aload_n 0, 1) := by decide +kernel
theorem dX3_begin_19 : decode cX3_begin 19 = .ok (.getfield 9, 3) := by decide +kernel
theorem dX3_begin_22 : decode cX3_begin 22 = .ok (.iconst 0, 1) := by decide +kernel
theorem dX3_begin_23 : decode cX3_begin 23 = .ok (.invokestatic 22, 3) := by decide +kernel
theorem dX3_begin_26 : decode cX3_begin 26 = .ok (.aload_n 0, 1) := by decide +kernel
theorem dX3_begin_27 : decode cX3_begin 27 = .ok (.getfield 19, 3) := by decide +kernel
theorem dX3_begin_30 : decode cX3_begin 30 = .ok (.ireturn, 1) := by decide +kernel
theorem dX3_put_0 : decode cX3_put 0 = .ok (.aload_n 0, 1) := by decide +kernel
theorem dX3_put_1 : decode cX3_put 1 = .ok (.getfield 15, 3) := by decide +kernel
theorem dX3_put_4 : decode cX3_put 4 = .ok (.lookupswitch 50 #[(8, 28), (16, 39)], 28) := by decide +kernel
theorem dX3_put_32 : decode cX3_put 32 = .ok (.aload_n 0, 1) := by decide +kernel
theorem dX3_put_33 : decode cX3_put 33 = .ok (.getfield 9, 3) := by decide +kernel
theorem dX3_put_36 : decode cX3_put 36 = .ok (.iload_n 1, 1) := by decide +kernel
theorem dX3_put_37 : decode cX3_put 37 = .ok (.iload_n 2, 1) := by decide +kernel
theorem dX3_put_38 : decode cX3_put 38 = .ok (.i2b, 1) := by decide +kernel
theorem dX3_put_39 : decode cX3_put 39 = .ok (.iastore, 1) := by decide +kernel
theorem dX3_put_40 : decode cX3_put 40 = .ok (.goto 21, 3) := by decide +kernel
theorem dX3_put_43 : decode cX3_put 43 = .ok (.aload_n 0, 1) := by decide +kernel
theorem dX3_put_44 : decode cX3_put 44 = .ok (.getfield 9, 3) := by decide +kernel
theorem dX3_put_47 : decode cX3_put 47 = .ok (.iload_n 1, 1) := by decide +kernel
theorem dX3_put_48 : decode cX3_put 48 = .ok (.iload_n 2, 1) := by decide +kernel
theorem dX3_put_49 : decode cX3_put 49 = .ok (.i2s, 1) := by decide +kernel
theorem dX3_put_50 : decode cX3_put 50 = .ok (.iastore, 1) := by decide +kernel
theorem dX3_put_51 : decode cX3_put 51 = .ok (.goto 10, 3) := by decide +kernel
theorem dX3_put_54 : decode cX3_put 54 = .ok (.aload_n 0, 1) := by decide +kernel
theorem dX3_put_55 : decode cX3_put 55 = .ok (.getfield 9, 3) := by decide +kernel
theorem dX3_put_58 : decode cX3_put 58 = .ok (.iload_n 1, 1) := by decide +kernel
theorem dX3_put_59 : decode cX3_put 59 = .ok (.iload_n 2, 1) := by decide +kernel
theorem dX3_put_60 : decode cX3_put 60 = .ok (.iastore, 1) := by decide +kernel
theorem dX3_put_61 : decode cX3_put 61 = .ok (.return_, 1) := by decide +kernel
theorem dX3_has_0 : decode cX3_has 0 = .ok (.iload_n 1, 1) := by decide +kernel
theorem dX3_has_1 : decode cX3_has 1 = .ok (.ifCond .lt 29, 3) := by decide +kernel
theorem dX3_has_4 : decode cX3_has 4 = .ok (.iload_n 2, 1) := by decide +kernel
theorem dX3_has_5 : decode cX3_has 5 = .ok (.ifCond .lt 25, 3) := by decide +kernel
theorem dX3_has_8 : decode cX3_has 8 = .ok (.iload_n 1, 1) := by decide +kernel
theorem dX3_has_9 : decode cX3_has 9 = .ok (.aload_n 0, 1) := by decide +kernel
theorem dX3_has_10 : decode cX3_has 10 = .ok (.getfield 19, 3) := by decide +kernel
theorem dX3_has_13 : decode cX3_has 13 = .ok (.if_icmp .gt 17, 3) := by decide +kernel
theorem dX3_has_16 : decode cX3_has 16 = .ok (.iload_n 2, 1) := by decide +kernel
theorem dX3_has_17 : decode cX3_has 17 = .ok (.aload_n 0, 1) := by decide +kernel
theorem dX3_has_18 : decode cX3_has 18 = .ok (.getfield 19, 3) := by decide +kernel
theorem dX3_has_21 : decode cX3_has 21 = .ok (.iload_n 1, 1) := by decide +kernel
theorem dX3_has_22 : decode cX3_has 22 = .ok (.isub, 1) := by decide +kernel
theorem dX3_has_23 : decode cX3_has 23 = .ok (.if_icmp .gt 7, 3) := by decide +kernel
theorem dX3_has_26 : decode cX3_has 26 = .ok (.iconst 1, 1) := by decide +kernel
theorem dX3_has_27 : decode cX3_has 27 = .ok (.goto 4, 3) := by decide +kernel
theorem dX3_has_30 : decode cX3_has 30 = .ok (.iconst 0, 1) := by decide +kernel
theorem dX3_has_31 : decode cX3_has 31 = .ok (.ireturn, 1) := by decide +kernel
set_option maxRecDepth 20000 in
theorem ggX4_init_X1_init : GoodIn wsX4_init wsX1_init := goodIn_r _ [17, 18, 2, 3, 12, 19, 20, 21, 22, 23, 24, 25, 26, 27, 28, 29, 30, 31, 32, 41, 42, 43, 44, 45, 46, 47, 48, 49, 50] (by decide +kernel) (by decide +kernel)
set_option maxRecDepth 20000 in
theorem gX4_init_X1_init : GoodIn wsX4_init (wsX1_init) := ggX4_init_X1_init
set_option maxRecDepth 20000 in
theorem ggX4_init_X0_init : GoodIn wsX4_init wsX0_init := goodIn_r _ [34, 35, 2, 3, 36, 12, 37, 38, 39, 55, 56, 57] (by decide +kernel) (by decide +kernel)
set_option maxRecDepth 20000 in
theorem gX4_init_X0_init_n20 : GoodIn wsX4_init (wsX0_init) := ggX4_init_X0_init
set_option maxRecDepth 20000 in
theorem ggX4_init_J7_fill_53178 : GoodIn wsX4_init wsJ7_fill_53178 := goodIn_r _ [32] (by decide +kernel) (by decide +kernel)
set_option maxRecDepth 20000 in
theorem gX4_init_J7_fill_53178 : GoodIn wsX4_init (va_wsS RX4 33 yJ7_fill_53178 wsJ7_fill_53178) := goodIn_app (goodIn_of _ (by decide +kernel)) ggX4_init_J7_fill_53178
theorem dX4_init_0 : decode cX4_init 0 = .ok (.aload_n 0, 1) := by decide +kernel
theorem dX4_init_1 : decode cX4_init 1 = .ok (.invokespecial 3, 3) := by decide +kernel
theorem dX4_init_4 : decode cX4_init 4 = .ok (.aload_n 0, 1) := by decide +kernel
theorem dX4_init_5 : decode cX4_init 5 = .ok (.new 9, 3) := by decide +kernel
theorem dX4_init_8 : decode cX4_init 8 = .ok (.dup, 1) := by decide +kernel
theorem dX4_init_9 : decode cX4_init 9 = .ok (.invokespecial 11, 3) := by decide +kernel
theorem dX4_init_12 : decode cX4_init 12 = .ok (.putfield 12, 3) := by decide +kernel
theorem dX4_init_15 : decode cX4_init 15 = .ok (.aload_n 0, 1) := by decide +kernel
theorem dX4_init_16 : decode cX4_init 16 = .ok (.new 18, 3) := by decide +kernel
theorem dX4_init_19 : decode cX4_init 19 = .ok (.dup, 1) := by decide +kernel
theorem dX4_init_20 : decode cX4_init 20 = .ok (.invokespecial 20, 3) := by decide +kernel
theorem dX4_init_23 : decode cX4_init 23 = .ok (.putfield 21, 3) := by decide +kernel
theorem dX4_init_26 : decode cX4_init 26 = .ok (.aload_n 0, 1) := by decide +kernel
theorem dX4_init_27 : decode cX4_init 27 = .ok (.bipush 10, 2) := by decide +kernel
theorem dX4_init_29 : decode cX4_init 29 = .ok (.newarray .int, 2) := by decide +kernel
theorem dX4_init_31 : decode cX4_init 31 = .ok (.putfield 25, 3) := by decide +kernel
theorem dX4_init_34 : decode cX4_init 34 = .ok (.aload_n 0, 1) := by decide +kernel
theorem dX4_init_35 : decode cX4_init 35 = .ok (.iconst 1, 1) := by decide +kernel
theorem dX4_init_36 : decode cX4_init 36 = .ok (.putfield 29, 3) := by decide +kernel
theorem dX4_init_39 : decode cX4_init 39 = .ok (.aload_n 0, 1) := by decide +kernel
theorem dX4_init_40 : decode cX4_init 40 = .ok (.getfield 25, 3) := by decide +kernel
theorem dX4_init_43 : decode cX4_init 43 = .ok (.iconst (-1), 1) := by decide +kernel
theorem dX4_init_44 : decode cX4_init 44 = .ok (.invokestatic 33, 3) := by decide +kernel
theorem dX4_init_47 : decode cX4_init 47 = .ok (.return_, 1) := by decide +kernel
set_option maxRecDepth 20000 in
theorem ggX4_copyFrom_X1_copyFrom : GoodIn wsX4_copyFrom wsX1_copyFrom := goodIn_r _ [13, 14, 15, 5, 6, 7, 16, 17, 18, 19, 20, 21, 22, 23, 24, 38, 39, 40, 41, 42, 43, 44, 45, 46, 47] (by decide +kernel) (by decide +kernel)
set_option maxRecDepth 20000 in
theorem gX4_copyFrom_X1_copyFrom : GoodIn wsX4_copyFrom (wsV RX4 39 RX1 yX1_copyFrom wsX1_copyFrom) := goodIn_app (goodIn_of _ (by decide +kernel)) ggX4_copyFrom_X1_copyFrom
set_option maxRecDepth 20000 in
theorem ggX4_copyFrom_X0_copyFrom : GoodIn wsX4_copyFrom wsX0_copyFrom := goodIn_r _ [29, 30, 31, 5, 6, 7, 32, 33, 48, 49, 50] (by decide +kernel) (by decide +kernel)
set_option maxRecDepth 20000 in
theorem gX4_copyFrom_X0_copyFrom : GoodIn wsX4_copyFrom (wsV RX4 43 RX0 yX0_copyFrom wsX0_copyFrom) := goodIn_app (goodIn_of _ (by decide +kernel)) ggX4_copyFrom_X0_copyFrom
theorem dX4_copyFrom_0 : decode cX4_copyFrom 0 = .ok (.aload_n 0, 1) := by decide +kernel
theorem dX4_copyFrom_1 : decode cX4_copyFrom 1 = .ok (.getfield 12, 3) := by decide +kernel
theorem dX4_copyFrom_4 : decode cX4_copyFrom 4 = .ok (.aload_n 1, 1) := by decide +kernel
theorem dX4_copyFrom_5 : decode cX4_copyFrom 5 = .ok (.getfield 12, 3) := by decide +kernel
theorem dX4_copyFrom_8 : decode cX4_copyFrom 8 = .ok (.invokevirtual 39, 3) := by decide +kernel
theorem dX4_copyFrom_11 : decode cX4_copyFrom 11 = .ok (.aload_n 0, 1) := by decide +kernel
theorem dX4_copyFrom_12 : decode cX4_copyFrom 12 = .ok (.getfield 21, 3) := by decide +kernel
theorem dX4_copyFrom_15 : decode cX4_copyFrom 15 = .ok (.aload_n 1, 1) := by decide +kernel
theorem dX4_copyFrom_16 : decode cX4_copyFrom 16 = .ok (.getfield 21, 3) := by decide +kernel
theorem dX4_copyFrom_19 : decode cX4_copyFrom 19 = .ok (.invokevirtual 43, 3) := by decide +kernel
theorem dX4_copyFrom_22 : decode cX4_copyFrom 22 = .ok (.aload_n 1, 1) := by decide +kernel
theorem dX4_copyFrom_23 : decode cX4_copyFrom 23 = .ok (.getfield 25, 3) := by decide +kernel
theorem dX4_copyFrom_26 : decode cX4_copyFrom 26 = .ok (.iconst 0, 1) := by decide +kernel
theorem dX4_copyFrom_27 : decode cX4_copyFrom 27 = .ok (.aload_n 0, 1) := by decide +kernel
theorem dX4_copyFrom_28 : decode cX4_copyFrom 28 = .ok (.getfield 25, 3) := by decide +kernel
theorem dX4_copyFrom_31 : decode cX4_copyFrom 31 = .ok (.iconst 0, 1) := by decide +kernel
theorem dX4_copyFrom_32 : decode cX4_copyFrom 32 = .ok (.bipush 10, 2) := by decide +kernel
theorem dX4_copyFrom_34 : decode cX4_copyFrom 34 = .ok (.invokestatic 46, 3) := by decide +kernel
theorem dX4_copyFrom_37 : decode cX4_copyFrom 37 = .ok (.aload_n 0, 1) := by decide +kernel
theorem dX4_copyFrom_38 : decode cX4_copyFrom 38 = .ok (.aload_n 1, 1) := by decide +kernel
theorem dX4_copyFrom_39 : decode cX4_copyFrom 39 = .ok (.getfield 29, 3) := by decide +kernel
theorem dX4_copyFrom_42 : decode cX4_copyFrom 42 = .ok (.putfield 29, 3) := by decide +kernel
theorem dX4_copyFrom_45 : decode cX4_copyFrom 45 = .ok (.return_, 1) := by decide +kernel
theorem dX4_draw_0 : decode cX4_draw 0 = .ok (.aload_n 0, 1) := by decide +kernel
theorem dX4_draw_1 : decode cX4_draw 1 = .ok (.aload_n 0, 1) := by decide +kernel
theorem dX4_draw_2 : decode cX4_draw 2 = .ok (.getfield 29, 3) := by decide +kernel
theorem dX4_draw_5 : decode cX4_draw 5 = .ok (.ldc 52, 2) := by decide +kernel
theorem dX4_draw_7 : decode cX4_draw 7 = .ok (.imul, 1) := by decide +kernel
theorem dX4_draw_8 : decode cX4_draw 8 = .ok (.sipush 12345, 3) := by decide +kernel
theorem dX4_draw_11 : decode cX4_draw 11 = .ok (.iadd, 1) := by decide +kernel
theorem dX4_draw_12 : decode cX4_draw 12 = .ok (.putfield 29, 3) := by decide +kernel
theorem dX4_draw_15 : decode cX4_draw 15 = .ok (.aload_n 0, 1) := by decide +kernel
theorem dX4_draw_16 : decode cX4_draw 16 = .ok (.getfield 29, 3) := by decide +kernel
theorem dX4_draw_19 : decode cX4_draw 19 = .ok (.bipush 8, 2) := by decide +kernel
theorem dX4_draw_21 : decode cX4_draw 21 = .ok (.iushr, 1) := by decide +kernel
theorem dX4_draw_22 : decode cX4_draw 22 = .ok (.ireturn, 1) := by decide +kernel
theorem dX4_spotsInUse_0 : decode cX4_spotsInUse 0 = .ok (.iconst 0, 1) := by decide +kernel
theorem dX4_spotsInUse_1 : decode cX4_spotsInUse 1 = .ok (.istore_n 1, 1) := by decide +kernel
theorem dX4_spotsInUse_2 : decode cX4_spotsInUse 2 = .ok (.iconst 0, 1) := by decide +kernel
theorem dX4_spotsInUse_3 : decode cX4_spotsInUse 3 = .ok (.istore_n 2, 1) := by decide +kernel
theorem dX4_spotsInUse_4 : decode cX4_spotsInUse 4 = .ok (.iload_n 2, 1) := by decide +kernel
theorem dX4_spotsInUse_5 : decode cX4_spotsInUse 5 = .ok (.bipush 10, 2) := by decide +kernel
theorem dX4_spotsInUse_7 : decode cX4_spotsInUse 7 = .ok (.if_icmp .ge 22, 3) := by decide +kernel
theorem dX4_spotsInUse_10 : decode cX4_spotsInUse 10 = .ok (.aload_n 0, 1) := by decide +kernel
theorem dX4_spotsInUse_11 : decode cX4_spotsInUse 11 = .ok (.getfield 25, 3) := by decide +kernel
theorem dX4_spotsInUse_14 : decode cX4_spotsInUse 14 = .ok (.iload_n 2, 1) := by decide +kernel
theorem dX4_spotsInUse_15 : decode cX4_spotsInUse 15 = .ok (.iaload, 1) := by decide +kernel
theorem dX4_spotsInUse_16 : decode cX4_spotsInUse 16 = .ok (.iconst (-1), 1) := by decide +kernel
theorem dX4_spotsInUse_17 : decode cX4_spotsInUse 17 = .ok (.if_icmp .eq 6, 3) := by decide +kernel
theorem dX4_spotsInUse_20 : decode cX4_spotsInUse 20 = .ok (.iinc 1 1, 3) := by decide +kernel
theorem dX4_spotsInUse_23 : decode cX4_spotsInUse 23 = .ok (.iinc 2 1, 3) := by decide +kernel
theorem dX4_spotsInUse_26 : decode cX4_spotsInUse 26 = .ok (.goto (-22), 3) := by decide +kernel
theorem dX4_spotsInUse_29 : decode cX4_spotsInUse 29 = .ok (.iload_n 1, 1) := by decide +kernel
theorem dX4_spotsInUse_30 : decode cX4_spotsInUse 30 = .ok (.ireturn, 1) := by decide +kernel
set_option maxRecDepth 20000 in
theorem ggX5_init_X4_init : GoodIn wsX5_init wsX4_init := goodIn_r _ [26, 27, 2, 3, 28, 11, 12, 29, 30, 31, 32, 33, 20, 34, 35, 36, 37, 38, 39, 40, 41, 42, 43, 44, 45, 46, 47, 48, 49, 50, 51, 52, 53, 54, 55, 56, 57, 58, 59, 60, 61, 89, 90, 91, 92, 93, 94, 95, 96, 97, 98, 78, 79, 80, 81, 108, 109, 110] (by decide +kernel) (by decide +kernel)
set_option maxRecDepth 20000 in
theorem gX5_init_X4_init : GoodIn wsX5_init (wsX4_init) := ggX5_init_X4_init
set_option maxRecDepth 20000 in
theorem ggX5_init_X1_init : GoodIn wsX5_init wsX1_init := goodIn_r _ [38, 39, 2, 3, 20, 40, 41, 42, 43, 44, 45, 46, 47, 48, 49, 50, 51, 52, 53, 89, 90, 91, 92, 93, 94, 95, 96, 97, 98] (by decide +kernel) (by decide +kernel)
set_option maxRecDepth 20000 in
theorem gX5_init_X1_init : GoodIn wsX5_init (wsX1_init) := ggX5_init_X1_init
set_option maxRecDepth 20000 in
theorem ggX5_init_X2_init : GoodIn wsX5_init wsX2_init := goodIn_r _ [64, 65, 2, 3, 20, 66, 67, 68, 69, 70, 71, 99, 100, 101, 102, 103, 104] (by decide +kernel) (by decide +kernel)
