set_option maxRecDepth 20000 in
theorem ggX0_init_X1_init : GoodIn wsX0_init wsX1_init := goodIn_r _ [20, 21, 2, 3, 4, 22, 23, 24, 25, 26, 38] (by decide +kernel) (by decide +kernel)
set_option maxRecDepth 20000 in
theorem gX0_init_X1_init : GoodIn wsX0_init (wsX1_init) := ggX0_init_X1_init
set_option maxRecDepth 20000 in
theorem ggX0_init_J7_fill_53178 : GoodIn wsX0_init wsJ7_fill_53178 := goodIn_r _ [26] (by decide +kernel) (by decide +kernel)
set_option maxRecDepth 20000 in
theorem gX0_init_J7_fill_53178 : GoodIn wsX0_init (va_wsS RX0 47 yJ7_fill_53178 wsJ7_fill_53178) := goodIn_app (goodIn_of _ (by decide +kernel)) ggX0_init_J7_fill_53178
theorem dX0_init_0 : decode cX0_init 0 = .ok (.aload_n 0, 1) := by decide +kernel
theorem dX0_init_1 : decode cX0_init 1 = .ok (.invokespecial 3, 3) := by decide +kernel
theorem dX0_init_4 : decode cX0_init 4 = .ok (.aload_n 0, 1) := by decide +kernel
theorem dX0_init_5 : decode cX0_init 5 = .ok (.bipush 32, 2) := by decide +kernel
theorem dX0_init_7 : decode cX0_init 7 = .ok (.newarray .int, 2) := by decide +kernel
theorem dX0_init_9 : decode cX0_init 9 = .ok (.putfield 9, 3) := by decide +kernel
theorem dX0_init_12 : decode cX0_init 12 = .ok (.aload_n 0, 1) := by decide +kernel
theorem dX0_init_13 : decode cX0_init 13 = .ok (.iconst 4, 1) := by decide +kernel
theorem dX0_init_14 : decode cX0_init 14 = .ok (.newarray .int, 2) := by decide +kernel
theorem dX0_init_16 : decode cX0_init 16 = .ok (.putfield 15, 3) := by decide +kernel
theorem dX0_init_19 : decode cX0_init 19 = .ok (.aload_n 0, 1) := by decide +kernel
theorem dX0_init_20 : decode cX0_init 20 = .ok (.bipush 10, 2) := by decide +kernel
theorem dX0_init_22 : decode cX0_init 22 = .ok (.newarray .int, 2) := by decide +kernel
theorem dX0_init_24 : decode cX0_init 24 = .ok (.putfield 18, 3) := by decide +kernel
theorem dX0_init_27 : decode cX0_init 27 = .ok (.aload_n 0, 1) := by decide +kernel
theorem dX0_init_28 : decode cX0_init 28 = .ok (.bipush 10, 2) := by decide +kernel
theorem dX0_init_30 : decode cX0_init 30 = .ok (.newarray .int, 2) := by decide +kernel
theorem dX0_init_32 : decode cX0_init 32 = .ok (.putfield 21, 3) := by decide +kernel
theorem dX0_init_35 : decode cX0_init 35 = .ok (.aload_n 0, 1) := by decide +kernel
theorem dX0_init_36 : decode cX0_init 36 = .ok (.new 24, 3) := by decide +kernel
theorem dX0_init_39 : decode cX0_init 39 = .ok (.dup, 1) := by decide +kernel
theorem dX0_init_40 : decode cX0_init 40 = .ok (.invokespecial 26, 3) := by decide +kernel
theorem dX0_init_43 : decode cX0_init 43 = .ok (.putfield 27, 3) := by decide +kernel
theorem dX0_init_46 : decode cX0_init 46 = .ok (.aload_n 0, 1) := by decide +kernel
theorem dX0_init_47 : decode cX0_init 47 = .ok (.bipush 120, 2) := by decide +kernel
theorem dX0_init_49 : decode cX0_init 49 = .ok (.putfield 31, 3) := by decide +kernel
theorem dX0_init_52 : decode cX0_init 52 = .ok (.aload_n 0, 1) := by decide +kernel
theorem dX0_init_53 : decode cX0_init 53 = .ok (.iconst 0, 1) := by decide +kernel
theorem dX0_init_54 : decode cX0_init 54 = .ok (.putfield 35, 3) := by decide +kernel
theorem dX0_init_57 : decode cX0_init 57 = .ok (.aload_n 0, 1) := by decide +kernel
theorem dX0_init_58 : decode cX0_init 58 = .ok (.iconst 0, 1) := by decide +kernel
theorem dX0_init_59 : decode cX0_init 59 = .ok (.putfield 38, 3) := by decide +kernel
theorem dX0_init_62 : decode cX0_init 62 = .ok (.aload_n 0, 1) := by decide +kernel
theorem dX0_init_63 : decode cX0_init 63 = .ok (.iconst 0, 1) := by decide +kernel
theorem dX0_init_64 : decode cX0_init 64 = .ok (.putfield 41, 3) := by decide +kernel
theorem dX0_init_67 : decode cX0_init 67 = .ok (.aload_n 0, 1) := by decide +kernel
theorem dX0_init_68 : decode cX0_init 68 = .ok (.iconst 0, 1) := by decide +kernel
theorem dX0_init_69 : decode cX0_init 69 = .ok (.putfield 44, 3) := by decide +kernel
theorem dX0_init_72 : decode cX0_init 72 = .ok (.aload_n 0, 1) := by decide +kernel
theorem dX0_init_73 : decode cX0_init 73 = .ok (.getfield 15, 3) := by decide +kernel
theorem dX0_init_76 : decode cX0_init 76 = .ok (.iconst 4, 1) := by decide +kernel
theorem dX0_init_77 : decode cX0_init 77 = .ok (.invokestatic 47, 3) := by decide +kernel
theorem dX0_init_80 : decode cX0_init 80 = .ok (.iconst 0, 1) := by decide +kernel
theorem dX0_init_81 : decode cX0_init 81 = .ok (.istore_n 1, 1) := by decide +kernel
theorem dX0_init_82 : decode cX0_init 82 = .ok (.iload_n 1, 1) := by decide +kernel
theorem dX0_init_83 : decode cX0_init 83 = .ok (.bipush 10, 2) := by decide +kernel
theorem dX0_init_85 : decode cX0_init 85 = .ok (.if_icmp .ge 22, 3) := by decide +kernel
theorem dX0_init_88 : decode cX0_init 88 = .ok (.aload_n 0, 1) := by decide +kernel
theorem dX0_init_89 : decode cX0_init 89 = .ok (.getfield 18, 3) := by decide +kernel
theorem dX0_init_92 : decode cX0_init 92 = .ok (.iload_n 1, 1) := by decide +kernel
theorem dX0_init_93 : decode cX0_init 93 = .ok (.bipush 60, 2) := by decide +kernel
theorem dX0_init_95 : decode cX0_init 95 = .ok (.bipush 6, 2) := by decide +kernel
theorem dX0_init_97 : decode cX0_init 97 = .ok (.iload_n 1, 1) := by decide +kernel
theorem dX0_init_98 : decode cX0_init 98 = .ok (.imul, 1) := by decide +kernel
theorem dX0_init_99 : decode cX0_init 99 = .ok (.isub, 1) := by decide +kernel
theorem dX0_init_100 : decode cX0_init 100 = .ok (.iastore, 1) := by decide +kernel
theorem dX0_init_101 : decode cX0_init 101 = .ok (.iinc 1 1, 3) := by decide +kernel
theorem dX0_init_104 : decode cX0_init 104 = .ok (.goto (-22), 3) := by decide +kernel
theorem dX0_init_107 : decode cX0_init 107 = .ok (.return_, 1) := by decide +kernel
set_option maxRecDepth 20000 in
theorem ggX0_copyFrom_X1_copyFrom : GoodIn wsX0_copyFrom wsX1_copyFrom := goodIn_r _ [19, 20, 21, 3, 4, 5, 32] (by decide +kernel) (by decide +kernel)
set_option maxRecDepth 20000 in
theorem gX0_copyFrom_X1_copyFrom : GoodIn wsX0_copyFrom (wsV RX0 59 RX1 yX1_copyFrom wsX1_copyFrom) := goodIn_app (goodIn_of _ (by decide +kernel)) ggX0_copyFrom_X1_copyFrom
theorem dX0_copyFrom_0 : decode cX0_copyFrom 0 = .ok (.aload_n 1, 1) := by decide +kernel
theorem dX0_copyFrom_1 : decode cX0_copyFrom 1 = .ok (.getfield 9, 3) := by decide +kernel
theorem dX0_copyFrom_4 : decode cX0_copyFrom 4 = .ok (.iconst 0, 1) := by decide +kernel
theorem dX0_copyFrom_5 : decode cX0_copyFrom 5 = .ok (.aload_n 0, 1) := by decide +kernel
theorem dX0_copyFrom_6 : decode cX0_copyFrom 6 = .ok (.getfield 9, 3) := by decide +kernel
theorem dX0_copyFrom_9 : decode cX0_copyFrom 9 = .ok (.iconst 0, 1) := by decide +kernel
theorem dX0_copyFrom_10 : decode cX0_copyFrom 10 = .ok (.bipush 32, 2) := by decide +kernel
theorem dX0_copyFrom_12 : decode cX0_copyFrom 12 = .ok (.invokestatic 53, 3) := by decide +kernel
theorem dX0_copyFrom_15 : decode cX0_copyFrom 15 = .ok (.aload_n 1, 1) := by decide +kernel
theorem dX0_copyFrom_16 : decode cX0_copyFrom 16 = .ok (.getfield 15, 3) := by decide +kernel
theorem dX0_copyFrom_19 : decode cX0_copyFrom 19 = .ok (.iconst 0, 1) := by decide +kernel
theorem dX0_copyFrom_20 : decode cX0_copyFrom 20 = .ok (.aload_n 0, 1) := by decide +kernel
theorem dX0_copyFrom_21 : decode cX0_copyFrom 21 = .ok (.getfield 15, 3) := by decide +kernel
theorem dX0_copyFrom_24 : decode cX0_copyFrom 24 = .ok (.iconst 0, 1) := by decide +kernel
theorem dX0_copyFrom_25 : decode cX0_copyFrom 25 = .ok (.iconst 4, 1) := by decide +kernel
theorem dX0_copyFrom_26 : decode cX0_copyFrom 26 = .ok (.invokestatic 53, 3) := by decide +kernel
theorem dX0_copyFrom_29 : decode cX0_copyFrom 29 = .ok (.aload_n 1, 1) := by decide +kernel
theorem dX0_copyFrom_30 : decode cX0_copyFrom 30 = .ok (.getfield 18, 3) := by decide +kernel
theorem dX0_copyFrom_33 : decode cX0_copyFrom 33 = .ok (.iconst 0, 1) := by decide +kernel
theorem dX0_copyFrom_34 : decode cX0_copyFrom 34 = .ok (.aload_n 0, 1) := by decide +kernel
theorem dX0_copyFrom_35 : decode cX0_copyFrom 35 = .ok (.getfield 18, 3) := by decide +kernel
theorem dX0_copyFrom_38 : decode cX0_copyFrom 38 = .ok (.iconst 0, 1) := by decide +kernel
theorem dX0_copyFrom_39 : decode cX0_copyFrom 39 = .ok (.bipush 10, 2) := by decide +kernel
theorem dX0_copyFrom_41 : decode cX0_copyFrom 41 = .ok (.invokestatic 53, 3) := by decide +kernel
theorem dX0_copyFrom_44 : decode cX0_copyFrom 44 = .ok (.aload_n 1, 1) := by decide +kernel
theorem dX0_copyFrom_45 : decode cX0_copyFrom 45 = .ok (.getfield 21, 3) := by decide +kernel
theorem dX0_copyFrom_48 : decode cX0_copyFrom 48 = .ok (.iconst 0, 1) := by decide +kernel
theorem dX0_copyFrom_49 : decode cX0_copyFrom 49 = .ok (.aload_n 0, 1) := by decide +kernel
theorem dX0_copyFrom_50 : decode cX0_copyFrom 50 = .ok (.getfield 21, 3) := by decide +kernel
theorem dX0_copyFrom_53 : decode cX0_copyFrom 53 = .ok (.iconst 0, 1) := by decide +kernel
theorem dX0_copyFrom_54 : decode cX0_copyFrom 54 = .ok (.bipush 10, 2) := by decide +kernel
theorem dX0_copyFrom_56 : decode cX0_copyFrom 56 = .ok (.invokestatic 53, 3) := by decide +kernel
theorem dX0_copyFrom_59 : decode cX0_copyFrom 59 = .ok (.aload_n 0, 1) := by decide +kernel
theorem dX0_copyFrom_60 : decode cX0_copyFrom 60 = .ok (.getfield 27, 3) := by decide +kernel
theorem dX0_copyFrom_63 : decode cX0_copyFrom 63 = .ok (.aload_n 1, 1) := by decide +kernel
theorem dX0_copyFrom_64 : decode cX0_copyFrom 64 = .ok (.getfield 27, 3) := by decide +kernel
theorem dX0_copyFrom_67 : decode cX0_copyFrom 67 = .ok (.invokevirtual 59, 3) := by decide +kernel
theorem dX0_copyFrom_70 : decode cX0_copyFrom 70 = .ok (.aload_n 0, 1) := by decide +kernel
theorem dX0_copyFrom_71 : decode cX0_copyFrom 71 = .ok (.aload_n 1, 1) := by decide +kernel
theorem dX0_copyFrom_72 : decode cX0_copyFrom 72 = .ok (.getfield 31, 3) := by decide +kernel
theorem dX0_copyFrom_75 : decode cX0_copyFrom 75 = .ok (.putfield 31, 3) := by decide +kernel
theorem dX0_copyFrom_78 : decode cX0_copyFrom 78 = .ok (.aload_n 0, 1) := by decide +kernel
theorem dX0_copyFrom_79 : decode cX0_copyFrom 79 = .ok (.aload_n 1, 1) := by decide +kernel
theorem dX0_copyFrom_80 : decode cX0_copyFrom 80 = .ok (.getfield 35, 3) := by decide +kernel
theorem dX0_copyFrom_83 : decode cX0_copyFrom 83 = .ok (.putfield 35, 3) := by decide +kernel
theorem dX0_copyFrom_86 : decode cX0_copyFrom 86 = .ok (.aload_n 0, 1) := by decide +kernel
theorem dX0_copyFrom_87 : decode cX0_copyFrom 87 = .ok (.aload_n 1, 1) := by decide +kernel
theorem dX0_copyFrom_88 : decode cX0_copyFrom 88 = .ok (.getfield 38, 3) := by decide +kernel
theorem dX0_copyFrom_91 : decode cX0_copyFrom 91 = .ok (.putfield 38, 3) := by decide +kernel
theorem dX0_copyFrom_94 : decode cX0_copyFrom 94 = .ok (.aload_n 0, 1) := by decide +kernel
theorem dX0_copyFrom_95 : decode cX0_copyFrom 95 = .ok (.aload_n 1, 1) := by decide +kernel
theorem dX0_copyFrom_96 : decode cX0_copyFrom 96 = .ok (.getfield 41, 3) := by decide +kernel
theorem dX0_copyFrom_99 : decode cX0_copyFrom 99 = .ok (.putfield 41, 3) := by decide +kernel
theorem dX0_copyFrom_102 : decode cX0_copyFrom 102 = .ok (.aload_n 0, 1) := by decide +kernel
theorem dX0_copyFrom_103 : decode cX0_copyFrom 103 = .ok (.aload_n 1, 1) := by decide +kernel
theorem dX0_copyFrom_104 : decode cX0_copyFrom 104 = .ok (.getfield 44, 3) := by decide +kernel
theorem dX0_copyFrom_107 : decode cX0_copyFrom 107 = .ok (.putfield 44, 3) := by decide +kernel
theorem dX0_copyFrom_110 : decode cX0_copyFrom 110 = .ok (.return_, 1) := by decide +kernel
set_option maxRecDepth 20000 in
theorem ggX0_strikeColumns_X0_strikeAtHand : GoodIn wsX0_strikeColumns wsX0_strikeAtHand := goodIn_r _ [6, 7, 8, 9, 10, 11, 12, 13, 14, 15, 5, 16, 17, 18, 19, 20, 21, 22, 23, 24, 25, 26, 27, 28, 29, 30, 31, 32, 33, 34, 35, 36, 37, 38, 39, 40, 41, 42, 43, 1, 44, 45, 46, 47, 48, 49, 50, 51, 52, 53, 54, 55, 56, 57, 58, 59, 60, 61, 62] (by decide +kernel) (by decide +kernel)
set_option maxRecDepth 20000 in
theorem gX0_strikeColumns_X0_strikeAtHand : GoodIn wsX0_strikeColumns (wsV RX0 63 RX0 yX0_strikeAtHand wsX0_strikeAtHand) := goodIn_app (goodIn_of _ (by decide +kernel)) ggX0_strikeColumns_X0_strikeAtHand
theorem dX0_strikeColumns_0 : decode cX0_strikeColumns 0 = .ok (.aload_n 0, 1) := by decide +kernel
theorem dX0_strikeColumns_1 : decode cX0_strikeColumns 1 = .ok (.getfield 41, 3) := by decide +kernel
theorem dX0_strikeColumns_4 : decode cX0_strikeColumns 4 = .ok (.istore_n 2, 1) := by decide +kernel
theorem dX0_strikeColumns_5 : decode cX0_strikeColumns 5 = .ok (.iconst 0, 1) := by decide +kernel
theorem dX0_strikeColumns_6 : decode cX0_strikeColumns 6 = .ok (.istore_n 3, 1) := by decide +kernel
theorem dX0_strikeColumns_7 : decode cX0_strikeColumns 7 = .ok (.iload_n 3, 1) := by decide +kernel
theorem dX0_strikeColumns_8 : decode cX0_strikeColumns 8 = .ok (.iload_n 1, 1) := by decide +kernel
theorem dX0_strikeColumns_9 : decode cX0_strikeColumns 9 = .ok (.if_icmp .ge 13, 3) := by decide +kernel
theorem dX0_strikeColumns_12 : decode cX0_strikeColumns 12 = .ok (.aload_n 0, 1) := by decide +kernel
theorem dX0_strikeColumns_13 : decode cX0_strikeColumns 13 = .ok (.invokevirtual 63, 3) := by decide +kernel
theorem dX0_strikeColumns_16 : decode cX0_strikeColumns 16 = .ok (.iinc 3 1, 3) := by decide +kernel
theorem dX0_strikeColumns_19 : decode cX0_strikeColumns 19 = .ok (.goto (-12), 3) := by decide +kernel
theorem dX0_strikeColumns_22 : decode cX0_strikeColumns 22 = .ok (.aload_n 0, 1) := by decide +kernel
theorem dX0_strikeColumns_23 : decode cX0_strikeColumns 23 = .ok (.getfield 41, 3) := by decide +kernel
theorem dX0_strikeColumns_26 : decode cX0_strikeColumns 26 = .ok (.iload_n 2, 1) := by decide +kernel
theorem dX0_strikeColumns_27 : decode cX0_strikeColumns 27 = .ok (.isub, 1) := by decide +kernel
theorem dX0_strikeColumns_28 : decode cX0_strikeColumns 28 = .ok (.ireturn, 1) := by decide +kernel
set_option maxRecDepth 20000 in
theorem ggX0_strikeAtHand_X0_heardAtHand : GoodIn wsX0_strikeAtHand wsX0_heardAtHand := goodIn_r _ [11, 1, 3, 4, 12, 13, 14, 15, 16, 17, 18, 19, 20, 21, 22, 23, 24, 25, 26, 48, 49, 50, 51, 52, 53, 54, 55, 56, 57, 58] (by decide +kernel) (by decide +kernel)
set_option maxRecDepth 20000 in
theorem gX0_strikeAtHand_X0_heardAtHand : GoodIn wsX0_strikeAtHand (wsV RX0 66 RX0 yX0_heardAtHand wsX0_heardAtHand) := goodIn_app (goodIn_of _ (by decide +kernel)) ggX0_strikeAtHand_X0_heardAtHand
set_option maxRecDepth 20000 in
theorem ggX0_strikeAtHand_X1_swing : GoodIn wsX0_strikeAtHand wsX1_swing := goodIn_r _ [30, 26, 31, 32, 33, 34, 19, 20, 21, 58] (by decide +kernel) (by decide +kernel)
set_option maxRecDepth 20000 in
theorem gX0_strikeAtHand_X1_swing : GoodIn wsX0_strikeAtHand (wsV RX0 70 RX1 yX1_swing wsX1_swing) := goodIn_app (goodIn_of _ (by decide +kernel)) ggX0_strikeAtHand_X1_swing
set_option maxRecDepth 20000 in
theorem ggX0_strikeAtHand_X0_countHeard : GoodIn wsX0_strikeAtHand wsX0_countHeard := goodIn_r _ [38, 39, 40, 41, 42, 43, 44, 45, 46, 47, 19, 20, 21, 48, 49, 50, 51, 52, 53, 54, 55, 56, 57] (by decide +kernel) (by decide +kernel)
set_option maxRecDepth 20000 in
theorem gX0_strikeAtHand_X0_countHeard : GoodIn wsX0_strikeAtHand (wsV RX0 74 RX0 yX0_countHeard wsX0_countHeard) := goodIn_app (goodIn_of _ (by decide +kernel)) ggX0_strikeAtHand_X0_countHeard
set_option maxRecDepth 20000 in
theorem ggX0_strikeAtHand_J6_bitCount_0f7a4 : GoodIn wsX0_strikeAtHand wsJ6_bitCount_0f7a4 := goodIn_r _ [44, 45, 46, 47] (by decide +kernel) (by decide +kernel)
set_option maxRecDepth 20000 in
theorem gX0_strikeAtHand_J6_bitCount_0f7a4 : GoodIn wsX0_strikeAtHand (va_wsS RX0 77 yJ6_bitCount_0f7a4 wsJ6_bitCount_0f7a4) := goodIn_app (goodIn_of _ (by decide +kernel)) ggX0_strikeAtHand_J6_bitCount_0f7a4
theorem dX0_strikeAtHand_0 : decode cX0_strikeAtHand 0 = .ok (.aload_n 0, 1) := by decide +kernel
theorem dX0_strikeAtHand_1 : decode cX0_strikeAtHand 1 = .ok (.invokevirtual 66, 3) := by decide +kernel
theorem dX0_strikeAtHand_4 : decode cX0_strikeAtHand 4 = .ok (.istore_n 1, 1) := by decide +kernel
theorem dX0_strikeAtHand_5 : decode cX0_strikeAtHand 5 = .ok (.aload_n 0, 1) := by decide +kernel
theorem dX0_strikeAtHand_6 : decode cX0_strikeAtHand 6 = .ok (.getfield 27, 3) := by decide +kernel
theorem dX0_strikeAtHand_9 : decode cX0_strikeAtHand 9 = .ok (.iload_n 1, 1) := by decide +kernel
theorem dX0_strikeAtHand_10 : decode cX0_strikeAtHand 10 = .ok (.invokevirtual 70, 3) := by decide +kernel
theorem dX0_strikeAtHand_13 : decode cX0_strikeAtHand 13 = .ok (.aload_n 0, 1) := by decide +kernel
theorem dX0_strikeAtHand_14 : decode cX0_strikeAtHand 14 = .ok (.iload_n 1, 1) := by decide +kernel
theorem dX0_strikeAtHand_15 : decode cX0_strikeAtHand 15 = .ok (.invokevirtual 74, 3) := by decide +kernel
theorem dX0_strikeAtHand_18 : decode cX0_strikeAtHand 18 = .ok (.aload_n 0, 1) := by decide +kernel
theorem dX0_strikeAtHand_19 : decode cX0_strikeAtHand 19 = .ok (.dup, 1) := by decide +kernel
theorem dX0_strikeAtHand_20 : decode cX0_strikeAtHand 20 = .ok (.getfield 44, 3) := by decide +kernel
theorem dX0_strikeAtHand_23 : decode cX0_strikeAtHand 23 = .ok (.aload_n 0, 1) := by decide +kernel
theorem dX0_strikeAtHand_24 : decode cX0_strikeAtHand 24 = .ok (.getfield 9, 3) := by decide +kernel
theorem dX0_strikeAtHand_27 : decode cX0_strikeAtHand 27 = .ok (.aload_n 0, 1) := by decide +kernel
theorem dX0_strikeAtHand_28 : decode cX0_strikeAtHand 28 = .ok (.getfield 35, 3) := by decide +kernel
theorem dX0_strikeAtHand_31 : decode cX0_strikeAtHand 31 = .ok (.iaload, 1) := by decide +kernel
theorem dX0_strikeAtHand_32 : decode cX0_strikeAtHand 32 = .ok (.iload_n 1, 1) := by decide +kernel
theorem dX0_strikeAtHand_33 : decode cX0_strikeAtHand 33 = .ok (.iconst (-1), 1) := by decide +kernel
theorem dX0_strikeAtHand_34 : decode cX0_strikeAtHand 34 = .ok (.ixor, 1) := by decide +kernel
theorem dX0_strikeAtHand_35 : decode cX0_strikeAtHand 35 = .ok (.iand, 1) := by decide +kernel
theorem dX0_strikeAtHand_36 : decode cX0_strikeAtHand 36 = .ok (.invokestatic 77, 3) := by decide +kernel
theorem dX0_strikeAtHand_39 : decode cX0_strikeAtHand 39 = .ok (.iadd, 1) := by decide +kernel
theorem dX0_strikeAtHand_40 : decode cX0_strikeAtHand 40 = .ok (.putfield 44, 3) := by decide +kernel
theorem dX0_strikeAtHand_43 : decode cX0_strikeAtHand 43 = .ok (.aload_n 0, 1) := by decide +kernel
theorem dX0_strikeAtHand_44 : decode cX0_strikeAtHand 44 = .ok (.dup, 1) := by decide +kernel
theorem dX0_strikeAtHand_45 : decode cX0_strikeAtHand 45 = .ok (.getfield 38, 3) := by decide +kernel
theorem dX0_strikeAtHand_48 : decode cX0_strikeAtHand 48 = .ok (.aload_n 0, 1) := by decide +kernel
theorem dX0_strikeAtHand_49 : decode cX0_strikeAtHand 49 = .ok (.getfield 15, 3) := by decide +kernel
theorem dX0_strikeAtHand_52 : decode cX0_strikeAtHand 52 = .ok (.aload_n 0, 1) := by decide +kernel
theorem dX0_strikeAtHand_53 : decode cX0_strikeAtHand 53 = .ok (.getfield 35, 3) := by decide +kernel
theorem dX0_strikeAtHand_56 : decode cX0_strikeAtHand 56 = .ok (.bipush 8, 2) := by decide +kernel
theorem dX0_strikeAtHand_58 : decode cX0_strikeAtHand 58 = .ok (.idiv, 1) := by decide +kernel
theorem dX0_strikeAtHand_59 : decode cX0_strikeAtHand 59 = .ok (.iaload, 1) := by decide +kernel
theorem dX0_strikeAtHand_60 : decode cX0_strikeAtHand 60 = .ok (.iadd, 1) := by decide +kernel
theorem dX0_strikeAtHand_61 : decode cX0_strikeAtHand 61 = .ok (.putfield 38, 3) := by decide +kernel
theorem dX0_strikeAtHand_64 : decode cX0_strikeAtHand 64 = .ok (.aload_n 0, 1) := by decide +kernel
theorem dX0_strikeAtHand_65 : decode cX0_strikeAtHand 65 = .ok (.aload_n 0, 1) := by decide +kernel
theorem dX0_strikeAtHand_66 : decode cX0_strikeAtHand 66 = .ok (.getfield 35, 3) := by decide +kernel
theorem dX0_strikeAtHand_69 : decode cX0_strikeAtHand 69 = .ok (.iconst 1, 1) := by decide +kernel
theorem dX0_strikeAtHand_70 : decode cX0_strikeAtHand 70 = .ok (.iadd, 1) := by decide +kernel
theorem dX0_strikeAtHand_71 : decode cX0_strikeAtHand 71 = .ok (.bipush 32, 2) := by decide +kernel
theorem dX0_strikeAtHand_73 : decode cX0_strikeAtHand 73 = .ok (.irem, 1) := by decide +kernel
theorem dX0_strikeAtHand_74 : decode cX0_strikeAtHand 74 = .ok (.putfield 35, 3) := by decide +kernel
theorem dX0_strikeAtHand_77 : decode cX0_strikeAtHand 77 = .ok (.return_, 1) := by decide +kernel
set_option maxRecDepth 20000 in
theorem ggX0_heardAtHand_X1_heardOutOf : GoodIn wsX0_heardAtHand wsX1_heardOutOf := goodIn_r _ [10, 11, 12, 13, 14, 15, 16, 9, 17, 18, 29] (by decide +kernel) (by decide +kernel)
set_option maxRecDepth 20000 in
theorem gX0_heardAtHand_X1_heardOutOf : GoodIn wsX0_heardAtHand (wsV RX0 83 RX1 yX1_heardOutOf wsX1_heardOutOf) := goodIn_app (goodIn_of _ (by decide +kernel)) ggX0_heardAtHand_X1_heardOutOf
theorem dX0_heardAtHand_0 : decode cX0_heardAtHand 0 = .ok (.aload_n 0, 1) := by decide +kernel
theorem dX0_heardAtHand_1 : decode cX0_heardAtHand 1 = .ok (.getfield 27, 3) := by decide +kernel
theorem dX0_heardAtHand_4 : decode cX0_heardAtHand 4 = .ok (.aload_n 0, 1) := by decide +kernel
theorem dX0_heardAtHand_5 : decode cX0_heardAtHand 5 = .ok (.getfield 9, 3) := by decide +kernel
theorem dX0_heardAtHand_8 : decode cX0_heardAtHand 8 = .ok (.aload_n 0, 1) := by decide +kernel
theorem dX0_heardAtHand_9 : decode cX0_heardAtHand 9 = .ok (.getfield 35, 3) := by decide +kernel
theorem dX0_heardAtHand_12 : decode cX0_heardAtHand 12 = .ok (.iaload, 1) := by decide +kernel
theorem dX0_heardAtHand_13 : decode cX0_heardAtHand 13 = .ok (.aload_n 0, 1) := by decide +kernel
theorem dX0_heardAtHand_14 : decode cX0_heardAtHand 14 = .ok (.getfield 18, 3) := by decide +kernel
theorem dX0_heardAtHand_17 : decode cX0_heardAtHand 17 = .ok (.aload_n 0, 1) := by decide +kernel
theorem dX0_heardAtHand_18 : decode cX0_heardAtHand 18 = .ok (.getfield 31, 3) := by decide +kernel
theorem dX0_heardAtHand_21 : decode cX0_heardAtHand 21 = .ok (.invokevirtual 83, 3) := by decide +kernel
theorem dX0_heardAtHand_24 : decode cX0_heardAtHand 24 = .ok (.ireturn, 1) := by decide +kernel
set_option maxRecDepth 20000 in
theorem ggX0_countHeard_J6_bitCount_0f7a4 : GoodIn wsX0_countHeard wsJ6_bitCount_0f7a4 := goodIn_r _ [6, 7, 8, 9] (by decide +kernel) (by decide +kernel)
set_option maxRecDepth 20000 in
theorem gX0_countHeard_J6_bitCount_0f7a4 : GoodIn wsX0_countHeard (va_wsS RX0 77 yJ6_bitCount_0f7a4 wsJ6_bitCount_0f7a4) := goodIn_app (goodIn_of _ (by decide +kernel)) ggX0_countHeard_J6_bitCount_0f7a4
set_option maxRecDepth 20000 in
theorem ggX0_countHeard_X5_holds : GoodIn wsX0_countHeard wsX5_holds := goodIn_r _ [12] (by decide +kernel) (by decide +kernel)
set_option maxRecDepth 20000 in
theorem gX0_countHeard_X5_holds_n87 : GoodIn wsX0_countHeard (wsX5_holds) := ggX0_countHeard_X5_holds
theorem dX0_countHeard_0 : decode cX0_countHeard 0 = .ok (.aload_n 0, 1) := by decide +kernel
theorem dX0_countHeard_1 : decode cX0_countHeard 1 = .ok (.dup, 1) := by decide +kernel
theorem dX0_countHeard_2 : decode cX0_countHeard 2 = .ok (.getfield 41, 3) := by decide +kernel
theorem dX0_countHeard_5 : decode cX0_countHeard 5 = .ok (.iload_n 1, 1) := by decide +kernel
theorem dX0_countHeard_6 : decode cX0_countHeard 6 = .ok (.invokestatic 77, 3) := by decide +kernel
theorem dX0_countHeard_9 : decode cX0_countHeard 9 = .ok (.iadd, 1) := by decide +kernel
theorem dX0_countHeard_10 : decode cX0_countHeard 10 = .ok (.putfield 41, 3) := by decide +kernel
theorem dX0_countHeard_13 : decode cX0_countHeard 13 = .ok (.iconst 0, 1) := by decide +kernel
theorem dX0_countHeard_14 : decode cX0_countHeard 14 = .ok (.istore_n 2, 1) := by decide +kernel
theorem dX0_countHeard_15 : decode cX0_countHeard 15 = .ok (.iload_n 2, 1) := by decide +kernel
theorem dX0_countHeard_16 : decode cX0_countHeard 16 = .ok (.bipush 10, 2) := by decide +kernel
theorem dX0_countHeard_18 : decode cX0_countHeard 18 = .ok (.if_icmp .ge 27, 3) := by decide +kernel
theorem dX0_countHeard_21 : decode cX0_countHeard 21 = .ok (.iload_n 1, 1) := by decide +kernel
theorem dX0_countHeard_22 : decode cX0_countHeard 22 = .ok (.iload_n 2, 1) := by decide +kernel
theorem dX0_countHeard_23 : decode cX0_countHeard 23 = .ok (.invokestatic 87, 3) := by decide +kernel
theorem dX0_countHeard_26 : decode cX0_countHeard 26 = .ok (.ifCond .eq 13, 3) := by decide +kernel
theorem dX0_countHeard_29 : decode cX0_countHeard 29 = .ok (.aload_n 0, 1) := by decide +kernel
theorem dX0_countHeard_30 : decode cX0_countHeard 30 = .ok (.getfield 21, 3) := by decide +kernel
theorem dX0_countHeard_33 : decode cX0_countHeard 33 = .ok (.iload_n 2, 1) := by decide +kernel
theorem dX0_countHeard_34 : decode cX0_countHeard 34 = .ok (.dup2, 1) := by decide +kernel
theorem dX0_countHeard_35 : decode cX0_countHeard 35 = .ok (.iaload, 1) := by decide +kernel
theorem dX0_countHeard_36 : decode cX0_countHeard 36 = .ok (.iconst 1, 1) := by decide +kernel
theorem dX0_countHeard_37 : decode cX0_countHeard 37 = .ok (.iadd, 1) := by decide +kernel
theorem dX0_countHeard_38 : decode cX0_countHeard 38 = .ok (.iastore, 1) := by decide +kernel
theorem dX0_countHeard_39 : decode cX0_countHeard 39 = .ok (.iinc 2 1, 3) := by decide +kernel
theorem dX0_countHeard_42 : decode cX0_countHeard 42 = .ok (.goto (-27), 3) := by decide +kernel
theorem dX0_countHeard_45 : decode cX0_countHeard 45 = .ok (.return_, 1) := by decide +kernel
set_option maxRecDepth 20000 in
theorem ggX0_countPegs_J6_bitCount_0f7a4 : GoodIn wsX0_countPegs wsJ6_bitCount_0f7a4 := goodIn_r _ [5, 6, 7, 8] (by decide +kernel) (by decide +kernel)
set_option maxRecDepth 20000 in
theorem gX0_countPegs_J6_bitCount_0f7a4 : GoodIn wsX0_countPegs (va_wsS RX0 77 yJ6_bitCount_0f7a4 wsJ6_bitCount_0f7a4) := goodIn_app (goodIn_of _ (by decide +kernel)) ggX0_countPegs_J6_bitCount_0f7a4
theorem dX0_countPegs_0 : decode cX0_countPegs 0 = .ok (.iconst 0, 1) := by decide +kernel
theorem dX0_countPegs_1 : decode cX0_countPegs 1 = .ok (.istore_n 1, 1) := by decide +kernel
theorem dX0_countPegs_2 : decode cX0_countPegs 2 = .ok (.iconst 0, 1) := by decide +kernel
theorem dX0_countPegs_3 : decode cX0_countPegs 3 = .ok (.istore_n 2, 1) := by decide +kernel
theorem dX0_countPegs_4 : decode cX0_countPegs 4 = .ok (.iload_n 2, 1) := by decide +kernel
theorem dX0_countPegs_5 : decode cX0_countPegs 5 = .ok (.bipush 32, 2) := by decide +kernel
theorem dX0_countPegs_7 : decode cX0_countPegs 7 = .ok (.if_icmp .ge 21, 3) := by decide +kernel
theorem dX0_countPegs_10 : decode cX0_countPegs 10 = .ok (.iload_n 1, 1) := by decide +kernel
theorem dX0_countPegs_11 : decode cX0_countPegs 11 = .ok (.aload_n 0, 1) := by decide +kernel
theorem dX0_countPegs_12 : decode cX0_countPegs 12 = .ok (.getfield 9, 3) := by decide +kernel
theorem dX0_countPegs_15 : decode cX0_countPegs 15 = .ok (.iload_n 2, 1) := by decide +kernel
theorem dX0_countPegs_16 : decode cX0_countPegs 16 = .ok (.iaload, 1) := by decide +kernel
theorem dX0_countPegs_17 : decode cX0_countPegs 17 = .ok (.invokestatic 77, 3) := by decide +kernel
theorem dX0_countPegs_20 : decode cX0_countPegs 20 = .ok (.iadd, 1) := by decide +kernel
theorem dX0_countPegs_21 : decode cX0_countPegs 21 = .ok (.istore_n 1, 1) := by decide +kernel
theorem dX0_countPegs_22 : decode cX0_countPegs 22 = .ok (.iinc 2 1, 3) := by decide +kernel
theorem dX0_countPegs_25 : decode cX0_countPegs 25 = .ok (.goto (-21), 3) := by decide +kernel
theorem dX0_countPegs_28 : decode cX0_countPegs 28 = .ok (.iload_n 1, 1) := by decide +kernel
theorem dX0_countPegs_29 : decode cX0_countPegs 29 = .ok (.ireturn, 1) := by decide +kernel
set_option maxRecDepth 20000 in
theorem ggX0_pegsOtherThan_J6_bitCount_0f7a4 : GoodIn wsX0_pegsOtherThan wsJ6_bitCount_0f7a4 := goodIn_r _ [5, 6, 7, 8] (by decide +kernel) (by decide +kernel)
set_option maxRecDepth 20000 in
theorem gX0_pegsOtherThan_J6_bitCount_0f7a4 : GoodIn wsX0_pegsOtherThan (va_wsS RX0 77 yJ6_bitCount_0f7a4 wsJ6_bitCount_0f7a4) := goodIn_app (goodIn_of _ (by decide +kernel)) ggX0_pegsOtherThan_J6_bitCount_0f7a4
theorem dX0_pegsOtherThan_0 : decode cX0_pegsOtherThan 0 = .ok (.iconst 0, 1) := by decide +kernel
theorem dX0_pegsOtherThan_1 : decode cX0_pegsOtherThan 1 = .ok (.istore_n 2, 1) := by decide +kernel
theorem dX0_pegsOtherThan_2 : decode cX0_pegsOtherThan 2 = .ok (.iconst 0, 1) := by decide +kernel
theorem dX0_pegsOtherThan_3 : decode cX0_pegsOtherThan 3 = .ok (.istore_n 3, 1) := by decide +kernel
theorem dX0_pegsOtherThan_4 : decode cX0_pegsOtherThan 4 = .ok (.iload_n 3, 1) := by decide +kernel
theorem dX0_pegsOtherThan_5 : decode cX0_pegsOtherThan 5 = .ok (.bipush 32, 2) := by decide +kernel
theorem dX0_pegsOtherThan_7 : decode cX0_pegsOtherThan 7 = .ok (.if_icmp .ge 28, 3) := by decide +kernel
theorem dX0_pegsOtherThan_10 : decode cX0_pegsOtherThan 10 = .ok (.iload_n 2, 1) := by decide +kernel
theorem dX0_pegsOtherThan_11 : decode cX0_pegsOtherThan 11 = .ok (.aload_n 0, 1) := by decide +kernel
theorem dX0_pegsOtherThan_12 : decode cX0_pegsOtherThan 12 = .ok (.getfield 9, 3) := by decide +kernel
theorem dX0_pegsOtherThan_15 : decode cX0_pegsOtherThan 15 = .ok (.iload_n 3, 1) := by decide +kernel
theorem dX0_pegsOtherThan_16 : decode cX0_pegsOtherThan 16 = .ok (.iaload, 1) := by decide +kernel
theorem dX0_pegsOtherThan_17 : decode cX0_pegsOtherThan 17 = .ok (.aload_n 1, 1) := by decide +kernel
theorem dX0_pegsOtherThan_18 : decode cX0_pegsOtherThan 18 = .ok (.getfield 9, 3) := by decide +kernel
theorem dX0_pegsOtherThan_21 : decode cX0_pegsOtherThan 21 = .ok (.iload_n 3, 1) := by decide +kernel
theorem dX0_pegsOtherThan_22 : decode cX0_pegsOtherThan 22 = .ok (.iaload, 1) := by decide +kernel
theorem dX0_pegsOtherThan_23 : decode cX0_pegsOtherThan 23 = .ok (.ixor, 1) := by decide +kernel
theorem dX0_pegsOtherThan_24 : decode cX0_pegsOtherThan 24 = .ok (.invokestatic 77, 3) := by decide +kernel
theorem dX0_pegsOtherThan_27 : decode cX0_pegsOtherThan 27 = .ok (.iadd, 1) := by decide +kernel
theorem dX0_pegsOtherThan_28 : decode cX0_pegsOtherThan 28 = .ok (.istore_n 2, 1) := by decide +kernel
theorem dX0_pegsOtherThan_29 : decode cX0_pegsOtherThan 29 = .ok (.iinc 3 1, 3) := by decide +kernel
theorem dX0_pegsOtherThan_32 : decode cX0_pegsOtherThan 32 = .ok (.goto (-28), 3) := by decide +kernel
theorem dX0_pegsOtherThan_35 : decode cX0_pegsOtherThan 35 = .ok (.iload_n 2, 1) := by decide +kernel
theorem dX0_pegsOtherThan_36 : decode cX0_pegsOtherThan 36 = .ok (.ireturn, 1) := by decide +kernel
theorem dX0_sumOfTimesHeard_0 : decode cX0_sumOfTimesHeard 0 = .ok (.iconst 0, 1) := by decide +kernel
theorem dX0_sumOfTimesHeard_1 : decode cX0_sumOfTimesHeard 1 = .ok (.istore_n 1, 1) := by decide +kernel
theorem dX0_sumOfTimesHeard_2 : decode cX0_sumOfTimesHeard 2 = .ok (.iconst 0, 1) := by decide +kernel
theorem dX0_sumOfTimesHeard_3 : decode cX0_sumOfTimesHeard 3 = .ok (.istore_n 2, 1) := by decide +kernel
theorem dX0_sumOfTimesHeard_4 : decode cX0_sumOfTimesHeard 4 = .ok (.iload_n 2, 1) := by decide +kernel
theorem dX0_sumOfTimesHeard_5 : decode cX0_sumOfTimesHeard 5 = .ok (.bipush 10, 2) := by decide +kernel
theorem dX0_sumOfTimesHeard_7 : decode cX0_sumOfTimesHeard 7 = .ok (.if_icmp .ge 18, 3) := by decide +kernel
theorem dX0_sumOfTimesHeard_10 : decode cX0_sumOfTimesHeard 10 = .ok (.iload_n 1, 1) := by decide +kernel
theorem dX0_sumOfTimesHeard_11 : decode cX0_sumOfTimesHeard 11 = .ok (.aload_n 0, 1) := by decide +kernel
theorem dX0_sumOfTimesHeard_12 : decode cX0_sumOfTimesHeard 12 = .ok (.getfield 21, 3) := by decide +kernel
theorem dX0_sumOfTimesHeard_15 : decode cX0_sumOfTimesHeard 15 = .ok (.iload_n 2, 1) := by decide +kernel
theorem dX0_sumOfTimesHeard_16 : decode cX0_sumOfTimesHeard 16 = .ok (.iaload, 1) := by decide +kernel
theorem dX0_sumOfTimesHeard_17 : decode cX0_sumOfTimesHeard 17 = .ok (.iadd, 1) := by decide +kernel
theorem dX0_sumOfTimesHeard_18 : decode cX0_sumOfTimesHeard 18 = .ok (.istore_n 1, 1) := by decide +kernel
theorem dX0_sumOfTimesHeard_19 : decode cX0_sumOfTimesHeard 19 = .ok (.iinc 2 1, 3) := by decide +kernel
theorem dX0_sumOfTimesHeard_22 : decode cX0_sumOfTimesHeard 22 = .ok (.goto (-18), 3) := by decide +kernel
theorem dX0_sumOfTimesHeard_25 : decode cX0_sumOfTimesHeard 25 = .ok (.iload_n 1, 1) := by decide +kernel
theorem dX0_sumOfTimesHeard_26 : decode cX0_sumOfTimesHeard 26 = .ok (.ireturn, 1) := by decide +kernel
theorem dX0_ticksByColumns_0 : decode cX0_ticksByColumns 0 = .ok (.iconst 0, 1) := by decide +kernel
theorem dX0_ticksByColumns_1 : decode cX0_ticksByColumns 1 = .ok (.istore_n 1, 1) := by decide +kernel
theorem dX0_ticksByColumns_2 : decode cX0_ticksByColumns 2 = .ok (.iconst 0, 1) := by decide +kernel
theorem dX0_ticksByColumns_3 : decode cX0_ticksByColumns 3 = .ok (.istore_n 2, 1) := by decide +kernel
theorem dX0_ticksByColumns_4 : decode cX0_ticksByColumns 4 = .ok (.iload_n 2, 1) := by decide +kernel
theorem dX0_ticksByColumns_5 : decode cX0_ticksByColumns 5 = .ok (.bipush 32, 2) := by decide +kernel
theorem dX0_ticksByColumns_7 : decode cX0_ticksByColumns 7 = .ok (.if_icmp .ge 21, 3) := by decide +kernel
theorem dX0_ticksByColumns_10 : decode cX0_ticksByColumns 10 = .ok (.iload_n 1, 1) := by decide +kernel
theorem dX0_ticksByColumns_11 : decode cX0_ticksByColumns 11 = .ok (.aload_n 0, 1) := by decide +kernel
theorem dX0_ticksByColumns_12 : decode cX0_ticksByColumns 12 = .ok (.getfield 15, 3) := by decide +kernel
theorem dX0_ticksByColumns_15 : decode cX0_ticksByColumns 15 = .ok (.iload_n 2, 1) := by decide +kernel
theorem dX0_ticksByColumns_16 : decode cX0_ticksByColumns 16 = .ok (.bipush 8, 2) := by decide +kernel
theorem dX0_ticksByColumns_18 : decode cX0_ticksByColumns 18 = .ok (.idiv, 1) := by decide +kernel
theorem dX0_ticksByColumns_19 : decode cX0_ticksByColumns 19 = .ok (.iaload, 1) := by decide +kernel
theorem dX0_ticksByColumns_20 : decode cX0_ticksByColumns 20 = .ok (.iadd, 1) := by decide +kernel
theorem dX0_ticksByColumns_21 : decode cX0_ticksByColumns 21 = .ok (.istore_n 1, 1) := by decide +kernel
theorem dX0_ticksByColumns_22 : decode cX0_ticksByColumns 22 = .ok (.iinc 2 1, 3) := by decide +kernel
theorem dX0_ticksByColumns_25 : decode cX0_ticksByColumns 25 = .ok (.goto (-21), 3) := by decide +kernel
theorem dX0_ticksByColumns_28 : decode cX0_ticksByColumns 28 = .ok (.iload_n 1, 1) := by decide +kernel
theorem dX0_ticksByColumns_29 : decode cX0_ticksByColumns 29 = .ok (.ireturn, 1) := by decide +kernel
theorem dX0_ticksByBars_0 : decode cX0_ticksByBars 0 = .ok (.iconst 0, 1) := by decide +kernel
theorem dX0_ticksByBars_1 : decode cX0_ticksByBars 1 = .ok (.istore_n 1, 1) := by decide +kernel
theorem dX0_ticksByBars_2 : decode cX0_ticksByBars 2 = .ok (.iconst 0, 1) := by decide +kernel
theorem dX0_ticksByBars_3 : decode cX0_ticksByBars 3 = .ok (.istore_n 2, 1) := by decide +kernel
theorem dX0_ticksByBars_4 : decode cX0_ticksByBars 4 = .ok (.iload_n 2, 1) := by decide +kernel
theorem dX0_ticksByBars_5 : decode cX0_ticksByBars 5 = .ok (.iconst 4, 1) := by decide +kernel
theorem dX0_ticksByBars_6 : decode cX0_ticksByBars 6 = .ok (.if_icmp .ge 21, 3) := by decide +kernel
theorem dX0_ticksByBars_9 : decode cX0_ticksByBars 9 = .ok (.iload_n 1, 1) := by decide +kernel
theorem dX0_ticksByBars_10 : decode cX0_ticksByBars 10 = .ok (.bipush 8, 2) := by decide +kernel
theorem dX0_ticksByBars_12 : decode cX0_ticksByBars 12 = .ok (.aload_n 0, 1) := by decide +kernel
theorem dX0_ticksByBars_13 : decode cX0_ticksByBars 13 = .ok (.getfield 15, 3) := by decide +kernel
theorem dX0_ticksByBars_16 : decode cX0_ticksByBars 16 = .ok (.iload_n 2, 1) := by decide +kernel
theorem dX0_ticksByBars_17 : decode cX0_ticksByBars 17 = .ok (.iaload, 1) := by decide +kernel
theorem dX0_ticksByBars_18 : decode cX0_ticksByBars 18 = .ok (.imul, 1) := by decide +kernel
theorem dX0_ticksByBars_19 : decode cX0_ticksByBars 19 = .ok (.iadd, 1) := by decide +kernel
theorem dX0_ticksByBars_20 : decode cX0_ticksByBars 20 = .ok (.istore_n 1, 1) := by decide +kernel
theorem dX0_ticksByBars_21 : decode cX0_ticksByBars 21 = .ok (.iinc 2 1, 3) := by decide +kernel
theorem dX0_ticksByBars_24 : decode cX0_ticksByBars 24 = .ok (.goto (-20), 3) := by decide +kernel
theorem dX0_ticksByBars_27 : decode cX0_ticksByBars 27 = .ok (.iload_n 1, 1) := by decide +kernel
theorem dX0_ticksByBars_28 : decode cX0_ticksByBars 28 = .ok (.ireturn, 1) := by decide +kernel
set_option maxRecDepth 20000 in
theorem ggX0_weightOfAll_X5_holds : GoodIn wsX0_weightOfAll wsX5_holds := goodIn_r _ [4] (by decide +kernel) (by decide +kernel)
set_option maxRecDepth 20000 in
theorem gX0_weightOfAll_X5_holds_n87 : GoodIn wsX0_weightOfAll (wsX5_holds) := ggX0_weightOfAll_X5_holds
theorem dX0_weightOfAll_0 : decode cX0_weightOfAll 0 = .ok (.iconst 0, 1) := by decide +kernel
theorem dX0_weightOfAll_1 : decode cX0_weightOfAll 1 = .ok (.istore_n 2, 1) := by decide +kernel
theorem dX0_weightOfAll_2 : decode cX0_weightOfAll 2 = .ok (.iconst 0, 1) := by decide +kernel
theorem dX0_weightOfAll_3 : decode cX0_weightOfAll 3 = .ok (.istore_n 3, 1) := by decide +kernel
theorem dX0_weightOfAll_4 : decode cX0_weightOfAll 4 = .ok (.iload_n 3, 1) := by decide +kernel
theorem dX0_weightOfAll_5 : decode cX0_weightOfAll 5 = .ok (.bipush 10, 2) := by decide +kernel
theorem dX0_weightOfAll_7 : decode cX0_weightOfAll 7 = .ok (.if_icmp .ge 26, 3) := by decide +kernel
theorem dX0_weightOfAll_10 : decode cX0_weightOfAll 10 = .ok (.iload_n 1, 1) := by decide +kernel
theorem dX0_weightOfAll_11 : decode cX0_weightOfAll 11 = .ok (.iload_n 3, 1) := by decide +kernel
theorem dX0_weightOfAll_12 : decode cX0_weightOfAll 12 = .ok (.invokestatic 87, 3) := by decide +kernel
theorem dX0_weightOfAll_15 : decode cX0_weightOfAll 15 = .ok (.ifCond .eq 12, 3) := by decide +kernel
theorem dX0_weightOfAll_18 : decode cX0_weightOfAll 18 = .ok (.iload_n 2, 1) := by decide +kernel
theorem dX0_weightOfAll_19 : decode cX0_weightOfAll 19 = .ok (.aload_n 0, 1) := by decide +kernel
theorem dX0_weightOfAll_20 : decode cX0_weightOfAll 20 = .ok (.getfield 18, 3) := by decide +kernel
theorem dX0_weightOfAll_23 : decode cX0_weightOfAll 23 = .ok (.iload_n 3, 1) := by decide +kernel
theorem dX0_weightOfAll_24 : decode cX0_weightOfAll 24 = .ok (.iaload, 1) := by decide +kernel
theorem dX0_weightOfAll_25 : decode cX0_weightOfAll 25 = .ok (.iadd, 1) := by decide +kernel
theorem dX0_weightOfAll_26 : decode cX0_weightOfAll 26 = .ok (.istore_n 2, 1) := by decide +kernel
theorem dX0_weightOfAll_27 : decode cX0_weightOfAll 27 = .ok (.iinc 3 1, 3) := by decide +kernel
theorem dX0_weightOfAll_30 : decode cX0_weightOfAll 30 = .ok (.goto (-26), 3) := by decide +kernel
theorem dX0_weightOfAll_33 : decode cX0_weightOfAll 33 = .ok (.iload_n 2, 1) := by decide +kernel
theorem dX0_weightOfAll_34 : decode cX0_weightOfAll 34 = .ok (.ireturn, 1) := by decide +kernel
set_option maxRecDepth 20000 in
theorem ggX1_init_J7_fill_53178 : GoodIn wsX1_init wsJ7_fill_53178 := goodIn_r _ [9] (by decide +kernel) (by decide +kernel)
set_option maxRecDepth 20000 in
theorem gX1_init_J7_fill_53178 : GoodIn wsX1_init (va_wsS RX1 15 yJ7_fill_53178 wsJ7_fill_53178) := goodIn_app (goodIn_of _ (by decide +kernel)) ggX1_init_J7_fill_53178
theorem dX1_init_0 : decode cX1_init 0 = .ok (.aload_n 0, 1) := by decide +kernel
theorem dX1_init_1 : decode cX1_init 1 = .ok (.invokespecial 3, 3) := by decide +kernel
theorem dX1_init_4 : decode cX1_init 4 = .ok (.aload_n 0, 1) := by decide +kernel
theorem dX1_init_5 : decode cX1_init 5 = .ok (.bipush 10, 2) := by decide +kernel
theorem dX1_init_7 : decode cX1_init 7 = .ok (.newarray .int, 2) := by decide +kernel
theorem dX1_init_9 : decode cX1_init 9 = .ok (.putfield 9, 3) := by decide +kernel
theorem dX1_init_12 : decode cX1_init 12 = .ok (.aload_n 0, 1) := by decide +kernel
theorem dX1_init_13 : decode cX1_init 13 = .ok (.getfield 9, 3) := by decide +kernel
theorem dX1_init_16 : decode cX1_init 16 = .ok (.iconst 3, 1) := by decide +kernel
theorem dX1_init_17 : decode cX1_init 17 = .ok (.invokestatic 15, 3) := by decide +kernel
theorem dX1_init_20 : decode cX1_init 20 = .ok (.return_, 1) := by decide +kernel
theorem dX1_copyFrom_0 : decode cX1_copyFrom 0 = .ok (.aload_n 1, 1) := by decide +kernel
theorem dX1_copyFrom_1 : decode cX1_copyFrom 1 = .ok (.getfield 9, 3) := by decide +kernel
theorem dX1_copyFrom_4 : decode cX1_copyFrom 4 = .ok (.iconst 0, 1) := by decide +kernel
theorem dX1_copyFrom_5 : decode cX1_copyFrom 5 = .ok (.aload_n 0, 1) := by decide +kernel
theorem dX1_copyFrom_6 : decode cX1_copyFrom 6 = .ok (.getfield 9, 3) := by decide +kernel
theorem dX1_copyFrom_9 : decode cX1_copyFrom 9 = .ok (.iconst 0, 1) := by decide +kernel
theorem dX1_copyFrom_10 : decode cX1_copyFrom 10 = .ok (.bipush 10, 2) := by decide +kernel
theorem dX1_copyFrom_12 : decode cX1_copyFrom 12 = .ok (.invokestatic 21, 3) := by decide +kernel
theorem dX1_copyFrom_15 : decode cX1_copyFrom 15 = .ok (.return_, 1) := by decide +kernel
set_option maxRecDepth 20000 in
theorem ggX1_allBack_J7_fill_53178 : GoodIn wsX1_allBack wsJ7_fill_53178 := goodIn_r _ [5] (by decide +kernel) (by decide +kernel)
set_option maxRecDepth 20000 in
theorem gX1_allBack_J7_fill_53178 : GoodIn wsX1_allBack (va_wsS RX1 15 yJ7_fill_53178 wsJ7_fill_53178) := goodIn_app (goodIn_of _ (by decide +kernel)) ggX1_allBack_J7_fill_53178
theorem dX1_allBack_0 : decode cX1_allBack 0 = .ok (.aload_n 0, 1) := by decide +kernel
theorem dX1_allBack_1 : decode cX1_allBack 1 = .ok (.getfield 9, 3) := by decide +kernel
theorem dX1_allBack_4 : decode cX1_allBack 4 = .ok (.iconst 3, 1) := by decide +kernel
theorem dX1_allBack_5 : decode cX1_allBack 5 = .ok (.invokestatic 15, 3) := by decide +kernel
theorem dX1_allBack_8 : decode cX1_allBack 8 = .ok (.return_, 1) := by decide +kernel
theorem dX1_isBack_0 : decode cX1_isBack 0 = .ok (.aload_n 0, 1) := by decide +kernel
theorem dX1_isBack_1 : decode cX1_isBack 1 = .ok (.getfield 9, 3) := by decide +kernel
theorem dX1_isBack_4 : decode cX1_isBack 4 = .ok (.iload_n 1, 1) := by decide +kernel
theorem dX1_isBack_5 : decode cX1_isBack 5 = .ok (.iaload, 1) := by decide +kernel
theorem dX1_isBack_6 : decode cX1_isBack 6 = .ok (.iload_n 2, 1) := by decide +kernel
theorem dX1_isBack_7 : decode cX1_isBack 7 = .ok (.bipush 20, 2) := by decide +kernel
theorem dX1_isBack_9 : decode cX1_isBack 9 = .ok (.idiv, 1) := by decide +kernel
theorem dX1_isBack_10 : decode cX1_isBack 10 = .ok (.if_icmp .lt 7, 3) := by decide +kernel
theorem dX1_isBack_13 : decode cX1_isBack 13 = .ok (.iconst 1, 1) := by decide +kernel
theorem dX1_isBack_14 : decode cX1_isBack 14 = .ok (.goto 4, 3) := by decide +kernel
theorem dX1_isBack_17 : decode cX1_isBack 17 = .ok (.iconst 0, 1) := by decide +kernel
theorem dX1_isBack_18 : decode cX1_isBack 18 = .ok (.ireturn, 1) := by decide +kernel
set_option maxRecDepth 20000 in
theorem ggX1_heardOutOf_X5_holds : GoodIn wsX1_heardOutOf wsX5_holds := goodIn_r _ [3] (by decide +kernel) (by decide +kernel)
set_option maxRecDepth 20000 in
theorem gX1_heardOutOf_X5_holds_n27 : GoodIn wsX1_heardOutOf (wsX5_holds) := ggX1_heardOutOf_X5_holds
set_option maxRecDepth 20000 in
theorem ggX1_heardOutOf_X1_isBack : GoodIn wsX1_heardOutOf wsX1_isBack := goodIn_r _ [8, 9, 10] (by decide +kernel) (by decide +kernel)
set_option maxRecDepth 20000 in
theorem gX1_heardOutOf_X1_isBack : GoodIn wsX1_heardOutOf (wsV RX1 31 RX1 yX1_isBack wsX1_isBack) := goodIn_app (goodIn_of _ (by decide +kernel)) ggX1_heardOutOf_X1_isBack
theorem dX1_heardOutOf_0 : decode cX1_heardOutOf 0 = .ok (.iconst 0, 1) := by decide +kernel
theorem dX1_heardOutOf_1 : decode cX1_heardOutOf 1 = .ok (.istore 4, 2) := by decide +kernel
theorem dX1_heardOutOf_3 : decode cX1_heardOutOf 3 = .ok (.iconst 0, 1) := by decide +kernel
theorem dX1_heardOutOf_4 : decode cX1_heardOutOf 4 = .ok (.istore 5, 2) := by decide +kernel
theorem dX1_heardOutOf_6 : decode cX1_heardOutOf 6 = .ok (.iconst 0, 1) := by decide +kernel
theorem dX1_heardOutOf_7 : decode cX1_heardOutOf 7 = .ok (.istore 6, 2) := by decide +kernel
theorem dX1_heardOutOf_9 : decode cX1_heardOutOf 9 = .ok (.iload 6, 2) := by decide +kernel
theorem dX1_heardOutOf_11 : decode cX1_heardOutOf 11 = .ok (.bipush 10, 2) := by decide +kernel
theorem dX1_heardOutOf_13 : decode cX1_heardOutOf 13 = .ok (.if_icmp .ge 60, 3) := by decide +kernel
theorem dX1_heardOutOf_16 : decode cX1_heardOutOf 16 = .ok (.aload_n 2, 1) := by decide +kernel
theorem dX1_heardOutOf_17 : decode cX1_heardOutOf 17 = .ok (.iload 6, 2) := by decide +kernel
theorem dX1_heardOutOf_19 : decode cX1_heardOutOf 19 = .ok (.iaload, 1) := by decide +kernel
theorem dX1_heardOutOf_20 : decode cX1_heardOutOf 20 = .ok (.istore 7, 2) := by decide +kernel
theorem dX1_heardOutOf_22 : decode cX1_heardOutOf 22 = .ok (.iload_n 1, 1) := by decide +kernel
theorem dX1_heardOutOf_23 : decode cX1_heardOutOf 23 = .ok (.iload 6, 2) := by decide +kernel
theorem dX1_heardOutOf_25 : decode cX1_heardOutOf 25 = .ok (.invokestatic 27, 3) := by decide +kernel
theorem dX1_heardOutOf_28 : decode cX1_heardOutOf 28 = .ok (.ifCond .eq 39, 3) := by decide +kernel
theorem dX1_heardOutOf_31 : decode cX1_heardOutOf 31 = .ok (.aload_n 0, 1) := by decide +kernel
theorem dX1_heardOutOf_32 : decode cX1_heardOutOf 32 = .ok (.iload 6, 2) := by decide +kernel
theorem dX1_heardOutOf_34 : decode cX1_heardOutOf 34 = .ok (.iload 7, 2) := by decide +kernel
theorem dX1_heardOutOf_36 : decode cX1_heardOutOf 36 = .ok (.invokevirtual 31, 3) := by decide +kernel
theorem dX1_heardOutOf_39 : decode cX1_heardOutOf 39 = .ok (.ifCond .eq 28, 3) := by decide +kernel
theorem dX1_heardOutOf_42 : decode cX1_heardOutOf 42 = .ok (.iload 5, 2) := by decide +kernel
theorem dX1_heardOutOf_44 : decode cX1_heardOutOf 44 = .ok (.iload 7, 2) := by decide +kernel
theorem dX1_heardOutOf_46 : decode cX1_heardOutOf 46 = .ok (.iadd, 1) := by decide +kernel
theorem dX1_heardOutOf_47 : decode cX1_heardOutOf 47 = .ok (.iload_n 3, 1) := by decide +kernel
theorem dX1_heardOutOf_48 : decode cX1_heardOutOf 48 = .ok (.if_icmp .gt 19, 3) := by decide +kernel
theorem dX1_heardOutOf_51 : decode cX1_heardOutOf 51 = .ok (.iload 4, 2) := by decide +kernel
theorem dX1_heardOutOf_53 : decode cX1_heardOutOf 53 = .ok (.iconst 1, 1) := by decide +kernel
theorem dX1_heardOutOf_54 : decode cX1_heardOutOf 54 = .ok (.iload 6, 2) := by decide +kernel
theorem dX1_heardOutOf_56 : decode cX1_heardOutOf 56 = .ok (.ishl, 1) := by decide +kernel
theorem dX1_heardOutOf_57 : decode cX1_heardOutOf 57 = .ok (.ior, 1) := by decide +kernel
theorem dX1_heardOutOf_58 : decode cX1_heardOutOf 58 = .ok (.istore 4, 2) := by decide +kernel
theorem dX1_heardOutOf_60 : decode cX1_heardOutOf 60 = .ok (.iload 5, 2) := by decide +kernel
theorem dX1_heardOutOf_62 : decode cX1_heardOutOf 62 = .ok (.iload 7, 2) := by decide +kernel
theorem dX1_heardOutOf_64 : decode cX1_heardOutOf 64 = .ok (.iadd, 1) := by decide +kernel
theorem dX1_heardOutOf_65 : decode cX1_heardOutOf 65 = .ok (.istore 5, 2) := by decide +kernel
theorem dX1_heardOutOf_67 : decode cX1_heardOutOf 67 = .ok (.iinc 6 1, 3) := by decide +kernel
theorem dX1_heardOutOf_70 : decode cX1_heardOutOf 70 = .ok (.goto (-61), 3) := by decide +kernel
theorem dX1_heardOutOf_73 : decode cX1_heardOutOf 73 = .ok (.iload 4, 2) := by decide +kernel
theorem dX1_heardOutOf_75 : decode cX1_heardOutOf 75 = .ok (.ireturn, 1) := by decide +kernel
set_option maxRecDepth 20000 in
theorem ggX1_swing_X5_holds : GoodIn wsX1_swing wsX5_holds := goodIn_r _ [8] (by decide +kernel) (by decide +kernel)
set_option maxRecDepth 20000 in
theorem gX1_swing_X5_holds_n27 : GoodIn wsX1_swing (wsX5_holds) := ggX1_swing_X5_holds
theorem dX1_swing_0 : decode cX1_swing 0 = .ok (.iconst 0, 1) := by decide +kernel
theorem dX1_swing_1 : decode cX1_swing 1 = .ok (.istore_n 2, 1) := by decide +kernel
theorem dX1_swing_2 : decode cX1_swing 2 = .ok (.iload_n 2, 1) := by decide +kernel
theorem dX1_swing_3 : decode cX1_swing 3 = .ok (.bipush 10, 2) := by decide +kernel
theorem dX1_swing_5 : decode cX1_swing 5 = .ok (.if_icmp .ge 39, 3) := by decide +kernel
theorem dX1_swing_8 : decode cX1_swing 8 = .ok (.aload_n 0, 1) := by decide +kernel
theorem dX1_swing_9 : decode cX1_swing 9 = .ok (.getfield 9, 3) := by decide +kernel
theorem dX1_swing_12 : decode cX1_swing 12 = .ok (.iload_n 2, 1) := by decide +kernel
theorem dX1_swing_13 : decode cX1_swing 13 = .ok (.iload_n 1, 1) := by decide +kernel
theorem dX1_swing_14 : decode cX1_swing 14 = .ok (.iload_n 2, 1) := by decide +kernel
theorem dX1_swing_15 : decode cX1_swing 15 = .ok (.invokestatic 27, 3) := by decide +kernel
theorem dX1_swing_18 : decode cX1_swing 18 = .ok (.ifCond .eq 7, 3) := by decide +kernel
theorem dX1_swing_21 : decode cX1_swing 21 = .ok (.iconst 0, 1) := by decide +kernel
theorem dX1_swing_22 : decode cX1_swing 22 = .ok (.goto 15, 3) := by decide +kernel
theorem dX1_swing_25 : decode cX1_swing 25 = .ok (.aload_n 0, 1) := by decide +kernel
theorem dX1_swing_26 : decode cX1_swing 26 = .ok (.getfield 9, 3) := by decide +kernel
theorem dX1_swing_29 : decode cX1_swing 29 = .ok (.iload_n 2, 1) := by decide +kernel
theorem dX1_swing_30 : decode cX1_swing 30 = .ok (.iaload, 1) := by decide +kernel
theorem dX1_swing_31 : decode cX1_swing 31 = .ok (.iconst 1, 1) := by decide +kernel
theorem dX1_swing_32 : decode cX1_swing 32 = .ok (.iadd, 1) := by decide +kernel
theorem dX1_swing_33 : decode cX1_swing 33 = .ok (.iconst 3, 1) := by decide +kernel
theorem dX1_swing_34 : decode cX1_swing 34 = .ok (.invokestatic 34, 3) := by decide +kernel
theorem dX1_swing_37 : decode cX1_swing 37 = .ok (.iastore, 1) := by decide +kernel
theorem dX1_swing_38 : decode cX1_swing 38 = .ok (.iinc 2 1, 3) := by decide +kernel
theorem dX1_swing_41 : decode cX1_swing 41 = .ok (.goto (-39), 3) := by decide +kernel
theorem dX1_swing_44 : decode cX1_swing 44 = .ok (.return_, 1) := by decide +kernel
set_option maxRecDepth 20000 in
theorem ggX2_init_X0_init : GoodIn wsX2_init wsX0_init := goodIn_r _ [11, 12, 2, 3, 13, 14, 15, 16, 17, 18, 19, 20, 21, 22, 23, 24, 25, 26, 27, 28, 29, 30, 31, 32, 33, 34, 35, 36, 39, 40, 41, 42, 43, 44, 45, 46, 47, 48, 49] (by decide +kernel) (by decide +kernel)
set_option maxRecDepth 20000 in
theorem gX2_init_X0_init : GoodIn wsX2_init (wsX0_init) := ggX2_init_X0_init
theorem dX2_init_0 : decode cX2_init 0 = .ok (.aload_n 0, 1) := by decide +kernel
theorem dX2_init_1 : decode cX2_init 1 = .ok (.invokespecial 3, 3) := by decide +kernel
theorem dX2_init_4 : decode cX2_init 4 = .ok (.aload_n 0, 1) := by decide +kernel
theorem dX2_init_5 : decode cX2_init 5 = .ok (.bipush 6, 2) := by decide +kernel
theorem dX2_init_7 : decode cX2_init 7 = .ok (.anewarray 9, 3) := by decide +kernel
theorem dX2_init_10 : decode cX2_init 10 = .ok (.putfield 11, 3) := by decide +kernel
theorem dX2_init_13 : decode cX2_init 13 = .ok (.aload_n 0, 1) := by decide +kernel
theorem dX2_init_14 : decode cX2_init 14 = .ok (.iconst 0, 1) := by decide +kernel
theorem dX2_init_15 : decode cX2_init 15 = .ok (.putfield 17, 3) := by decide +kernel
theorem dX2_init_18 : decode cX2_init 18 = .ok (.iconst 0, 1) := by decide +kernel
theorem dX2_init_19 : decode cX2_init 19 = .ok (.istore_n 1, 1) := by decide +kernel
theorem dX2_init_20 : decode cX2_init 20 = .ok (.iload_n 1, 1) := by decide +kernel
theorem dX2_init_21 : decode cX2_init 21 = .ok (.bipush 6, 2) := by decide +kernel
theorem dX2_init_23 : decode cX2_init 23 = .ok (.if_icmp .ge 22, 3) := by decide +kernel
theorem dX2_init_26 : decode cX2_init 26 = .ok (.aload_n 0, 1) := by decide +kernel
theorem dX2_init_27 : decode cX2_init 27 = .ok (.getfield 11, 3) := by decide +kernel
theorem dX2_init_30 : decode cX2_init 30 = .ok (.iload_n 1, 1) := by decide +kernel
theorem dX2_init_31 : decode cX2_init 31 = .ok (.new 9, 3) := by decide +kernel
theorem dX2_init_34 : decode cX2_init 34 = .ok (.dup, 1) := by decide +kernel
theorem dX2_init_35 : decode cX2_init 35 = .ok (.invokespecial 21, 3) := by decide +kernel
theorem dX2_init_38 : decode cX2_init 38 = .ok (.aastore, 1) := by decide +kernel
theorem dX2_init_39 : decode cX2_init 39 = .ok (.iinc 1 1, 3) := by decide +kernel
theorem dX2_init_42 : decode cX2_init 42 = .ok (.goto (-22), 3) := by decide +kernel
theorem dX2_init_45 : decode cX2_init 45 = .ok (.return_, 1) := by decide +kernel
set_option maxRecDepth 20000 in
theorem ggX2_add_X2_dropOldest : GoodIn wsX2_add wsX2_dropOldest := goodIn_r _ [7, 2, 1, 34, 35] (by decide +kernel) (by decide +kernel)
set_option maxRecDepth 20000 in
theorem gX2_add_X2_dropOldest : GoodIn wsX2_add (wsV RX2 22 RX2 yX2_dropOldest wsX2_dropOldest) := goodIn_app (goodIn_of _ (by decide +kernel)) ggX2_add_X2_dropOldest
set_option maxRecDepth 20000 in
theorem ggX2_add_X0_copyFrom : GoodIn wsX2_add wsX0_copyFrom := goodIn_r _ [12, 13, 14, 15, 16, 17, 18, 19, 20, 21, 22, 23, 24, 25, 26, 27, 28, 29, 30, 31, 32, 33, 36, 37, 38, 39, 40, 41, 42, 43, 44, 45, 46] (by decide +kernel) (by decide +kernel)
set_option maxRecDepth 20000 in
theorem gX2_add_X0_copyFrom : GoodIn wsX2_add (wsV RX2 25 RX0 yX0_copyFrom wsX0_copyFrom) := goodIn_app (goodIn_of _ (by decide +kernel)) ggX2_add_X0_copyFrom
theorem dX2_add_0 : decode cX2_add 0 = .ok (.aload_n 0, 1) := by decide +kernel
theorem dX2_add_1 : decode cX2_add 1 = .ok (.getfield 17, 3) := by decide +kernel
theorem dX2_add_4 : decode cX2_add 4 = .ok (.bipush 6, 2) := by decide +kernel
theorem dX2_add_6 : decode cX2_add 6 = .ok (.if_icmp .ne 7, 3) := by decide +kernel
theorem dX2_add_9 : decode cX2_add 9 = .ok (.aload_n 0, 1) := by decide +kernel
theorem dX2_add_10 : decode cX2_add 10 = .ok (.invokevirtual 22, 3) := by decide +kernel
theorem dX2_add_13 : decode cX2_add 13 = .ok (.aload_n 0, 1) := by decide +kernel
theorem dX2_add_14 : decode cX2_add 14 = .ok (.getfield 11, 3) := by decide +kernel
theorem dX2_add_17 : decode cX2_add 17 = .ok (.aload_n 0, 1) := by decide +kernel
theorem dX2_add_18 : decode cX2_add 18 = .ok (.getfield 17, 3) := by decide +kernel
theorem dX2_add_21 : decode cX2_add 21 = .ok (.aaload, 1) := by decide +kernel
theorem dX2_add_22 : decode cX2_add 22 = .ok (.astore_n 2, 1) := by decide +kernel
theorem dX2_add_23 : decode cX2_add 23 = .ok (.aload_n 2, 1) := by decide +kernel
theorem dX2_add_24 : decode cX2_add 24 = .ok (.aload_n 1, 1) := by decide +kernel
theorem dX2_add_25 : decode cX2_add 25 = .ok (.invokevirtual 25, 3) := by decide +kernel
theorem dX2_add_28 : decode cX2_add 28 = .ok (.aload_n 0, 1) := by decide +kernel
theorem dX2_add_29 : decode cX2_add 29 = .ok (.dup, 1) := by decide +kernel
theorem dX2_add_30 : decode cX2_add 30 = .ok (.getfield 17, 3) := by decide +kernel
theorem dX2_add_33 : decode cX2_add 33 = .ok (.iconst 1, 1) := by decide +kernel
theorem dX2_add_34 : decode cX2_add 34 = .ok (.iadd, 1) := by decide +kernel
theorem dX2_add_35 : decode cX2_add 35 = .ok (.putfield 17, 3) := by decide +kernel
theorem dX2_add_38 : decode cX2_add 38 = .ok (.aload_n 2, 1) := by decide +kernel
theorem dX2_add_39 : decode cX2_add 39 = .ok (.areturn, 1) := by decide +kernel
theorem dX2_dropOldest_0 : decode cX2_dropOldest 0 = .ok (.aload_n 0, 1) := by decide +kernel
theorem dX2_dropOldest_1 : decode cX2_dropOldest 1 = .ok (.getfield 11, 3) := by decide +kernel
theorem dX2_dropOldest_4 : decode cX2_dropOldest 4 = .ok (.iconst 0, 1) := by decide +kernel
theorem dX2_dropOldest_5 : decode cX2_dropOldest 5 = .ok (.aaload, 1) := by decide +kernel
theorem dX2_dropOldest_6 : decode cX2_dropOldest 6 = .ok (.astore_n 1, 1) := by decide +kernel
theorem dX2_dropOldest_7 : decode cX2_dropOldest 7 = .ok (.iconst 1, 1) := by decide +kernel
theorem dX2_dropOldest_8 : decode cX2_dropOldest 8 = .ok (.istore_n 2, 1) := by decide +kernel
theorem dX2_dropOldest_9 : decode cX2_dropOldest 9 = .ok (.iload_n 2, 1) := by decide +kernel
theorem dX2_dropOldest_10 : decode cX2_dropOldest 10 = .ok (.bipush 6, 2) := by decide +kernel
theorem dX2_dropOldest_12 : decode cX2_dropOldest 12 = .ok (.if_icmp .ge 23, 3) := by decide +kernel
theorem dX2_dropOldest_15 : decode cX2_dropOldest 15 = .ok (.aload_n 0, 1) := by decide +kernel
theorem dX2_dropOldest_16 : decode cX2_dropOldest 16 = .ok (.getfield 11, 3) := by decide +kernel
theorem dX2_dropOldest_19 : decode cX2_dropOldest 19 = .ok (.iload_n 2, 1) := by decide +kernel
theorem dX2_dropOldest_20 : decode cX2_dropOldest 20 = .ok (.iconst 1, 1) := by decide +kernel
theorem dX2_dropOldest_21 : decode cX2_dropOldest 21 = .ok (.isub, 1) := by decide +kernel
theorem dX2_dropOldest_22 : decode cX2_dropOldest 22 = .ok (.aload_n 0, 1) := by decide +kernel
theorem dX2_dropOldest_23 : decode cX2_dropOldest 23 = .ok (.getfield 11, 3) := by decide +kernel
theorem dX2_dropOldest_26 : decode cX2_dropOldest 26 = .ok (.iload_n 2, 1) := by decide +kernel
theorem dX2_dropOldest_27 : decode cX2_dropOldest 27 = .ok (.aaload, 1) := by decide +kernel
theorem dX2_dropOldest_28 : decode cX2_dropOldest 28 = .ok (.aastore, 1) := by decide +kernel
theorem dX2_dropOldest_29 : decode cX2_dropOldest 29 = .ok (.iinc 2 1, 3) := by decide +kernel
theorem dX2_dropOldest_32 : decode cX2_dropOldest 32 = .ok (.goto (-23), 3) := by decide +kernel
theorem dX2_dropOldest_35 : decode cX2_dropOldest 35 = .ok (.aload_n 0, 1) := by decide +kernel
theorem dX2_dropOldest_36 : decode cX2_dropOldest 36 = .ok (.getfield 11, 3) := by decide +kernel
theorem dX2_dropOldest_39 : decode cX2_dropOldest 39 = .ok (.iconst 5, 1) := by decide +kernel
theorem dX2_dropOldest_40 : decode cX2_dropOldest 40 = .ok (.aload_n 1, 1) := by decide +kernel
theorem dX2_dropOldest_41 : decode cX2_dropOldest 41 = .ok (.aastore, 1) := by decide +kernel
theorem dX2_dropOldest_42 : decode cX2_dropOldest 42 = .ok (.aload_n 0, 1) := by decide +kernel
theorem dX2_dropOldest_43 : decode cX2_dropOldest 43 = .ok (.dup, 1) := by decide +kernel
theorem dX2_dropOldest_44 : decode cX2_dropOldest 44 = .ok (.getfield 17, 3) := by decide +kernel
theorem dX2_dropOldest_47 : decode cX2_dropOldest 47 = .ok (.iconst 1, 1) := by decide +kernel
theorem dX2_dropOldest_48 : decode cX2_dropOldest 48 = .ok (.isub, 1) := by decide +kernel
theorem dX2_dropOldest_49 : decode cX2_dropOldest 49 = .ok (.putfield 17, 3) := by decide +kernel
theorem dX2_dropOldest_52 : decode cX2_dropOldest 52 = .ok (.return_, 1) := by decide +kernel
theorem dX2_takeLatest_0 : decode cX2_takeLatest 0 = .ok (.aload_n 0, 1) := by decide +kernel
theorem dX2_takeLatest_1 : decode cX2_takeLatest 1 = .ok (.getfield 17, 3) := by decide +kernel
theorem dX2_takeLatest_4 : decode cX2_takeLatest 4 = .ok (.ifCond .ne 13, 3) := by decide +kernel
theorem dX2_takeLatest_7 : decode cX2_takeLatest 7 = .ok (.new 29, 3) := by decide +kernel
theorem dX2_takeLatest_10 : decode cX2_takeLatest 10 = .ok (.dup, 1) := by decide +kernel
theorem dX2_takeLatest_11 : decode cX2_takeLatest 11 = .ok (.ldc 31, 2) := by decide +kernel
theorem dX2_takeLatest_13 : decode cX2_takeLatest 13 = .ok (.invokespecial 33, 3) := by decide +kernel
theorem dX2_takeLatest_16 : decode cX2_takeLatest 16 = .ok (.athrow, 1) := by decide +kernel
theorem dX2_takeLatest_17 : decode cX2_takeLatest 17 = .ok (.aload_n 0, 1) := by decide +kernel
theorem dX2_takeLatest_18 : decode cX2_takeLatest 18 = .ok (.dup, 1) := by decide +kernel
theorem dX2_takeLatest_19 : decode cX2_takeLatest 19 = .ok (.getfield 17, 3) := by decide +kernel
theorem dX2_takeLatest_22 : decode cX2_takeLatest 22 = .ok (.iconst 1, 1) := by decide +kernel
theorem dX2_takeLatest_23 : decode cX2_takeLatest 23 = .ok (.isub, 1) := by decide +kernel
theorem dX2_takeLatest_24 : decode cX2_takeLatest 24 = .ok (.putfield 17, 3) := by decide +kernel
theorem dX2_takeLatest_27 : decode cX2_takeLatest 27 = .ok (.aload_n 0, 1) := by decide +kernel
theorem dX2_takeLatest_28 : decode cX2_takeLatest 28 = .ok (.getfield 11, 3) := by decide +kernel
theorem dX2_takeLatest_31 : decode cX2_takeLatest 31 = .ok (.aload_n 0, 1) := by decide +kernel
theorem dX2_takeLatest_32 : decode cX2_takeLatest 32 = .ok (.getfield 17, 3) := by decide +kernel
theorem dX2_takeLatest_35 : decode cX2_takeLatest 35 = .ok (.aaload, 1) := by decide +kernel
theorem dX2_takeLatest_36 : decode cX2_takeLatest 36 = .ok (.areturn, 1) := by decide +kernel
theorem dX3_init_0 : decode cX3_init 0 = .ok (.aload_n 0, 1) := by decide +kernel
theorem dX3_init_1 : decode cX3_init 1 = .ok (.invokespecial 3, 3) := by decide +kernel
theorem dX3_init_4 : decode cX3_init 4 = .ok (.aload_n 0, 1) := by decide +kernel
theorem dX3_init_5 : decode cX3_init 5 = .ok (.bipush 60, 2) := by decide +kernel
theorem dX3_init_7 : decode cX3_init 7 = .ok (.newarray .char, 2) := by decide +kernel
theorem dX3_init_9 : decode cX3_init 9 = .ok (.putfield 11, 3) := by decide +kernel
theorem dX3_init_12 : decode cX3_init 12 = .ok (.aload_n 0, 1) := by decide +kernel
theorem dX3_init_13 : decode cX3_init 13 = .ok (.iconst 0, 1) := by decide +kernel
theorem dX3_init_14 : decode cX3_init 14 = .ok (.putfield 15, 3) := by decide +kernel
theorem dX3_init_17 : decode cX3_init 17 = .ok (.return_, 1) := by decide +kernel
set_option maxRecDepth 20000 in
theorem ggX4_init_X1_init : GoodIn wsX4_init wsX1_init := goodIn_r _ [12, 13, 2, 3, 4, 14, 15, 16, 17, 18, 21] (by decide +kernel) (by decide +kernel)
set_option maxRecDepth 20000 in
theorem gX4_init_X1_init : GoodIn wsX4_init (wsX1_init) := ggX4_init_X1_init
theorem dX4_init_0 : decode cX4_init 0 = .ok (.aload_n 0, 1) := by decide +kernel
theorem dX4_init_1 : decode cX4_init 1 = .ok (.invokespecial 3, 3) := by decide +kernel
theorem dX4_init_4 : decode cX4_init 4 = .ok (.aload_n 0, 1) := by decide +kernel
theorem dX4_init_5 : decode cX4_init 5 = .ok (.bipush 32, 2) := by decide +kernel
theorem dX4_init_7 : decode cX4_init 7 = .ok (.newarray .int, 2) := by decide +kernel
theorem dX4_init_9 : decode cX4_init 9 = .ok (.putfield 9, 3) := by decide +kernel
theorem dX4_init_12 : decode cX4_init 12 = .ok (.aload_n 0, 1) := by decide +kernel
theorem dX4_init_13 : decode cX4_init 13 = .ok (.new 15, 3) := by decide +kernel
theorem dX4_init_16 : decode cX4_init 16 = .ok (.dup, 1) := by decide +kernel
theorem dX4_init_17 : decode cX4_init 17 = .ok (.invokespecial 17, 3) := by decide +kernel
theorem dX4_init_20 : decode cX4_init 20 = .ok (.putfield 18, 3) := by decide +kernel
theorem dX4_init_23 : decode cX4_init 23 = .ok (.return_, 1) := by decide +kernel
set_option maxRecDepth 20000 in
theorem ggX4_play_X1_allBack : GoodIn wsX4_play wsX1_allBack := goodIn_r _ [9, 10, 11, 12, 13, 14, 53] (by decide +kernel) (by decide +kernel)
set_option maxRecDepth 20000 in
theorem gX4_play_X1_allBack : GoodIn wsX4_play (wsV RX4 22 RX1 yX1_allBack wsX1_allBack) := goodIn_app (goodIn_of _ (by decide +kernel)) ggX4_play_X1_allBack
set_option maxRecDepth 20000 in
theorem ggX4_play_X1_heardOutOf : GoodIn wsX4_play wsX1_heardOutOf := goodIn_r _ [18, 19, 20, 21, 22, 23, 24, 8, 25, 10, 53] (by decide +kernel) (by decide +kernel)
set_option maxRecDepth 20000 in
theorem gX4_play_X1_heardOutOf : GoodIn wsX4_play (wsV RX4 33 RX1 yX1_heardOutOf wsX1_heardOutOf) := goodIn_app (goodIn_of _ (by decide +kernel)) ggX4_play_X1_heardOutOf
set_option maxRecDepth 20000 in
theorem ggX4_play_X1_swing : GoodIn wsX4_play wsX1_swing := goodIn_r _ [29, 10, 30, 31, 32, 33, 19, 20, 21, 53] (by decide +kernel) (by decide +kernel)
set_option maxRecDepth 20000 in
theorem gX4_play_X1_swing : GoodIn wsX4_play (wsV RX4 37 RX1 yX1_swing wsX1_swing) := goodIn_app (goodIn_of _ (by decide +kernel)) ggX4_play_X1_swing
set_option maxRecDepth 20000 in
theorem ggX4_play_J6_bitCount_0f7a4 : GoodIn wsX4_play wsJ6_bitCount_0f7a4 := goodIn_r _ [37, 38, 39, 40] (by decide +kernel) (by decide +kernel)
set_option maxRecDepth 20000 in
theorem gX4_play_J6_bitCount_0f7a4 : GoodIn wsX4_play (va_wsS RX4 41 yJ6_bitCount_0f7a4 wsJ6_bitCount_0f7a4) := goodIn_app (goodIn_of _ (by decide +kernel)) ggX4_play_J6_bitCount_0f7a4
theorem dX4_play_0 : decode cX4_play 0 = .ok (.aload_n 0, 1) := by decide +kernel
theorem dX4_play_1 : decode cX4_play 1 = .ok (.getfield 18, 3) := by decide +kernel
theorem dX4_play_4 : decode cX4_play 4 = .ok (.invokevirtual 22, 3) := by decide +kernel
theorem dX4_play_7 : decode cX4_play 7 = .ok (.iconst 0, 1) := by decide +kernel
theorem dX4_play_8 : decode cX4_play 8 = .ok (.istore_n 3, 1) := by decide +kernel
theorem dX4_play_9 : decode cX4_play 9 = .ok (.iconst 0, 1) := by decide +kernel
theorem dX4_play_10 : decode cX4_play 10 = .ok (.istore 4, 2) := by decide +kernel
theorem dX4_play_12 : decode cX4_play 12 = .ok (.iload 4, 2) := by decide +kernel
theorem dX4_play_14 : decode cX4_play 14 = .ok (.bipush 32, 2) := by decide +kernel
theorem dX4_play_16 : decode cX4_play 16 = .ok (.if_icmp .ge 56, 3) := by decide +kernel
theorem dX4_play_19 : decode cX4_play 19 = .ok (.aload_n 0, 1) := by decide +kernel
theorem dX4_play_20 : decode cX4_play 20 = .ok (.getfield 18, 3) := by decide +kernel
theorem dX4_play_23 : decode cX4_play 23 = .ok (.aload_n 1, 1) := by decide +kernel
theorem dX4_play_24 : decode cX4_play 24 = .ok (.getfield 25, 3) := by decide +kernel
theorem dX4_play_27 : decode cX4_play 27 = .ok (.iload 4, 2) := by decide +kernel
theorem dX4_play_29 : decode cX4_play 29 = .ok (.iaload, 1) := by decide +kernel
theorem dX4_play_30 : decode cX4_play 30 = .ok (.aload_n 1, 1) := by decide +kernel
theorem dX4_play_31 : decode cX4_play 31 = .ok (.getfield 30, 3) := by decide +kernel
theorem dX4_play_34 : decode cX4_play 34 = .ok (.iload_n 2, 1) := by decide +kernel
theorem dX4_play_35 : decode cX4_play 35 = .ok (.invokevirtual 33, 3) := by decide +kernel
theorem dX4_play_38 : decode cX4_play 38 = .ok (.istore 5, 2) := by decide +kernel
theorem dX4_play_40 : decode cX4_play 40 = .ok (.aload_n 0, 1) := by decide +kernel
theorem dX4_play_41 : decode cX4_play 41 = .ok (.getfield 18, 3) := by decide +kernel
theorem dX4_play_44 : decode cX4_play 44 = .ok (.iload 5, 2) := by decide +kernel
theorem dX4_play_46 : decode cX4_play 46 = .ok (.invokevirtual 37, 3) := by decide +kernel
theorem dX4_play_49 : decode cX4_play 49 = .ok (.aload_n 0, 1) := by decide +kernel
theorem dX4_play_50 : decode cX4_play 50 = .ok (.getfield 9, 3) := by decide +kernel
theorem dX4_play_53 : decode cX4_play 53 = .ok (.iload 4, 2) := by decide +kernel
theorem dX4_play_55 : decode cX4_play 55 = .ok (.iload 5, 2) := by decide +kernel
theorem dX4_play_57 : decode cX4_play 57 = .ok (.iastore, 1) := by decide +kernel
theorem dX4_play_58 : decode cX4_play 58 = .ok (.iload_n 3, 1) := by decide +kernel
theorem dX4_play_59 : decode cX4_play 59 = .ok (.iload 5, 2) := by decide +kernel
theorem dX4_play_61 : decode cX4_play 61 = .ok (.invokestatic 41, 3) := by decide +kernel
theorem dX4_play_64 : decode cX4_play 64 = .ok (.iadd, 1) := by decide +kernel
theorem dX4_play_65 : decode cX4_play 65 = .ok (.istore_n 3, 1) := by decide +kernel
theorem dX4_play_66 : decode cX4_play 66 = .ok (.iinc 4 1, 3) := by decide +kernel
theorem dX4_play_69 : decode cX4_play 69 = .ok (.goto (-57), 3) := by decide +kernel
theorem dX4_play_72 : decode cX4_play 72 = .ok (.iload_n 3, 1) := by decide +kernel
theorem dX4_play_73 : decode cX4_play 73 = .ok (.ireturn, 1) := by decide +kernel
set_option maxRecDepth 20000 in
theorem ggX4_sumOfColumns_J6_bitCount_0f7a4 : GoodIn wsX4_sumOfColumns wsJ6_bitCount_0f7a4 := goodIn_r _ [5, 6, 7, 8] (by decide +kernel) (by decide +kernel)
set_option maxRecDepth 20000 in
theorem gX4_sumOfColumns_J6_bitCount_0f7a4 : GoodIn wsX4_sumOfColumns (va_wsS RX4 41 yJ6_bitCount_0f7a4 wsJ6_bitCount_0f7a4) := goodIn_app (goodIn_of _ (by decide +kernel)) ggX4_sumOfColumns_J6_bitCount_0f7a4
theorem dX4_sumOfColumns_0 : decode cX4_sumOfColumns 0 = .ok (.iconst 0, 1) := by decide +kernel
theorem dX4_sumOfColumns_1 : decode cX4_sumOfColumns 1 = .ok (.istore_n 1, 1) := by decide +kernel
theorem dX4_sumOfColumns_2 : decode cX4_sumOfColumns 2 = .ok (.iconst 0, 1) := by decide +kernel
theorem dX4_sumOfColumns_3 : decode cX4_sumOfColumns 3 = .ok (.istore_n 2, 1) := by decide +kernel
theorem dX4_sumOfColumns_4 : decode cX4_sumOfColumns 4 = .ok (.iload_n 2, 1) := by decide +kernel
theorem dX4_sumOfColumns_5 : decode cX4_sumOfColumns 5 = .ok (.bipush 32, 2) := by decide +kernel
theorem dX4_sumOfColumns_7 : decode cX4_sumOfColumns 7 = .ok (.if_icmp .ge 21, 3) := by decide +kernel
theorem dX4_sumOfColumns_10 : decode cX4_sumOfColumns 10 = .ok (.iload_n 1, 1) := by decide +kernel
theorem dX4_sumOfColumns_11 : decode cX4_sumOfColumns 11 = .ok (.aload_n 0, 1) := by decide +kernel
theorem dX4_sumOfColumns_12 : decode cX4_sumOfColumns 12 = .ok (.getfield 9, 3) := by decide +kernel
theorem dX4_sumOfColumns_15 : decode cX4_sumOfColumns 15 = .ok (.iload_n 2, 1) := by decide +kernel
theorem dX4_sumOfColumns_16 : decode cX4_sumOfColumns 16 = .ok (.iaload, 1) := by decide +kernel
theorem dX4_sumOfColumns_17 : decode cX4_sumOfColumns 17 = .ok (.invokestatic 41, 3) := by decide +kernel
theorem dX4_sumOfColumns_20 : decode cX4_sumOfColumns 20 = .ok (.iadd, 1) := by decide +kernel
theorem dX4_sumOfColumns_21 : decode cX4_sumOfColumns 21 = .ok (.istore_n 1, 1) := by decide +kernel
theorem dX4_sumOfColumns_22 : decode cX4_sumOfColumns 22 = .ok (.iinc 2 1, 3) := by decide +kernel
theorem dX4_sumOfColumns_25 : decode cX4_sumOfColumns 25 = .ok (.goto (-21), 3) := by decide +kernel
theorem dX4_sumOfColumns_28 : decode cX4_sumOfColumns 28 = .ok (.iload_n 1, 1) := by decide +kernel
theorem dX4_sumOfColumns_29 : decode cX4_sumOfColumns 29 = .ok (.ireturn, 1) := by decide +kernel
set_option maxRecDepth 20000 in
theorem ggX4_timesHeard_X5_holds : GoodIn wsX4_timesHeard wsX5_holds := goodIn_r _ [4] (by decide +kernel) (by decide +kernel)
set_option maxRecDepth 20000 in
theorem gX4_timesHeard_X5_holds_n47 : GoodIn wsX4_timesHeard (wsX5_holds) := ggX4_timesHeard_X5_holds
theorem dX4_timesHeard_0 : decode cX4_timesHeard 0 = .ok (.iconst 0, 1) := by decide +kernel
theorem dX4_timesHeard_1 : decode cX4_timesHeard 1 = .ok (.istore_n 2, 1) := by decide +kernel
theorem dX4_timesHeard_2 : decode cX4_timesHeard 2 = .ok (.iconst 0, 1) := by decide +kernel
theorem dX4_timesHeard_3 : decode cX4_timesHeard 3 = .ok (.istore_n 3, 1) := by decide +kernel
theorem dX4_timesHeard_4 : decode cX4_timesHeard 4 = .ok (.iload_n 3, 1) := by decide +kernel
theorem dX4_timesHeard_5 : decode cX4_timesHeard 5 = .ok (.bipush 32, 2) := by decide +kernel
theorem dX4_timesHeard_7 : decode cX4_timesHeard 7 = .ok (.if_icmp .ge 25, 3) := by decide +kernel
theorem dX4_timesHeard_10 : decode cX4_timesHeard 10 = .ok (.aload_n 0, 1) := by decide +kernel
theorem dX4_timesHeard_11 : decode cX4_timesHeard 11 = .ok (.getfield 9, 3) := by decide +kernel
theorem dX4_timesHeard_14 : decode cX4_timesHeard 14 = .ok (.iload_n 3, 1) := by decide +kernel
theorem dX4_timesHeard_15 : decode cX4_timesHeard 15 = .ok (.iaload, 1) := by decide +kernel
theorem dX4_timesHeard_16 : decode cX4_timesHeard 16 = .ok (.iload_n 1, 1) := by decide +kernel
theorem dX4_timesHeard_17 : decode cX4_timesHeard 17 = .ok (.invokestatic 47, 3) := by decide +kernel
theorem dX4_timesHeard_20 : decode cX4_timesHeard 20 = .ok (.ifCond .eq 6, 3) := by decide +kernel
theorem dX4_timesHeard_23 : decode cX4_timesHeard 23 = .ok (.iinc 2 1, 3) := by decide +kernel
theorem dX4_timesHeard_26 : decode cX4_timesHeard 26 = .ok (.iinc 3 1, 3) := by decide +kernel
theorem dX4_timesHeard_29 : decode cX4_timesHeard 29 = .ok (.goto (-25), 3) := by decide +kernel
theorem dX4_timesHeard_32 : decode cX4_timesHeard 32 = .ok (.iload_n 2, 1) := by decide +kernel
theorem dX4_timesHeard_33 : decode cX4_timesHeard 33 = .ok (.ireturn, 1) := by decide +kernel
set_option maxRecDepth 20000 in
theorem ggX5_init_X0_init : GoodIn wsX5_init wsX0_init := goodIn_r _ [23, 24, 2, 3, 25, 26, 27, 28, 29, 30, 31, 32, 33, 34, 35, 36, 37, 38, 39, 40, 41, 42, 43, 44, 45, 46, 47, 48, 70, 71, 72, 73, 74, 75, 76, 77, 78, 79, 91] (by decide +kernel) (by decide +kernel)
set_option maxRecDepth 20000 in
theorem gX5_init_X0_init : GoodIn wsX5_init (wsX0_init) := ggX5_init_X0_init
set_option maxRecDepth 20000 in
theorem ggX5_init_X4_init : GoodIn wsX5_init wsX4_init := goodIn_r _ [50, 51, 2, 3, 25, 52, 53, 31, 32, 54, 55, 40, 41, 42, 43, 44, 45, 46, 47, 85, 86, 91] (by decide +kernel) (by decide +kernel)
set_option maxRecDepth 20000 in
theorem gX5_init_X4_init_n18 : GoodIn wsX5_init (wsX4_init) := ggX5_init_X4_init
set_option maxRecDepth 20000 in
theorem ggX5_init_X3_init : GoodIn wsX5_init wsX3_init := goodIn_r _ [57, 58, 2, 3, 59, 60, 61, 87, 88] (by decide +kernel) (by decide +kernel)
set_option maxRecDepth 20000 in
theorem gX5_init_X3_init_n25 : GoodIn wsX5_init (wsX3_init) := ggX5_init_X3_init
set_option maxRecDepth 20000 in
theorem ggX5_init_X2_init : GoodIn wsX5_init wsX2_init := goodIn_r _ [64, 65, 2, 3, 66, 67, 68, 5, 6, 69, 22, 23, 24, 25, 26, 27, 28, 29, 30, 31, 32, 33, 34, 35, 36, 37, 38, 39, 40, 41, 42, 43, 44, 45, 46, 47, 48, 89, 90, 70, 71, 72, 73, 74, 75, 76, 77, 78, 79, 91] (by decide +kernel) (by decide +kernel)
set_option maxRecDepth 20000 in
theorem gX5_init_X2_init : GoodIn wsX5_init (wsX2_init) := ggX5_init_X2_init
theorem dX5_init_0 : decode cX5_init 0 = .ok (.aload_n 0, 1) := by decide +kernel
theorem dX5_init_1 : decode cX5_init 1 = .ok (.invokespecial 1, 3) := by decide +kernel
theorem dX5_init_4 : decode cX5_init 4 = .ok (.aload_n 0, 1) := by decide +kernel
theorem dX5_init_5 : decode cX5_init 5 = .ok (.new 7, 3) := by decide +kernel
theorem dX5_init_8 : decode cX5_init 8 = .ok (.dup, 1) := by decide +kernel
theorem dX5_init_9 : decode cX5_init 9 = .ok (.invokespecial 9, 3) := by decide +kernel
theorem dX5_init_12 : decode cX5_init 12 = .ok (.putfield 10, 3) := by decide +kernel
theorem dX5_init_15 : decode cX5_init 15 = .ok (.aload_n 0, 1) := by decide +kernel
theorem dX5_init_16 : decode cX5_init 16 = .ok (.new 16, 3) := by decide +kernel
theorem dX5_init_19 : decode cX5_init 19 = .ok (.dup, 1) := by decide +kernel
theorem dX5_init_20 : decode cX5_init 20 = .ok (.invokespecial 18, 3) := by decide +kernel
theorem dX5_init_23 : decode cX5_init 23 = .ok (.putfield 19, 3) := by decide +kernel
theorem dX5_init_26 : decode cX5_init 26 = .ok (.aload_n 0, 1) := by decide +kernel
theorem dX5_init_27 : decode cX5_init 27 = .ok (.new 23, 3) := by decide +kernel
theorem dX5_init_30 : decode cX5_init 30 = .ok (.dup, 1) := by decide +kernel
theorem dX5_init_31 : decode cX5_init 31 = .ok (.invokespecial 25, 3) := by decide +kernel
theorem dX5_init_34 : decode cX5_init 34 = .ok (.putfield 26, 3) := by decide +kernel
theorem dX5_init_37 : decode cX5_init 37 = .ok (.aload_n 0, 1) := by decide +kernel
theorem dX5_init_38 : decode cX5_init 38 = .ok (.new 30, 3) := by decide +kernel
theorem dX5_init_41 : decode cX5_init 41 = .ok (.dup, 1) := by decide +kernel
theorem dX5_init_42 : decode cX5_init 42 = .ok (.invokespecial 32, 3) := by decide +kernel
theorem dX5_init_45 : decode cX5_init 45 = .ok (.putfield 33, 3) := by decide +kernel
theorem dX5_init_48 : decode cX5_init 48 = .ok (.aload_n 0, 1) := by decide +kernel
theorem dX5_init_49 : decode cX5_init 49 = .ok (.iconst 2, 1) := by decide +kernel
theorem dX5_init_50 : decode cX5_init 50 = .ok (.anewarray 7, 3) := by decide +kernel
theorem dX5_init_53 : decode cX5_init 53 = .ok (.putfield 37, 3) := by decide +kernel
theorem dX5_init_56 : decode cX5_init 56 = .ok (.return_, 1) := by decide +kernel
set_option maxRecDepth 20000 in
theorem ggX5_turnPeg_X5_isColumn : GoodIn wsX5_turnPeg wsX5_isColumn := goodIn_r _ [9] (by decide +kernel) (by decide +kernel)
set_option maxRecDepth 20000 in
theorem gX5_turnPeg_X5_isColumn : GoodIn wsX5_turnPeg (va_wsS RX5 41 yX5_isColumn wsX5_isColumn) := goodIn_app (goodIn_of _ (by decide +kernel)) ggX5_turnPeg_X5_isColumn
set_option maxRecDepth 20000 in
theorem ggX5_turnPeg_X5_isBell : GoodIn wsX5_turnPeg wsX5_isBell := goodIn_r _ [12] (by decide +kernel) (by decide +kernel)
set_option maxRecDepth 20000 in
theorem gX5_turnPeg_X5_isBell : GoodIn wsX5_turnPeg (va_wsS RX5 45 yX5_isBell wsX5_isBell) := goodIn_app (goodIn_of _ (by decide +kernel)) ggX5_turnPeg_X5_isBell
set_option maxRecDepth 20000 in
theorem ggX5_turnPeg_X2_add : GoodIn wsX5_turnPeg wsX2_add := goodIn_r _ [17, 18, 19, 20, 21, 22, 16, 23, 24, 25, 26, 27, 28, 29, 30, 31, 32, 33, 34, 35, 36, 37, 38, 39, 40, 41, 42, 43, 44, 45, 46, 47, 48, 49, 68, 69, 58, 59, 60, 61, 62, 63, 64, 65, 66, 67, 70] (by decide +kernel) (by decide +kernel)
set_option maxRecDepth 20000 in
theorem gX5_turnPeg_X2_add : GoodIn wsX5_turnPeg (wsV RX5 55 RX2 yX2_add wsX2_add) := goodIn_app (goodIn_of _ (by decide +kernel)) ggX5_turnPeg_X2_add
set_option maxRecDepth 20000 in
theorem ggX5_turnPeg_X5_holds : GoodIn wsX5_turnPeg wsX5_holds := goodIn_r _ [52] (by decide +kernel) (by decide +kernel)
set_option maxRecDepth 20000 in
theorem gX5_turnPeg_X5_holds : GoodIn wsX5_turnPeg (va_wsS RX5 63 yX5_holds wsX5_holds) := goodIn_app (goodIn_of _ (by decide +kernel)) ggX5_turnPeg_X5_holds
theorem dX5_turnPeg_0 : decode cX5_turnPeg 0 = .ok (.iload_n 1, 1) := by decide +kernel
theorem dX5_turnPeg_1 : decode cX5_turnPeg 1 = .ok (.invokestatic 41, 3) := by decide +kernel
theorem dX5_turnPeg_4 : decode cX5_turnPeg 4 = .ok (.ifCond .eq 10, 3) := by decide +kernel
theorem dX5_turnPeg_7 : decode cX5_turnPeg 7 = .ok (.iload_n 2, 1) := by decide +kernel
theorem dX5_turnPeg_8 : decode cX5_turnPeg 8 = .ok (.invokestatic 45, 3) := by decide +kernel
theorem dX5_turnPeg_11 : decode cX5_turnPeg 11 = .ok (.ifCond .ne 13, 3) := by decide +kernel
theorem dX5_turnPeg_14 : decode cX5_turnPeg 14 = .ok (.new 48, 3) := by decide +kernel
theorem dX5_turnPeg_17 : decode cX5_turnPeg 17 = .ok (.dup, 1) := by decide +kernel
theorem dX5_turnPeg_18 : decode cX5_turnPeg 18 = .ok (.ldc 50, 2) := by decide +kernel
theorem dX5_turnPeg_20 : decode cX5_turnPeg 20 = .ok (.invokespecial 52, 3) := by decide +kernel
theorem dX5_turnPeg_23 : decode cX5_turnPeg 23 = .ok (.athrow, 1) := by decide +kernel
theorem dX5_turnPeg_24 : decode cX5_turnPeg 24 = .ok (.aload_n 0, 1) := by decide +kernel
theorem dX5_turnPeg_25 : decode cX5_turnPeg 25 = .ok (.getfield 33, 3) := by decide +kernel
theorem dX5_turnPeg_28 : decode cX5_turnPeg 28 = .ok (.aload_n 0, 1) := by decide +kernel
theorem dX5_turnPeg_29 : decode cX5_turnPeg 29 = .ok (.getfield 10, 3) := by decide +kernel
theorem dX5_turnPeg_32 : decode cX5_turnPeg 32 = .ok (.invokevirtual 55, 3) := by decide +kernel
theorem dX5_turnPeg_35 : decode cX5_turnPeg 35 = .ok (.pop, 1) := by decide +kernel
theorem dX5_turnPeg_36 : decode cX5_turnPeg 36 = .ok (.aload_n 0, 1) := by decide +kernel
theorem dX5_turnPeg_37 : decode cX5_turnPeg 37 = .ok (.getfield 10, 3) := by decide +kernel
theorem dX5_turnPeg_40 : decode cX5_turnPeg 40 = .ok (.getfield 59, 3) := by decide +kernel
theorem dX5_turnPeg_43 : decode cX5_turnPeg 43 = .ok (.iload_n 1, 1) := by decide +kernel
theorem dX5_turnPeg_44 : decode cX5_turnPeg 44 = .ok (.dup2, 1) := by decide +kernel
theorem dX5_turnPeg_45 : decode cX5_turnPeg 45 = .ok (.iaload, 1) := by decide +kernel
theorem dX5_turnPeg_46 : decode cX5_turnPeg 46 = .ok (.iconst 1, 1) := by decide +kernel
theorem dX5_turnPeg_47 : decode cX5_turnPeg 47 = .ok (.iload_n 2, 1) := by decide +kernel
theorem dX5_turnPeg_48 : decode cX5_turnPeg 48 = .ok (.ishl, 1) := by decide +kernel
theorem dX5_turnPeg_49 : decode cX5_turnPeg 49 = .ok (.ixor, 1) := by decide +kernel
theorem dX5_turnPeg_50 : decode cX5_turnPeg 50 = .ok (.iastore, 1) := by decide +kernel
theorem dX5_turnPeg_51 : decode cX5_turnPeg 51 = .ok (.aload_n 0, 1) := by decide +kernel
theorem dX5_turnPeg_52 : decode cX5_turnPeg 52 = .ok (.getfield 10, 3) := by decide +kernel
theorem dX5_turnPeg_55 : decode cX5_turnPeg 55 = .ok (.getfield 59, 3) := by decide +kernel
theorem dX5_turnPeg_58 : decode cX5_turnPeg 58 = .ok (.iload_n 1, 1) := by decide +kernel
theorem dX5_turnPeg_59 : decode cX5_turnPeg 59 = .ok (.iaload, 1) := by decide +kernel
theorem dX5_turnPeg_60 : decode cX5_turnPeg 60 = .ok (.iload_n 2, 1) := by decide +kernel
theorem dX5_turnPeg_61 : decode cX5_turnPeg 61 = .ok (.invokestatic 63, 3) := by decide +kernel
theorem dX5_turnPeg_64 : decode cX5_turnPeg 64 = .ok (.ireturn, 1) := by decide +kernel
set_option maxRecDepth 20000 in
theorem ggX5_setColumn_X5_isColumn : GoodIn wsX5_setColumn wsX5_isColumn := goodIn_r _ [11] (by decide +kernel) (by decide +kernel)
set_option maxRecDepth 20000 in
theorem gX5_setColumn_X5_isColumn : GoodIn wsX5_setColumn (va_wsS RX5 41 yX5_isColumn wsX5_isColumn) := goodIn_app (goodIn_of _ (by decide +kernel)) ggX5_setColumn_X5_isColumn
set_option maxRecDepth 20000 in
theorem ggX5_setColumn_X2_add : GoodIn wsX5_setColumn wsX2_add := goodIn_r _ [16, 17, 18, 19, 20, 21, 15, 22, 23, 24, 25, 26, 27, 28, 29, 30, 31, 32, 33, 34, 35, 36, 37, 38, 39, 40, 41, 42, 43, 44, 45, 46, 47, 48, 75, 76, 65, 66, 67, 68, 69, 70, 71, 72, 73, 74, 77] (by decide +kernel) (by decide +kernel)
set_option maxRecDepth 20000 in
theorem gX5_setColumn_X2_add : GoodIn wsX5_setColumn (wsV RX5 55 RX2 yX2_add wsX2_add) := goodIn_app (goodIn_of _ (by decide +kernel)) ggX5_setColumn_X2_add
set_option maxRecDepth 20000 in
theorem ggX5_setColumn_X0_pegsOtherThan : GoodIn wsX5_setColumn wsX0_pegsOtherThan := goodIn_r _ [52, 28, 53, 54, 55, 56, 57, 58, 59, 65, 66, 67, 68, 69, 70, 71, 72, 73, 74] (by decide +kernel) (by decide +kernel)
set_option maxRecDepth 20000 in
theorem gX5_setColumn_X0_pegsOtherThan : GoodIn wsX5_setColumn (wsV RX5 74 RX0 yX0_pegsOtherThan wsX0_pegsOtherThan) := goodIn_app (goodIn_of _ (by decide +kernel)) ggX5_setColumn_X0_pegsOtherThan
theorem dX5_setColumn_0 : decode cX5_setColumn 0 = .ok (.iload_n 1, 1) := by decide +kernel
theorem dX5_setColumn_1 : decode cX5_setColumn 1 = .ok (.invokestatic 41, 3) := by decide +kernel
theorem dX5_setColumn_4 : decode cX5_setColumn 4 = .ok (.ifCond .ne 13, 3) := by decide +kernel
theorem dX5_setColumn_7 : decode cX5_setColumn 7 = .ok (.new 48, 3) := by decide +kernel
theorem dX5_setColumn_10 : decode cX5_setColumn 10 = .ok (.dup, 1) := by decide +kernel
theorem dX5_setColumn_11 : decode cX5_setColumn 11 = .ok (.ldc 67, 2) := by decide +kernel
theorem dX5_setColumn_13 : decode cX5_setColumn 13 = .ok (.invokespecial 52, 3) := by decide +kernel
theorem dX5_setColumn_16 : decode cX5_setColumn 16 = .ok (.athrow, 1) := by decide +kernel
theorem dX5_setColumn_17 : decode cX5_setColumn 17 = .ok (.iload_n 2, 1) := by decide +kernel
theorem dX5_setColumn_18 : decode cX5_setColumn 18 = .ok (.ifCond .lt 10, 3) := by decide +kernel
theorem dX5_setColumn_21 : decode cX5_setColumn 21 = .ok (.iload_n 2, 1) := by decide +kernel
theorem dX5_setColumn_22 : decode cX5_setColumn 22 = .ok (.sipush 1023, 3) := by decide +kernel
theorem dX5_setColumn_25 : decode cX5_setColumn 25 = .ok (.if_icmp .le 13, 3) := by decide +kernel
theorem dX5_setColumn_28 : decode cX5_setColumn 28 = .ok (.new 69, 3) := by decide +kernel
theorem dX5_setColumn_31 : decode cX5_setColumn 31 = .ok (.dup, 1) := by decide +kernel
theorem dX5_setColumn_32 : decode cX5_setColumn 32 = .ok (.ldc 71, 2) := by decide +kernel
theorem dX5_setColumn_34 : decode cX5_setColumn 34 = .ok (.invokespecial 73, 3) := by decide +kernel
theorem dX5_setColumn_37 : decode cX5_setColumn 37 = .ok (.athrow, 1) := by decide +kernel
theorem dX5_setColumn_38 : decode cX5_setColumn 38 = .ok (.aload_n 0, 1) := by decide +kernel
theorem dX5_setColumn_39 : decode cX5_setColumn 39 = .ok (.getfield 33, 3) := by decide +kernel
theorem dX5_setColumn_42 : decode cX5_setColumn 42 = .ok (.aload_n 0, 1) := by decide +kernel
theorem dX5_setColumn_43 : decode cX5_setColumn 43 = .ok (.getfield 10, 3) := by decide +kernel
theorem dX5_setColumn_46 : decode cX5_setColumn 46 = .ok (.invokevirtual 55, 3) := by decide +kernel
theorem dX5_setColumn_49 : decode cX5_setColumn 49 = .ok (.astore_n 3, 1) := by decide +kernel
theorem dX5_setColumn_50 : decode cX5_setColumn 50 = .ok (.aload_n 0, 1) := by decide +kernel
theorem dX5_setColumn_51 : decode cX5_setColumn 51 = .ok (.getfield 10, 3) := by decide +kernel
theorem dX5_setColumn_54 : decode cX5_setColumn 54 = .ok (.getfield 59, 3) := by decide +kernel
theorem dX5_setColumn_57 : decode cX5_setColumn 57 = .ok (.iload_n 1, 1) := by decide +kernel
theorem dX5_setColumn_58 : decode cX5_setColumn 58 = .ok (.iload_n 2, 1) := by decide +kernel
theorem dX5_setColumn_59 : decode cX5_setColumn 59 = .ok (.iastore, 1) := by decide +kernel
theorem dX5_setColumn_60 : decode cX5_setColumn 60 = .ok (.aload_n 0, 1) := by decide +kernel
theorem dX5_setColumn_61 : decode cX5_setColumn 61 = .ok (.getfield 10, 3) := by decide +kernel
theorem dX5_setColumn_64 : decode cX5_setColumn 64 = .ok (.aload_n 3, 1) := by decide +kernel
theorem dX5_setColumn_65 : decode cX5_setColumn 65 = .ok (.invokevirtual 74, 3) := by decide +kernel
theorem dX5_setColumn_68 : decode cX5_setColumn 68 = .ok (.ireturn, 1) := by decide +kernel
set_option maxRecDepth 20000 in
theorem ggX5_setTempo_X5_isBar : GoodIn wsX5_setTempo wsX5_isBar := goodIn_r _ [11] (by decide +kernel) (by decide +kernel)
set_option maxRecDepth 20000 in
theorem gX5_setTempo_X5_isBar : GoodIn wsX5_setTempo (va_wsS RX5 78 yX5_isBar wsX5_isBar) := goodIn_app (goodIn_of _ (by decide +kernel)) ggX5_setTempo_X5_isBar
set_option maxRecDepth 20000 in
theorem ggX5_setTempo_X2_add : GoodIn wsX5_setTempo wsX2_add := goodIn_r _ [16, 17, 18, 19, 20, 21, 15, 22, 23, 24, 25, 26, 27, 28, 29, 30, 31, 32, 33, 34, 35, 36, 37, 38, 39, 40, 41, 42, 43, 44, 45, 46, 47, 48, 64, 65, 54, 55, 56, 57, 58, 59, 60, 61, 62, 63, 66] (by decide +kernel) (by decide +kernel)
set_option maxRecDepth 20000 in
theorem gX5_setTempo_X2_add : GoodIn wsX5_setTempo (wsV RX5 55 RX2 yX2_add wsX2_add) := goodIn_app (goodIn_of _ (by decide +kernel)) ggX5_setTempo_X2_add
theorem dX5_setTempo_0 : decode cX5_setTempo 0 = .ok (.iload_n 1, 1) := by decide +kernel
theorem dX5_setTempo_1 : decode cX5_setTempo 1 = .ok (.invokestatic 78, 3) := by decide +kernel
theorem dX5_setTempo_4 : decode cX5_setTempo 4 = .ok (.ifCond .ne 13, 3) := by decide +kernel
theorem dX5_setTempo_7 : decode cX5_setTempo 7 = .ok (.new 48, 3) := by decide +kernel
theorem dX5_setTempo_10 : decode cX5_setTempo 10 = .ok (.dup, 1) := by decide +kernel
theorem dX5_setTempo_11 : decode cX5_setTempo 11 = .ok (.ldc 81, 2) := by decide +kernel
theorem dX5_setTempo_13 : decode cX5_setTempo 13 = .ok (.invokespecial 52, 3) := by decide +kernel
theorem dX5_setTempo_16 : decode cX5_setTempo 16 = .ok (.athrow, 1) := by decide +kernel
theorem dX5_setTempo_17 : decode cX5_setTempo 17 = .ok (.iload_n 2, 1) := by decide +kernel
theorem dX5_setTempo_18 : decode cX5_setTempo 18 = .ok (.iconst 1, 1) := by decide +kernel
theorem dX5_setTempo_19 : decode cX5_setTempo 19 = .ok (.if_icmp .lt 9, 3) := by decide +kernel
theorem dX5_setTempo_22 : decode cX5_setTempo 22 = .ok (.iload_n 2, 1) := by decide +kernel
theorem dX5_setTempo_23 : decode cX5_setTempo 23 = .ok (.bipush 9, 2) := by decide +kernel
theorem dX5_setTempo_25 : decode cX5_setTempo 25 = .ok (.if_icmp .le 13, 3) := by decide +kernel
theorem dX5_setTempo_28 : decode cX5_setTempo 28 = .ok (.new 69, 3) := by decide +kernel
theorem dX5_setTempo_31 : decode cX5_setTempo 31 = .ok (.dup, 1) := by decide +kernel
theorem dX5_setTempo_32 : decode cX5_setTempo 32 = .ok (.ldc 83, 2) := by decide +kernel
theorem dX5_setTempo_34 : decode cX5_setTempo 34 = .ok (.invokespecial 73, 3) := by decide +kernel
theorem dX5_setTempo_37 : decode cX5_setTempo 37 = .ok (.athrow, 1) := by decide +kernel
theorem dX5_setTempo_38 : decode cX5_setTempo 38 = .ok (.aload_n 0, 1) := by decide +kernel
theorem dX5_setTempo_39 : decode cX5_setTempo 39 = .ok (.getfield 33, 3) := by decide +kernel
theorem dX5_setTempo_42 : decode cX5_setTempo 42 = .ok (.aload_n 0, 1) := by decide +kernel
theorem dX5_setTempo_43 : decode cX5_setTempo 43 = .ok (.getfield 10, 3) := by decide +kernel
theorem dX5_setTempo_46 : decode cX5_setTempo 46 = .ok (.invokevirtual 55, 3) := by decide +kernel
theorem dX5_setTempo_49 : decode cX5_setTempo 49 = .ok (.astore_n 3, 1) := by decide +kernel
theorem dX5_setTempo_50 : decode cX5_setTempo 50 = .ok (.aload_n 0, 1) := by decide +kernel
theorem dX5_setTempo_51 : decode cX5_setTempo 51 = .ok (.getfield 10, 3) := by decide +kernel
theorem dX5_setTempo_54 : decode cX5_setTempo 54 = .ok (.getfield 85, 3) := by decide +kernel
theorem dX5_setTempo_57 : decode cX5_setTempo 57 = .ok (.iload_n 1, 1) := by decide +kernel
theorem dX5_setTempo_58 : decode cX5_setTempo 58 = .ok (.iload_n 2, 1) := by decide +kernel
theorem dX5_setTempo_59 : decode cX5_setTempo 59 = .ok (.iastore, 1) := by decide +kernel
theorem dX5_setTempo_60 : decode cX5_setTempo 60 = .ok (.aload_n 3, 1) := by decide +kernel
theorem dX5_setTempo_61 : decode cX5_setTempo 61 = .ok (.getfield 85, 3) := by decide +kernel
theorem dX5_setTempo_64 : decode cX5_setTempo 64 = .ok (.iload_n 1, 1) := by decide +kernel
theorem dX5_setTempo_65 : decode cX5_setTempo 65 = .ok (.iaload, 1) := by decide +kernel
theorem dX5_setTempo_66 : decode cX5_setTempo 66 = .ok (.ireturn, 1) := by decide +kernel
set_option maxRecDepth 20000 in
theorem ggX5_setWeight_X5_isBell : GoodIn wsX5_setWeight wsX5_isBell := goodIn_r _ [11] (by decide +kernel) (by decide +kernel)
set_option maxRecDepth 20000 in
theorem gX5_setWeight_X5_isBell : GoodIn wsX5_setWeight (va_wsS RX5 45 yX5_isBell wsX5_isBell) := goodIn_app (goodIn_of _ (by decide +kernel)) ggX5_setWeight_X5_isBell
set_option maxRecDepth 20000 in
theorem ggX5_setWeight_X2_add : GoodIn wsX5_setWeight wsX2_add := goodIn_r _ [16, 17, 18, 19, 20, 21, 15, 22, 23, 24, 25, 26, 27, 28, 29, 30, 31, 32, 33, 34, 35, 36, 37, 38, 39, 40, 41, 42, 43, 44, 45, 46, 47, 48, 64, 65, 54, 55, 56, 57, 58, 59, 60, 61, 62, 63, 66] (by decide +kernel) (by decide +kernel)
set_option maxRecDepth 20000 in
theorem gX5_setWeight_X2_add : GoodIn wsX5_setWeight (wsV RX5 55 RX2 yX2_add wsX2_add) := goodIn_app (goodIn_of _ (by decide +kernel)) ggX5_setWeight_X2_add
theorem dX5_setWeight_0 : decode cX5_setWeight 0 = .ok (.iload_n 1, 1) := by decide +kernel
theorem dX5_setWeight_1 : decode cX5_setWeight 1 = .ok (.invokestatic 45, 3) := by decide +kernel
theorem dX5_setWeight_4 : decode cX5_setWeight 4 = .ok (.ifCond .ne 13, 3) := by decide +kernel
theorem dX5_setWeight_7 : decode cX5_setWeight 7 = .ok (.new 48, 3) := by decide +kernel
theorem dX5_setWeight_10 : decode cX5_setWeight 10 = .ok (.dup, 1) := by decide +kernel
theorem dX5_setWeight_11 : decode cX5_setWeight 11 = .ok (.ldc 88, 2) := by decide +kernel
theorem dX5_setWeight_13 : decode cX5_setWeight 13 = .ok (.invokespecial 52, 3) := by decide +kernel
theorem dX5_setWeight_16 : decode cX5_setWeight 16 = .ok (.athrow, 1) := by decide +kernel
theorem dX5_setWeight_17 : decode cX5_setWeight 17 = .ok (.iload_n 2, 1) := by decide +kernel
theorem dX5_setWeight_18 : decode cX5_setWeight 18 = .ok (.iconst 1, 1) := by decide +kernel
theorem dX5_setWeight_19 : decode cX5_setWeight 19 = .ok (.if_icmp .lt 9, 3) := by decide +kernel
theorem dX5_setWeight_22 : decode cX5_setWeight 22 = .ok (.iload_n 2, 1) := by decide +kernel
theorem dX5_setWeight_23 : decode cX5_setWeight 23 = .ok (.bipush 60, 2) := by decide +kernel
theorem dX5_setWeight_25 : decode cX5_setWeight 25 = .ok (.if_icmp .le 13, 3) := by decide +kernel
theorem dX5_setWeight_28 : decode cX5_setWeight 28 = .ok (.new 69, 3) := by decide +kernel
theorem dX5_setWeight_31 : decode cX5_setWeight 31 = .ok (.dup, 1) := by decide +kernel
theorem dX5_setWeight_32 : decode cX5_setWeight 32 = .ok (.ldc 90, 2) := by decide +kernel
theorem dX5_setWeight_34 : decode cX5_setWeight 34 = .ok (.invokespecial 73, 3) := by decide +kernel
theorem dX5_setWeight_37 : decode cX5_setWeight 37 = .ok (.athrow, 1) := by decide +kernel
theorem dX5_setWeight_38 : decode cX5_setWeight 38 = .ok (.aload_n 0, 1) := by decide +kernel
theorem dX5_setWeight_39 : decode cX5_setWeight 39 = .ok (.getfield 33, 3) := by decide +kernel
theorem dX5_setWeight_42 : decode cX5_setWeight 42 = .ok (.aload_n 0, 1) := by decide +kernel
theorem dX5_setWeight_43 : decode cX5_setWeight 43 = .ok (.getfield 10, 3) := by decide +kernel
theorem dX5_setWeight_46 : decode cX5_setWeight 46 = .ok (.invokevirtual 55, 3) := by decide +kernel
theorem dX5_setWeight_49 : decode cX5_setWeight 49 = .ok (.astore_n 3, 1) := by decide +kernel
theorem dX5_setWeight_50 : decode cX5_setWeight 50 = .ok (.aload_n 0, 1) := by decide +kernel
theorem dX5_setWeight_51 : decode cX5_setWeight 51 = .ok (.getfield 10, 3) := by decide +kernel
theorem dX5_setWeight_54 : decode cX5_setWeight 54 = .ok (.getfield 92, 3) := by decide +kernel
theorem dX5_setWeight_57 : decode cX5_setWeight 57 = .ok (.iload_n 1, 1) := by decide +kernel
theorem dX5_setWeight_58 : decode cX5_setWeight 58 = .ok (.iload_n 2, 1) := by decide +kernel
theorem dX5_setWeight_59 : decode cX5_setWeight 59 = .ok (.iastore, 1) := by decide +kernel
theorem dX5_setWeight_60 : decode cX5_setWeight 60 = .ok (.aload_n 3, 1) := by decide +kernel
theorem dX5_setWeight_61 : decode cX5_setWeight 61 = .ok (.getfield 92, 3) := by decide +kernel
theorem dX5_setWeight_64 : decode cX5_setWeight 64 = .ok (.iload_n 1, 1) := by decide +kernel
theorem dX5_setWeight_65 : decode cX5_setWeight 65 = .ok (.iaload, 1) := by decide +kernel
theorem dX5_setWeight_66 : decode cX5_setWeight 66 = .ok (.ireturn, 1) := by decide +kernel
set_option maxRecDepth 20000 in
theorem ggX5_setBound_X2_add : GoodIn wsX5_setBound wsX2_add := goodIn_r _ [10, 11, 12, 13, 14, 15, 9, 16, 17, 18, 19, 20, 21, 22, 23, 24, 25, 26, 27, 28, 29, 30, 31, 32, 33, 34, 35, 36, 37, 38, 39, 40, 41, 42, 58, 59, 48, 49, 50, 51, 52, 53, 54, 55, 56, 57, 60] (by decide +kernel) (by decide +kernel)
set_option maxRecDepth 20000 in
theorem gX5_setBound_X2_add : GoodIn wsX5_setBound (wsV RX5 55 RX2 yX2_add wsX2_add) := goodIn_app (goodIn_of _ (by decide +kernel)) ggX5_setBound_X2_add
theorem dX5_setBound_0 : decode cX5_setBound 0 = .ok (.iload_n 1, 1) := by decide +kernel
theorem dX5_setBound_1 : decode cX5_setBound 1 = .ok (.iconst 1, 1) := by decide +kernel
theorem dX5_setBound_2 : decode cX5_setBound 2 = .ok (.if_icmp .lt 10, 3) := by decide +kernel
theorem dX5_setBound_5 : decode cX5_setBound 5 = .ok (.iload_n 1, 1) := by decide +kernel
theorem dX5_setBound_6 : decode cX5_setBound 6 = .ok (.sipush 300, 3) := by decide +kernel
theorem dX5_setBound_9 : decode cX5_setBound 9 = .ok (.if_icmp .le 13, 3) := by decide +kernel
theorem dX5_setBound_12 : decode cX5_setBound 12 = .ok (.new 69, 3) := by decide +kernel
theorem dX5_setBound_15 : decode cX5_setBound 15 = .ok (.dup, 1) := by decide +kernel
theorem dX5_setBound_16 : decode cX5_setBound 16 = .ok (.ldc 95, 2) := by decide +kernel
theorem dX5_setBound_18 : decode cX5_setBound 18 = .ok (.invokespecial 73, 3) := by decide +kernel
theorem dX5_setBound_21 : decode cX5_setBound 21 = .ok (.athrow, 1) := by decide +kernel
theorem dX5_setBound_22 : decode cX5_setBound 22 = .ok (.aload_n 0, 1) := by decide +kernel
theorem dX5_setBound_23 : decode cX5_setBound 23 = .ok (.getfield 33, 3) := by decide +kernel
theorem dX5_setBound_26 : decode cX5_setBound 26 = .ok (.aload_n 0, 1) := by decide +kernel
theorem dX5_setBound_27 : decode cX5_setBound 27 = .ok (.getfield 10, 3) := by decide +kernel
theorem dX5_setBound_30 : decode cX5_setBound 30 = .ok (.invokevirtual 55, 3) := by decide +kernel
theorem dX5_setBound_33 : decode cX5_setBound 33 = .ok (.astore_n 2, 1) := by decide +kernel
theorem dX5_setBound_34 : decode cX5_setBound 34 = .ok (.aload_n 0, 1) := by decide +kernel
theorem dX5_setBound_35 : decode cX5_setBound 35 = .ok (.getfield 10, 3) := by decide +kernel
theorem dX5_setBound_38 : decode cX5_setBound 38 = .ok (.iload_n 1, 1) := by decide +kernel
theorem dX5_setBound_39 : decode cX5_setBound 39 = .ok (.putfield 97, 3) := by decide +kernel
theorem dX5_setBound_42 : decode cX5_setBound 42 = .ok (.aload_n 2, 1) := by decide +kernel
theorem dX5_setBound_43 : decode cX5_setBound 43 = .ok (.getfield 97, 3) := by decide +kernel
theorem dX5_setBound_46 : decode cX5_setBound 46 = .ok (.ireturn, 1) := by decide +kernel
set_option maxRecDepth 20000 in
theorem ggX5_turnRound_X2_add : GoodIn wsX5_turnRound wsX2_add := goodIn_r _ [8, 9, 10, 11, 12, 13, 7, 14, 15, 16, 17, 18, 19, 20, 21, 22, 23, 24, 25, 26, 27, 28, 29, 30, 31, 32, 33, 34, 35, 36, 37, 38, 39, 40, 67, 68, 57, 58, 59, 60, 61, 62, 63, 64, 65, 66, 69] (by decide +kernel) (by decide +kernel)
set_option maxRecDepth 20000 in
theorem gX5_turnRound_X2_add : GoodIn wsX5_turnRound (wsV RX5 55 RX2 yX2_add wsX2_add) := goodIn_app (goodIn_of _ (by decide +kernel)) ggX5_turnRound_X2_add
set_option maxRecDepth 20000 in
theorem ggX5_turnRound_X0_pegsOtherThan : GoodIn wsX5_turnRound wsX0_pegsOtherThan := goodIn_r _ [44, 20, 45, 46, 47, 48, 49, 50, 51, 57, 58, 59, 60, 61, 62, 63, 64, 65, 66] (by decide +kernel) (by decide +kernel)
set_option maxRecDepth 20000 in
theorem gX5_turnRound_X0_pegsOtherThan : GoodIn wsX5_turnRound (wsV RX5 74 RX0 yX0_pegsOtherThan wsX0_pegsOtherThan) := goodIn_app (goodIn_of _ (by decide +kernel)) ggX5_turnRound_X0_pegsOtherThan
theorem dX5_turnRound_0 : decode cX5_turnRound 0 = .ok (.aload_n 0, 1) := by decide +kernel
theorem dX5_turnRound_1 : decode cX5_turnRound 1 = .ok (.getfield 33, 3) := by decide +kernel
theorem dX5_turnRound_4 : decode cX5_turnRound 4 = .ok (.aload_n 0, 1) := by decide +kernel
theorem dX5_turnRound_5 : decode cX5_turnRound 5 = .ok (.getfield 10, 3) := by decide +kernel
theorem dX5_turnRound_8 : decode cX5_turnRound 8 = .ok (.invokevirtual 55, 3) := by decide +kernel
theorem dX5_turnRound_11 : decode cX5_turnRound 11 = .ok (.astore_n 1, 1) := by decide +kernel
theorem dX5_turnRound_12 : decode cX5_turnRound 12 = .ok (.iconst 0, 1) := by decide +kernel
theorem dX5_turnRound_13 : decode cX5_turnRound 13 = .ok (.istore_n 2, 1) := by decide +kernel
theorem dX5_turnRound_14 : decode cX5_turnRound 14 = .ok (.iload_n 2, 1) := by decide +kernel
theorem dX5_turnRound_15 : decode cX5_turnRound 15 = .ok (.bipush 32, 2) := by decide +kernel
theorem dX5_turnRound_17 : decode cX5_turnRound 17 = .ok (.if_icmp .ge 27, 3) := by decide +kernel
theorem dX5_turnRound_20 : decode cX5_turnRound 20 = .ok (.aload_n 0, 1) := by decide +kernel
theorem dX5_turnRound_21 : decode cX5_turnRound 21 = .ok (.getfield 10, 3) := by decide +kernel
theorem dX5_turnRound_24 : decode cX5_turnRound 24 = .ok (.getfield 59, 3) := by decide +kernel
theorem dX5_turnRound_27 : decode cX5_turnRound 27 = .ok (.bipush 31, 2) := by decide +kernel
theorem dX5_turnRound_29 : decode cX5_turnRound 29 = .ok (.iload_n 2, 1) := by decide +kernel
theorem dX5_turnRound_30 : decode cX5_turnRound 30 = .ok (.isub, 1) := by decide +kernel
theorem dX5_turnRound_31 : decode cX5_turnRound 31 = .ok (.aload_n 1, 1) := by decide +kernel
theorem dX5_turnRound_32 : decode cX5_turnRound 32 = .ok (.getfield 59, 3) := by decide +kernel
theorem dX5_turnRound_35 : decode cX5_turnRound 35 = .ok (.iload_n 2, 1) := by decide +kernel
theorem dX5_turnRound_36 : decode cX5_turnRound 36 = .ok (.iaload, 1) := by decide +kernel
theorem dX5_turnRound_37 : decode cX5_turnRound 37 = .ok (.iastore, 1) := by decide +kernel
theorem dX5_turnRound_38 : decode cX5_turnRound 38 = .ok (.iinc 2 1, 3) := by decide +kernel
theorem dX5_turnRound_41 : decode cX5_turnRound 41 = .ok (.goto (-27), 3) := by decide +kernel
theorem dX5_turnRound_44 : decode cX5_turnRound 44 = .ok (.aload_n 0, 1) := by decide +kernel
theorem dX5_turnRound_45 : decode cX5_turnRound 45 = .ok (.getfield 10, 3) := by decide +kernel
theorem dX5_turnRound_48 : decode cX5_turnRound 48 = .ok (.aload_n 1, 1) := by decide +kernel
theorem dX5_turnRound_49 : decode cX5_turnRound 49 = .ok (.invokevirtual 74, 3) := by decide +kernel
theorem dX5_turnRound_52 : decode cX5_turnRound 52 = .ok (.ireturn, 1) := by decide +kernel
set_option maxRecDepth 20000 in
theorem ggX5_move_X2_add : GoodIn wsX5_move wsX2_add := goodIn_r _ [10, 11, 12, 13, 14, 15, 9, 16, 17, 18, 19, 20, 21, 22, 23, 24, 25, 26, 27, 28, 29, 30, 31, 32, 33, 34, 35, 36, 37, 38, 39, 40, 41, 42, 69, 70, 59, 60, 61, 62, 63, 64, 65, 66, 67, 68, 71] (by decide +kernel) (by decide +kernel)
set_option maxRecDepth 20000 in
theorem gX5_move_X2_add : GoodIn wsX5_move (wsV RX5 55 RX2 yX2_add wsX2_add) := goodIn_app (goodIn_of _ (by decide +kernel)) ggX5_move_X2_add
set_option maxRecDepth 20000 in
theorem ggX5_move_X0_pegsOtherThan : GoodIn wsX5_move wsX0_pegsOtherThan := goodIn_r _ [46, 22, 47, 48, 49, 50, 51, 52, 53, 59, 60, 61, 62, 63, 64, 65, 66, 67, 68] (by decide +kernel) (by decide +kernel)
set_option maxRecDepth 20000 in
theorem gX5_move_X0_pegsOtherThan : GoodIn wsX5_move (wsV RX5 74 RX0 yX0_pegsOtherThan wsX0_pegsOtherThan) := goodIn_app (goodIn_of _ (by decide +kernel)) ggX5_move_X0_pegsOtherThan
theorem dX5_move_0 : decode cX5_move 0 = .ok (.iload_n 1, 1) := by decide +kernel
theorem dX5_move_1 : decode cX5_move 1 = .ok (.iconst 1, 1) := by decide +kernel
theorem dX5_move_2 : decode cX5_move 2 = .ok (.if_icmp .lt 9, 3) := by decide +kernel
theorem dX5_move_5 : decode cX5_move 5 = .ok (.iload_n 1, 1) := by decide +kernel
theorem dX5_move_6 : decode cX5_move 6 = .ok (.bipush 32, 2) := by decide +kernel
theorem dX5_move_8 : decode cX5_move 8 = .ok (.if_icmp .lt 13, 3) := by decide +kernel
theorem dX5_move_11 : decode cX5_move 11 = .ok (.new 69, 3) := by decide +kernel
theorem dX5_move_14 : decode cX5_move 14 = .ok (.dup, 1) := by decide +kernel
theorem dX5_move_15 : decode cX5_move 15 = .ok (.ldc 101, 2) := by decide +kernel
theorem dX5_move_17 : decode cX5_move 17 = .ok (.invokespecial 73, 3) := by decide +kernel
theorem dX5_move_20 : decode cX5_move 20 = .ok (.athrow, 1) := by decide +kernel
theorem dX5_move_21 : decode cX5_move 21 = .ok (.aload_n 0, 1) := by decide +kernel
theorem dX5_move_22 : decode cX5_move 22 = .ok (.getfield 33, 3) := by decide +kernel
theorem dX5_move_25 : decode cX5_move 25 = .ok (.aload_n 0, 1) := by decide +kernel
theorem dX5_move_26 : decode cX5_move 26 = .ok (.getfield 10, 3) := by decide +kernel
theorem dX5_move_29 : decode cX5_move 29 = .ok (.invokevirtual 55, 3) := by decide +kernel
theorem dX5_move_32 : decode cX5_move 32 = .ok (.astore_n 2, 1) := by decide +kernel
theorem dX5_move_33 : decode cX5_move 33 = .ok (.iconst 0, 1) := by decide +kernel
theorem dX5_move_34 : decode cX5_move 34 = .ok (.istore_n 3, 1) := by decide +kernel
theorem dX5_move_35 : decode cX5_move 35 = .ok (.iload_n 3, 1) := by decide +kernel
theorem dX5_move_36 : decode cX5_move 36 = .ok (.bipush 32, 2) := by decide +kernel
theorem dX5_move_38 : decode cX5_move 38 = .ok (.if_icmp .ge 29, 3) := by decide +kernel
theorem dX5_move_41 : decode cX5_move 41 = .ok (.aload_n 0, 1) := by decide +kernel
theorem dX5_move_42 : decode cX5_move 42 = .ok (.getfield 10, 3) := by decide +kernel
theorem dX5_move_45 : decode cX5_move 45 = .ok (.getfield 59, 3) := by decide +kernel
theorem dX5_move_48 : decode cX5_move 48 = .ok (.iload_n 3, 1) := by decide +kernel
theorem dX5_move_49 : decode cX5_move 49 = .ok (.iload_n 1, 1) := by decide +kernel
theorem dX5_move_50 : decode cX5_move 50 = .ok (.iadd, 1) := by decide +kernel
theorem dX5_move_51 : decode cX5_move 51 = .ok (.bipush 32, 2) := by decide +kernel
theorem dX5_move_53 : decode cX5_move 53 = .ok (.irem, 1) := by decide +kernel
theorem dX5_move_54 : decode cX5_move 54 = .ok (.aload_n 2, 1) := by decide +kernel
theorem dX5_move_55 : decode cX5_move 55 = .ok (.getfield 59, 3) := by decide +kernel
theorem dX5_move_58 : decode cX5_move 58 = .ok (.iload_n 3, 1) := by decide +kernel
theorem dX5_move_59 : decode cX5_move 59 = .ok (.iaload, 1) := by decide +kernel
theorem dX5_move_60 : decode cX5_move 60 = .ok (.iastore, 1) := by decide +kernel
theorem dX5_move_61 : decode cX5_move 61 = .ok (.iinc 3 1, 3) := by decide +kernel
theorem dX5_move_64 : decode cX5_move 64 = .ok (.goto (-29), 3) := by decide +kernel
theorem dX5_move_67 : decode cX5_move 67 = .ok (.aload_n 0, 1) := by decide +kernel
theorem dX5_move_68 : decode cX5_move 68 = .ok (.getfield 10, 3) := by decide +kernel
theorem dX5_move_71 : decode cX5_move 71 = .ok (.aload_n 2, 1) := by decide +kernel
theorem dX5_move_72 : decode cX5_move 72 = .ok (.invokevirtual 74, 3) := by decide +kernel
theorem dX5_move_75 : decode cX5_move 75 = .ok (.ireturn, 1) := by decide +kernel
set_option maxRecDepth 20000 in
theorem ggX5_raise_X2_add : GoodIn wsX5_raise wsX2_add := goodIn_r _ [8, 9, 10, 11, 12, 13, 7, 14, 15, 16, 17, 18, 19, 20, 21, 22, 23, 24, 25, 26, 27, 28, 29, 30, 31, 32, 33, 34, 35, 36, 37, 38, 39, 40, 60, 61, 50, 51, 52, 53, 54, 55, 56, 57, 58, 59, 62] (by decide +kernel) (by decide +kernel)
set_option maxRecDepth 20000 in
theorem gX5_raise_X2_add : GoodIn wsX5_raise (wsV RX5 55 RX2 yX2_add wsX2_add) := goodIn_app (goodIn_of _ (by decide +kernel)) ggX5_raise_X2_add
set_option maxRecDepth 20000 in
theorem ggX5_raise_X5_holds : GoodIn wsX5_raise wsX5_holds := goodIn_r _ [44] (by decide +kernel) (by decide +kernel)
set_option maxRecDepth 20000 in
theorem gX5_raise_X5_holds : GoodIn wsX5_raise (va_wsS RX5 63 yX5_holds wsX5_holds) := goodIn_app (goodIn_of _ (by decide +kernel)) ggX5_raise_X5_holds
theorem dX5_raise_0 : decode cX5_raise 0 = .ok (.aload_n 0, 1) := by decide +kernel
theorem dX5_raise_1 : decode cX5_raise 1 = .ok (.getfield 33, 3) := by decide +kernel
theorem dX5_raise_4 : decode cX5_raise 4 = .ok (.aload_n 0, 1) := by decide +kernel
theorem dX5_raise_5 : decode cX5_raise 5 = .ok (.getfield 10, 3) := by decide +kernel
theorem dX5_raise_8 : decode cX5_raise 8 = .ok (.invokevirtual 55, 3) := by decide +kernel
theorem dX5_raise_11 : decode cX5_raise 11 = .ok (.pop, 1) := by decide +kernel
theorem dX5_raise_12 : decode cX5_raise 12 = .ok (.iconst 0, 1) := by decide +kernel
theorem dX5_raise_13 : decode cX5_raise 13 = .ok (.istore_n 1, 1) := by decide +kernel
theorem dX5_raise_14 : decode cX5_raise 14 = .ok (.iconst 0, 1) := by decide +kernel
theorem dX5_raise_15 : decode cX5_raise 15 = .ok (.istore_n 2, 1) := by decide +kernel
theorem dX5_raise_16 : decode cX5_raise 16 = .ok (.iload_n 2, 1) := by decide +kernel
theorem dX5_raise_17 : decode cX5_raise 17 = .ok (.bipush 32, 2) := by decide +kernel
theorem dX5_raise_19 : decode cX5_raise 19 = .ok (.if_icmp .ge 47, 3) := by decide +kernel
theorem dX5_raise_22 : decode cX5_raise 22 = .ok (.aload_n 0, 1) := by decide +kernel
theorem dX5_raise_23 : decode cX5_raise 23 = .ok (.getfield 10, 3) := by decide +kernel
theorem dX5_raise_26 : decode cX5_raise 26 = .ok (.getfield 59, 3) := by decide +kernel
theorem dX5_raise_29 : decode cX5_raise 29 = .ok (.iload_n 2, 1) := by decide +kernel
theorem dX5_raise_30 : decode cX5_raise 30 = .ok (.iaload, 1) := by decide +kernel
theorem dX5_raise_31 : decode cX5_raise 31 = .ok (.istore_n 3, 1) := by decide +kernel
theorem dX5_raise_32 : decode cX5_raise 32 = .ok (.iload_n 3, 1) := by decide +kernel
theorem dX5_raise_33 : decode cX5_raise 33 = .ok (.bipush 9, 2) := by decide +kernel
theorem dX5_raise_35 : decode cX5_raise 35 = .ok (.invokestatic 63, 3) := by decide +kernel
theorem dX5_raise_38 : decode cX5_raise 38 = .ok (.ifCond .eq 6, 3) := by decide +kernel
theorem dX5_raise_41 : decode cX5_raise 41 = .ok (.iinc 1 1, 3) := by decide +kernel
theorem dX5_raise_44 : decode cX5_raise 44 = .ok (.aload_n 0, 1) := by decide +kernel
theorem dX5_raise_45 : decode cX5_raise 45 = .ok (.getfield 10, 3) := by decide +kernel
theorem dX5_raise_48 : decode cX5_raise 48 = .ok (.getfield 59, 3) := by decide +kernel
theorem dX5_raise_51 : decode cX5_raise 51 = .ok (.iload_n 2, 1) := by decide +kernel
theorem dX5_raise_52 : decode cX5_raise 52 = .ok (.iload_n 3, 1) := by decide +kernel
theorem dX5_raise_53 : decode cX5_raise 53 = .ok (.iconst 1, 1) := by decide +kernel
theorem dX5_raise_54 : decode cX5_raise 54 = .ok (.ishl, 1) := by decide +kernel
theorem dX5_raise_55 : decode cX5_raise 55 = .ok (.sipush 1023, 3) := by decide +kernel
theorem dX5_raise_58 : decode cX5_raise 58 = .ok (.iand, 1) := by decide +kernel
theorem dX5_raise_59 : decode cX5_raise 59 = .ok (.iastore, 1) := by decide +kernel
theorem dX5_raise_60 : decode cX5_raise 60 = .ok (.iinc 2 1, 3) := by decide +kernel
theorem dX5_raise_63 : decode cX5_raise 63 = .ok (.goto (-47), 3) := by decide +kernel
theorem dX5_raise_66 : decode cX5_raise 66 = .ok (.iload_n 1, 1) := by decide +kernel
theorem dX5_raise_67 : decode cX5_raise 67 = .ok (.ireturn, 1) := by decide +kernel
set_option maxRecDepth 20000 in
theorem ggX5_crank_X2_add : GoodIn wsX5_crank wsX2_add := goodIn_r _ [9, 10, 11, 12, 13, 14, 8, 15, 16, 17, 18, 19, 20, 21, 22, 23, 24, 25, 26, 27, 28, 29, 30, 31, 32, 33, 34, 35, 36, 37, 38, 39, 40, 41, 89, 90, 91, 92, 93, 94, 95, 96, 97, 98, 99, 100, 101] (by decide +kernel) (by decide +kernel)
set_option maxRecDepth 20000 in
theorem gX5_crank_X2_add : GoodIn wsX5_crank (wsV RX5 55 RX2 yX2_add wsX2_add) := goodIn_app (goodIn_of _ (by decide +kernel)) ggX5_crank_X2_add
set_option maxRecDepth 20000 in
theorem ggX5_crank_X0_strikeColumns : GoodIn wsX5_crank wsX0_strikeColumns := goodIn_r _ [45, 33, 46, 47, 48, 19, 49, 29, 34, 21, 31, 32, 26, 50, 51, 52, 53, 27, 30, 54, 55, 56, 38, 57, 58, 59, 60, 61, 62, 63, 64, 40, 65, 66, 67, 68, 69, 70, 71, 72, 73, 74, 75, 76, 28, 77, 78, 79, 80, 81, 82, 83, 91, 92, 93, 94, 95, 96, 97, 98, 99, 100, 101] (by decide +kernel) (by decide +kernel)
set_option maxRecDepth 20000 in
theorem gX5_crank_X0_strikeColumns : GoodIn wsX5_crank (wsV RX5 105 RX0 yX0_strikeColumns wsX0_strikeColumns) := goodIn_app (goodIn_of _ (by decide +kernel)) ggX5_crank_X0_strikeColumns
theorem dX5_crank_0 : decode cX5_crank 0 = .ok (.iload_n 1, 1) := by decide +kernel
theorem dX5_crank_1 : decode cX5_crank 1 = .ok (.iconst 1, 1) := by decide +kernel
theorem dX5_crank_2 : decode cX5_crank 2 = .ok (.if_icmp .lt 10, 3) := by decide +kernel
theorem dX5_crank_5 : decode cX5_crank 5 = .ok (.iload_n 1, 1) := by decide +kernel
theorem dX5_crank_6 : decode cX5_crank 6 = .ok (.sipush 200, 3) := by decide +kernel
theorem dX5_crank_9 : decode cX5_crank 9 = .ok (.if_icmp .le 13, 3) := by decide +kernel
theorem dX5_crank_12 : decode cX5_crank 12 = .ok (.new 69, 3) := by decide +kernel
theorem dX5_crank_15 : decode cX5_crank 15 = .ok (.dup, 1) := by decide +kernel
theorem dX5_crank_16 : decode cX5_crank 16 = .ok (.ldc 103, 2) := by decide +kernel
theorem dX5_crank_18 : decode cX5_crank 18 = .ok (.invokespecial 73, 3) := by decide +kernel
theorem dX5_crank_21 : decode cX5_crank 21 = .ok (.athrow, 1) := by decide +kernel
theorem dX5_crank_22 : decode cX5_crank 22 = .ok (.aload_n 0, 1) := by decide +kernel
theorem dX5_crank_23 : decode cX5_crank 23 = .ok (.getfield 33, 3) := by decide +kernel
theorem dX5_crank_26 : decode cX5_crank 26 = .ok (.aload_n 0, 1) := by decide +kernel
theorem dX5_crank_27 : decode cX5_crank 27 = .ok (.getfield 10, 3) := by decide +kernel
theorem dX5_crank_30 : decode cX5_crank 30 = .ok (.invokevirtual 55, 3) := by decide +kernel
theorem dX5_crank_33 : decode cX5_crank 33 = .ok (.pop, 1) := by decide +kernel
theorem dX5_crank_34 : decode cX5_crank 34 = .ok (.aload_n 0, 1) := by decide +kernel
theorem dX5_crank_35 : decode cX5_crank 35 = .ok (.getfield 10, 3) := by decide +kernel
theorem dX5_crank_38 : decode cX5_crank 38 = .ok (.iload_n 1, 1) := by decide +kernel
theorem dX5_crank_39 : decode cX5_crank 39 = .ok (.invokevirtual 105, 3) := by decide +kernel
theorem dX5_crank_42 : decode cX5_crank 42 = .ok (.ireturn, 1) := by decide +kernel
set_option maxRecDepth 20000 in
theorem ggX5_turnBack_X2_add : GoodIn wsX5_turnBack wsX2_add := goodIn_r _ [9, 10, 11, 12, 13, 14, 8, 15, 16, 17, 18, 19, 20, 21, 22, 23, 24, 25, 26, 27, 28, 29, 30, 31, 32, 33, 34, 35, 36, 37, 38, 39, 40, 41, 65, 66, 55, 56, 57, 58, 59, 60, 61, 62, 63, 64, 67] (by decide +kernel) (by decide +kernel)
set_option maxRecDepth 20000 in
theorem gX5_turnBack_X2_add : GoodIn wsX5_turnBack (wsV RX5 55 RX2 yX2_add wsX2_add) := goodIn_app (goodIn_of _ (by decide +kernel)) ggX5_turnBack_X2_add
set_option maxRecDepth 20000 in
theorem ggX5_turnBack_X1_allBack : GoodIn wsX5_turnBack wsX1_allBack := goodIn_r _ [45, 40, 46, 47, 48, 49, 67] (by decide +kernel) (by decide +kernel)
set_option maxRecDepth 20000 in
theorem gX5_turnBack_X1_allBack : GoodIn wsX5_turnBack (wsV RX5 116 RX1 yX1_allBack wsX1_allBack) := goodIn_app (goodIn_of _ (by decide +kernel)) ggX5_turnBack_X1_allBack
theorem dX5_turnBack_0 : decode cX5_turnBack 0 = .ok (.aload_n 0, 1) := by decide +kernel
theorem dX5_turnBack_1 : decode cX5_turnBack 1 = .ok (.getfield 33, 3) := by decide +kernel
theorem dX5_turnBack_4 : decode cX5_turnBack 4 = .ok (.aload_n 0, 1) := by decide +kernel
theorem dX5_turnBack_5 : decode cX5_turnBack 5 = .ok (.getfield 10, 3) := by decide +kernel
theorem dX5_turnBack_8 : decode cX5_turnBack 8 = .ok (.invokevirtual 55, 3) := by decide +kernel
theorem dX5_turnBack_11 : decode cX5_turnBack 11 = .ok (.astore_n 1, 1) := by decide +kernel
theorem dX5_turnBack_12 : decode cX5_turnBack 12 = .ok (.aload_n 0, 1) := by decide +kernel
theorem dX5_turnBack_13 : decode cX5_turnBack 13 = .ok (.getfield 10, 3) := by decide +kernel
theorem dX5_turnBack_16 : decode cX5_turnBack 16 = .ok (.iconst 0, 1) := by decide +kernel
theorem dX5_turnBack_17 : decode cX5_turnBack 17 = .ok (.putfield 109, 3) := by decide +kernel
theorem dX5_turnBack_20 : decode cX5_turnBack 20 = .ok (.aload_n 0, 1) := by decide +kernel
theorem dX5_turnBack_21 : decode cX5_turnBack 21 = .ok (.getfield 10, 3) := by decide +kernel
theorem dX5_turnBack_24 : decode cX5_turnBack 24 = .ok (.getfield 112, 3) := by decide +kernel
theorem dX5_turnBack_27 : decode cX5_turnBack 27 = .ok (.invokevirtual 116, 3) := by decide +kernel
theorem dX5_turnBack_30 : decode cX5_turnBack 30 = .ok (.aload_n 1, 1) := by decide +kernel
theorem dX5_turnBack_31 : decode cX5_turnBack 31 = .ok (.getfield 109, 3) := by decide +kernel
theorem dX5_turnBack_34 : decode cX5_turnBack 34 = .ok (.ireturn, 1) := by decide +kernel
set_option maxRecDepth 20000 in
theorem ggX5_pegsIn_X5_isColumn : GoodIn wsX5_pegsIn wsX5_isColumn := goodIn_r _ [8] (by decide +kernel) (by decide +kernel)
set_option maxRecDepth 20000 in
theorem gX5_pegsIn_X5_isColumn : GoodIn wsX5_pegsIn (va_wsS RX5 41 yX5_isColumn wsX5_isColumn) := goodIn_app (goodIn_of _ (by decide +kernel)) ggX5_pegsIn_X5_isColumn
theorem dX5_pegsIn_0 : decode cX5_pegsIn 0 = .ok (.iload_n 1, 1) := by decide +kernel
theorem dX5_pegsIn_1 : decode cX5_pegsIn 1 = .ok (.invokestatic 41, 3) := by decide +kernel
theorem dX5_pegsIn_4 : decode cX5_pegsIn 4 = .ok (.ifCond .ne 13, 3) := by decide +kernel
theorem dX5_pegsIn_7 : decode cX5_pegsIn 7 = .ok (.new 48, 3) := by decide +kernel
theorem dX5_pegsIn_10 : decode cX5_pegsIn 10 = .ok (.dup, 1) := by decide +kernel
theorem dX5_pegsIn_11 : decode cX5_pegsIn 11 = .ok (.ldc 67, 2) := by decide +kernel
theorem dX5_pegsIn_13 : decode cX5_pegsIn 13 = .ok (.invokespecial 52, 3) := by decide +kernel
theorem dX5_pegsIn_16 : decode cX5_pegsIn 16 = .ok (.athrow, 1) := by decide +kernel
theorem dX5_pegsIn_17 : decode cX5_pegsIn 17 = .ok (.aload_n 0, 1) := by decide +kernel
theorem dX5_pegsIn_18 : decode cX5_pegsIn 18 = .ok (.getfield 10, 3) := by decide +kernel
theorem dX5_pegsIn_21 : decode cX5_pegsIn 21 = .ok (.getfield 59, 3) := by decide +kernel
theorem dX5_pegsIn_24 : decode cX5_pegsIn 24 = .ok (.iload_n 1, 1) := by decide +kernel
theorem dX5_pegsIn_25 : decode cX5_pegsIn 25 = .ok (.iaload, 1) := by decide +kernel
theorem dX5_pegsIn_26 : decode cX5_pegsIn 26 = .ok (.ireturn, 1) := by decide +kernel
set_option maxRecDepth 20000 in
theorem ggX5_pegs_X0_countPegs : GoodIn wsX5_pegs wsX0_countPegs := goodIn_r _ [6, 7, 8, 9, 10, 11, 12, 13, 14, 20, 21, 22, 23, 24, 25, 26, 27, 28, 29] (by decide +kernel) (by decide +kernel)
set_option maxRecDepth 20000 in
theorem gX5_pegs_X0_countPegs : GoodIn wsX5_pegs (wsV RX5 141 RX0 yX0_countPegs wsX0_countPegs) := goodIn_app (goodIn_of _ (by decide +kernel)) ggX5_pegs_X0_countPegs
theorem dX5_pegs_0 : decode cX5_pegs 0 = .ok (.aload_n 0, 1) := by decide +kernel
theorem dX5_pegs_1 : decode cX5_pegs 1 = .ok (.getfield 10, 3) := by decide +kernel
theorem dX5_pegs_4 : decode cX5_pegs 4 = .ok (.invokevirtual 141, 3) := by decide +kernel
theorem dX5_pegs_7 : decode cX5_pegs 7 = .ok (.ireturn, 1) := by decide +kernel
set_option maxRecDepth 20000 in
theorem ggX5_tempoOf_X5_isBar : GoodIn wsX5_tempoOf wsX5_isBar := goodIn_r _ [8] (by decide +kernel) (by decide +kernel)
set_option maxRecDepth 20000 in
theorem gX5_tempoOf_X5_isBar : GoodIn wsX5_tempoOf (va_wsS RX5 78 yX5_isBar wsX5_isBar) := goodIn_app (goodIn_of _ (by decide +kernel)) ggX5_tempoOf_X5_isBar
theorem dX5_tempoOf_0 : decode cX5_tempoOf 0 = .ok (.iload_n 1, 1) := by decide +kernel
theorem dX5_tempoOf_1 : decode cX5_tempoOf 1 = .ok (.invokestatic 78, 3) := by decide +kernel
theorem dX5_tempoOf_4 : decode cX5_tempoOf 4 = .ok (.ifCond .ne 13, 3) := by decide +kernel
theorem dX5_tempoOf_7 : decode cX5_tempoOf 7 = .ok (.new 48, 3) := by decide +kernel
theorem dX5_tempoOf_10 : decode cX5_tempoOf 10 = .ok (.dup, 1) := by decide +kernel
theorem dX5_tempoOf_11 : decode cX5_tempoOf 11 = .ok (.ldc 81, 2) := by decide +kernel
theorem dX5_tempoOf_13 : decode cX5_tempoOf 13 = .ok (.invokespecial 52, 3) := by decide +kernel
theorem dX5_tempoOf_16 : decode cX5_tempoOf 16 = .ok (.athrow, 1) := by decide +kernel
theorem dX5_tempoOf_17 : decode cX5_tempoOf 17 = .ok (.aload_n 0, 1) := by decide +kernel
theorem dX5_tempoOf_18 : decode cX5_tempoOf 18 = .ok (.getfield 10, 3) := by decide +kernel
theorem dX5_tempoOf_21 : decode cX5_tempoOf 21 = .ok (.getfield 85, 3) := by decide +kernel
theorem dX5_tempoOf_24 : decode cX5_tempoOf 24 = .ok (.iload_n 1, 1) := by decide +kernel
theorem dX5_tempoOf_25 : decode cX5_tempoOf 25 = .ok (.iaload, 1) := by decide +kernel
theorem dX5_tempoOf_26 : decode cX5_tempoOf 26 = .ok (.ireturn, 1) := by decide +kernel
set_option maxRecDepth 20000 in
theorem ggX5_weightOf_X5_isBell : GoodIn wsX5_weightOf wsX5_isBell := goodIn_r _ [8] (by decide +kernel) (by decide +kernel)
set_option maxRecDepth 20000 in
theorem gX5_weightOf_X5_isBell : GoodIn wsX5_weightOf (va_wsS RX5 45 yX5_isBell wsX5_isBell) := goodIn_app (goodIn_of _ (by decide +kernel)) ggX5_weightOf_X5_isBell
theorem dX5_weightOf_0 : decode cX5_weightOf 0 = .ok (.iload_n 1, 1) := by decide +kernel
theorem dX5_weightOf_1 : decode cX5_weightOf 1 = .ok (.invokestatic 45, 3) := by decide +kernel
theorem dX5_weightOf_4 : decode cX5_weightOf 4 = .ok (.ifCond .ne 13, 3) := by decide +kernel
theorem dX5_weightOf_7 : decode cX5_weightOf 7 = .ok (.new 48, 3) := by decide +kernel
theorem dX5_weightOf_10 : decode cX5_weightOf 10 = .ok (.dup, 1) := by decide +kernel
theorem dX5_weightOf_11 : decode cX5_weightOf 11 = .ok (.ldc 88, 2) := by decide +kernel
theorem dX5_weightOf_13 : decode cX5_weightOf 13 = .ok (.invokespecial 52, 3) := by decide +kernel
theorem dX5_weightOf_16 : decode cX5_weightOf 16 = .ok (.athrow, 1) := by decide +kernel
theorem dX5_weightOf_17 : decode cX5_weightOf 17 = .ok (.aload_n 0, 1) := by decide +kernel
theorem dX5_weightOf_18 : decode cX5_weightOf 18 = .ok (.getfield 10, 3) := by decide +kernel
theorem dX5_weightOf_21 : decode cX5_weightOf 21 = .ok (.getfield 92, 3) := by decide +kernel
theorem dX5_weightOf_24 : decode cX5_weightOf 24 = .ok (.iload_n 1, 1) := by decide +kernel
theorem dX5_weightOf_25 : decode cX5_weightOf 25 = .ok (.iaload, 1) := by decide +kernel
theorem dX5_weightOf_26 : decode cX5_weightOf 26 = .ok (.ireturn, 1) := by decide +kernel
theorem dX5_column_0 : decode cX5_column 0 = .ok (.aload_n 0, 1) := by decide +kernel
theorem dX5_column_1 : decode cX5_column 1 = .ok (.getfield 10, 3) := by decide +kernel
theorem dX5_column_4 : decode cX5_column 4 = .ok (.getfield 109, 3) := by decide +kernel
theorem dX5_column_7 : decode cX5_column 7 = .ok (.ireturn, 1) := by decide +kernel
theorem dX5_time_0 : decode cX5_time 0 = .ok (.aload_n 0, 1) := by decide +kernel
theorem dX5_time_1 : decode cX5_time 1 = .ok (.getfield 10, 3) := by decide +kernel
theorem dX5_time_4 : decode cX5_time 4 = .ok (.getfield 144, 3) := by decide +kernel
theorem dX5_time_7 : decode cX5_time 7 = .ok (.ireturn, 1) := by decide +kernel
set_option maxRecDepth 20000 in
theorem ggX5_heardOf_X5_isBell : GoodIn wsX5_heardOf wsX5_isBell := goodIn_r _ [8] (by decide +kernel) (by decide +kernel)
set_option maxRecDepth 20000 in
theorem gX5_heardOf_X5_isBell : GoodIn wsX5_heardOf (va_wsS RX5 45 yX5_isBell wsX5_isBell) := goodIn_app (goodIn_of _ (by decide +kernel)) ggX5_heardOf_X5_isBell
theorem dX5_heardOf_0 : decode cX5_heardOf 0 = .ok (.iload_n 1, 1) := by decide +kernel
theorem dX5_heardOf_1 : decode cX5_heardOf 1 = .ok (.invokestatic 45, 3) := by decide +kernel
theorem dX5_heardOf_4 : decode cX5_heardOf 4 = .ok (.ifCond .ne 13, 3) := by decide +kernel
theorem dX5_heardOf_7 : decode cX5_heardOf 7 = .ok (.new 48, 3) := by decide +kernel
theorem dX5_heardOf_10 : decode cX5_heardOf 10 = .ok (.dup, 1) := by decide +kernel
theorem dX5_heardOf_11 : decode cX5_heardOf 11 = .ok (.ldc 88, 2) := by decide +kernel
theorem dX5_heardOf_13 : decode cX5_heardOf 13 = .ok (.invokespecial 52, 3) := by decide +kernel
theorem dX5_heardOf_16 : decode cX5_heardOf 16 = .ok (.athrow, 1) := by decide +kernel
theorem dX5_heardOf_17 : decode cX5_heardOf 17 = .ok (.aload_n 0, 1) := by decide +kernel
theorem dX5_heardOf_18 : decode cX5_heardOf 18 = .ok (.getfield 10, 3) := by decide +kernel
theorem dX5_heardOf_21 : decode cX5_heardOf 21 = .ok (.getfield 147, 3) := by decide +kernel
theorem dX5_heardOf_24 : decode cX5_heardOf 24 = .ok (.iload_n 1, 1) := by decide +kernel
theorem dX5_heardOf_25 : decode cX5_heardOf 25 = .ok (.iaload, 1) := by decide +kernel
theorem dX5_heardOf_26 : decode cX5_heardOf 26 = .ok (.ireturn, 1) := by decide +kernel
set_option maxRecDepth 20000 in
theorem ggX5_heard_X0_sumOfTimesHeard : GoodIn wsX5_heard wsX0_sumOfTimesHeard := goodIn_r _ [7, 8, 14, 15, 16, 17, 18, 19, 20, 21, 22, 23] (by decide +kernel) (by decide +kernel)
set_option maxRecDepth 20000 in
theorem gX5_heard_X0_sumOfTimesHeard : GoodIn wsX5_heard (wsV RX5 150 RX0 yX0_sumOfTimesHeard wsX0_sumOfTimesHeard) := goodIn_app (goodIn_of _ (by decide +kernel)) ggX5_heard_X0_sumOfTimesHeard
theorem dX5_heard_0 : decode cX5_heard 0 = .ok (.iload_n 1, 1) := by decide +kernel
theorem dX5_heard_1 : decode cX5_heard 1 = .ok (.ifCond .eq 13, 3) := by decide +kernel
theorem dX5_heard_4 : decode cX5_heard 4 = .ok (.aload_n 0, 1) := by decide +kernel
theorem dX5_heard_5 : decode cX5_heard 5 = .ok (.getfield 10, 3) := by decide +kernel
theorem dX5_heard_8 : decode cX5_heard 8 = .ok (.invokevirtual 150, 3) := by decide +kernel
theorem dX5_heard_11 : decode cX5_heard 11 = .ok (.goto 10, 3) := by decide +kernel
theorem dX5_heard_14 : decode cX5_heard 14 = .ok (.aload_n 0, 1) := by decide +kernel
theorem dX5_heard_15 : decode cX5_heard 15 = .ok (.getfield 10, 3) := by decide +kernel
theorem dX5_heard_18 : decode cX5_heard 18 = .ok (.getfield 153, 3) := by decide +kernel
theorem dX5_heard_21 : decode cX5_heard 21 = .ok (.ireturn, 1) := by decide +kernel
theorem dX5_missed_0 : decode cX5_missed 0 = .ok (.aload_n 0, 1) := by decide +kernel
theorem dX5_missed_1 : decode cX5_missed 1 = .ok (.getfield 10, 3) := by decide +kernel
theorem dX5_missed_4 : decode cX5_missed 4 = .ok (.getfield 156, 3) := by decide +kernel
theorem dX5_missed_7 : decode cX5_missed 7 = .ok (.ireturn, 1) := by decide +kernel
set_option maxRecDepth 20000 in
theorem ggX5_whyMissed_X5_isBell : GoodIn wsX5_whyMissed wsX5_isBell := goodIn_r _ [11] (by decide +kernel) (by decide +kernel)
set_option maxRecDepth 20000 in
theorem gX5_whyMissed_X5_isBell : GoodIn wsX5_whyMissed (va_wsS RX5 45 yX5_isBell wsX5_isBell) := goodIn_app (goodIn_of _ (by decide +kernel)) ggX5_whyMissed_X5_isBell
set_option maxRecDepth 20000 in
theorem ggX5_whyMissed_X5_holds : GoodIn wsX5_whyMissed wsX5_holds := goodIn_r _ [14] (by decide +kernel) (by decide +kernel)
set_option maxRecDepth 20000 in
theorem gX5_whyMissed_X5_holds : GoodIn wsX5_whyMissed (va_wsS RX5 63 yX5_holds wsX5_holds) := goodIn_app (goodIn_of _ (by decide +kernel)) ggX5_whyMissed_X5_holds
set_option maxRecDepth 20000 in
theorem ggX5_whyMissed_X1_isBack : GoodIn wsX5_whyMissed wsX1_isBack := goodIn_r _ [19, 20, 51] (by decide +kernel) (by decide +kernel)
set_option maxRecDepth 20000 in
theorem gX5_whyMissed_X1_isBack : GoodIn wsX5_whyMissed (wsV RX5 159 RX1 yX1_isBack wsX1_isBack) := goodIn_app (goodIn_of _ (by decide +kernel)) ggX5_whyMissed_X1_isBack
set_option maxRecDepth 20000 in
theorem ggX5_whyMissed_X0_heardAtHand : GoodIn wsX5_whyMissed wsX0_heardAtHand := goodIn_r _ [25, 26, 27, 28, 29, 30, 31, 32, 33, 18, 34, 13, 10, 14, 35, 16, 17, 19, 20, 41, 42, 43, 44, 45, 46, 47, 48, 49, 50, 51] (by decide +kernel) (by decide +kernel)
set_option maxRecDepth 20000 in
theorem gX5_whyMissed_X0_heardAtHand : GoodIn wsX5_whyMissed (wsV RX5 162 RX0 yX0_heardAtHand wsX0_heardAtHand) := goodIn_app (goodIn_of _ (by decide +kernel)) ggX5_whyMissed_X0_heardAtHand
theorem dX5_whyMissed_0 : decode cX5_whyMissed 0 = .ok (.iload_n 1, 1) := by decide +kernel
theorem dX5_whyMissed_1 : decode cX5_whyMissed 1 = .ok (.invokestatic 45, 3) := by decide +kernel
theorem dX5_whyMissed_4 : decode cX5_whyMissed 4 = .ok (.ifCond .ne 13, 3) := by decide +kernel
theorem dX5_whyMissed_7 : decode cX5_whyMissed 7 = .ok (.new 48, 3) := by decide +kernel
theorem dX5_whyMissed_10 : decode cX5_whyMissed 10 = .ok (.dup, 1) := by decide +kernel
theorem dX5_whyMissed_11 : decode cX5_whyMissed 11 = .ok (.ldc 88, 2) := by decide +kernel
theorem dX5_whyMissed_13 : decode cX5_whyMissed 13 = .ok (.invokespecial 52, 3) := by decide +kernel
theorem dX5_whyMissed_16 : decode cX5_whyMissed 16 = .ok (.athrow, 1) := by decide +kernel
theorem dX5_whyMissed_17 : decode cX5_whyMissed 17 = .ok (.aload_n 0, 1) := by decide +kernel
theorem dX5_whyMissed_18 : decode cX5_whyMissed 18 = .ok (.getfield 10, 3) := by decide +kernel
theorem dX5_whyMissed_21 : decode cX5_whyMissed 21 = .ok (.getfield 59, 3) := by decide +kernel
theorem dX5_whyMissed_24 : decode cX5_whyMissed 24 = .ok (.aload_n 0, 1) := by decide +kernel
theorem dX5_whyMissed_25 : decode cX5_whyMissed 25 = .ok (.getfield 10, 3) := by decide +kernel
theorem dX5_whyMissed_28 : decode cX5_whyMissed 28 = .ok (.getfield 109, 3) := by decide +kernel
theorem dX5_whyMissed_31 : decode cX5_whyMissed 31 = .ok (.iaload, 1) := by decide +kernel
theorem dX5_whyMissed_32 : decode cX5_whyMissed 32 = .ok (.iload_n 1, 1) := by decide +kernel
theorem dX5_whyMissed_33 : decode cX5_whyMissed 33 = .ok (.invokestatic 63, 3) := by decide +kernel
theorem dX5_whyMissed_36 : decode cX5_whyMissed 36 = .ok (.ifCond .ne 5, 3) := by decide +kernel
theorem dX5_whyMissed_39 : decode cX5_whyMissed 39 = .ok (.iconst 3, 1) := by decide +kernel
theorem dX5_whyMissed_40 : decode cX5_whyMissed 40 = .ok (.ireturn, 1) := by decide +kernel
theorem dX5_whyMissed_41 : decode cX5_whyMissed 41 = .ok (.aload_n 0, 1) := by decide +kernel
theorem dX5_whyMissed_42 : decode cX5_whyMissed 42 = .ok (.getfield 10, 3) := by decide +kernel
theorem dX5_whyMissed_45 : decode cX5_whyMissed 45 = .ok (.getfield 112, 3) := by decide +kernel
theorem dX5_whyMissed_48 : decode cX5_whyMissed 48 = .ok (.iload_n 1, 1) := by decide +kernel
theorem dX5_whyMissed_49 : decode cX5_whyMissed 49 = .ok (.aload_n 0, 1) := by decide +kernel
theorem dX5_whyMissed_50 : decode cX5_whyMissed 50 = .ok (.getfield 10, 3) := by decide +kernel
theorem dX5_whyMissed_53 : decode cX5_whyMissed 53 = .ok (.getfield 92, 3) := by decide +kernel
theorem dX5_whyMissed_56 : decode cX5_whyMissed 56 = .ok (.iload_n 1, 1) := by decide +kernel
theorem dX5_whyMissed_57 : decode cX5_whyMissed 57 = .ok (.iaload, 1) := by decide +kernel
theorem dX5_whyMissed_58 : decode cX5_whyMissed 58 = .ok (.invokevirtual 159, 3) := by decide +kernel
theorem dX5_whyMissed_61 : decode cX5_whyMissed 61 = .ok (.ifCond .ne 5, 3) := by decide +kernel
theorem dX5_whyMissed_64 : decode cX5_whyMissed 64 = .ok (.iconst 1, 1) := by decide +kernel
theorem dX5_whyMissed_65 : decode cX5_whyMissed 65 = .ok (.ireturn, 1) := by decide +kernel
theorem dX5_whyMissed_66 : decode cX5_whyMissed 66 = .ok (.aload_n 0, 1) := by decide +kernel
theorem dX5_whyMissed_67 : decode cX5_whyMissed 67 = .ok (.getfield 10, 3) := by decide +kernel
theorem dX5_whyMissed_70 : decode cX5_whyMissed 70 = .ok (.invokevirtual 162, 3) := by decide +kernel
theorem dX5_whyMissed_73 : decode cX5_whyMissed 73 = .ok (.iload_n 1, 1) := by decide +kernel
theorem dX5_whyMissed_74 : decode cX5_whyMissed 74 = .ok (.invokestatic 63, 3) := by decide +kernel
theorem dX5_whyMissed_77 : decode cX5_whyMissed 77 = .ok (.ifCond .eq 7, 3) := by decide +kernel
theorem dX5_whyMissed_80 : decode cX5_whyMissed 80 = .ok (.iconst 0, 1) := by decide +kernel
theorem dX5_whyMissed_81 : decode cX5_whyMissed 81 = .ok (.goto 4, 3) := by decide +kernel
theorem dX5_whyMissed_84 : decode cX5_whyMissed 84 = .ok (.iconst 2, 1) := by decide +kernel
theorem dX5_whyMissed_85 : decode cX5_whyMissed 85 = .ok (.ireturn, 1) := by decide +kernel
set_option maxRecDepth 20000 in
theorem ggX5_inRound_X5_isColumn : GoodIn wsX5_inRound wsX5_isColumn := goodIn_r _ [10] (by decide +kernel) (by decide +kernel)
set_option maxRecDepth 20000 in
theorem gX5_inRound_X5_isColumn : GoodIn wsX5_inRound (va_wsS RX5 41 yX5_isColumn wsX5_isColumn) := goodIn_app (goodIn_of _ (by decide +kernel)) ggX5_inRound_X5_isColumn
set_option maxRecDepth 20000 in
theorem ggX5_inRound_X4_play : GoodIn wsX5_inRound wsX4_play := goodIn_r _ [15, 16, 17, 18, 19, 20, 21, 22, 23, 24, 25, 26, 27, 28, 29, 30, 31, 32, 33, 34, 9, 35, 36, 37, 38, 39, 40, 41, 42, 43, 44, 45, 46, 47, 48, 49, 50, 51, 52, 53, 54, 70, 71, 60, 61, 62, 63, 64, 65, 66, 67, 68, 69, 72] (by decide +kernel) (by decide +kernel)
set_option maxRecDepth 20000 in
theorem gX5_inRound_X4_play : GoodIn wsX5_inRound (wsV RX5 165 RX4 yX4_play wsX4_play) := goodIn_app (goodIn_of _ (by decide +kernel)) ggX5_inRound_X4_play
theorem dX5_inRound_0 : decode cX5_inRound 0 = .ok (.iload_n 1, 1) := by decide +kernel
theorem dX5_inRound_1 : decode cX5_inRound 1 = .ok (.invokestatic 41, 3) := by decide +kernel
theorem dX5_inRound_4 : decode cX5_inRound 4 = .ok (.ifCond .ne 13, 3) := by decide +kernel
theorem dX5_inRound_7 : decode cX5_inRound 7 = .ok (.new 48, 3) := by decide +kernel
theorem dX5_inRound_10 : decode cX5_inRound 10 = .ok (.dup, 1) := by decide +kernel
theorem dX5_inRound_11 : decode cX5_inRound 11 = .ok (.ldc 67, 2) := by decide +kernel
theorem dX5_inRound_13 : decode cX5_inRound 13 = .ok (.invokespecial 52, 3) := by decide +kernel
theorem dX5_inRound_16 : decode cX5_inRound 16 = .ok (.athrow, 1) := by decide +kernel
theorem dX5_inRound_17 : decode cX5_inRound 17 = .ok (.aload_n 0, 1) := by decide +kernel
theorem dX5_inRound_18 : decode cX5_inRound 18 = .ok (.getfield 19, 3) := by decide +kernel
theorem dX5_inRound_21 : decode cX5_inRound 21 = .ok (.aload_n 0, 1) := by decide +kernel
theorem dX5_inRound_22 : decode cX5_inRound 22 = .ok (.getfield 10, 3) := by decide +kernel
theorem dX5_inRound_25 : decode cX5_inRound 25 = .ok (.aload_n 0, 1) := by decide +kernel
theorem dX5_inRound_26 : decode cX5_inRound 26 = .ok (.getfield 10, 3) := by decide +kernel
theorem dX5_inRound_29 : decode cX5_inRound 29 = .ok (.getfield 97, 3) := by decide +kernel
theorem dX5_inRound_32 : decode cX5_inRound 32 = .ok (.invokevirtual 165, 3) := by decide +kernel
theorem dX5_inRound_35 : decode cX5_inRound 35 = .ok (.pop, 1) := by decide +kernel
theorem dX5_inRound_36 : decode cX5_inRound 36 = .ok (.aload_n 0, 1) := by decide +kernel
theorem dX5_inRound_37 : decode cX5_inRound 37 = .ok (.getfield 19, 3) := by decide +kernel
theorem dX5_inRound_40 : decode cX5_inRound 40 = .ok (.getfield 169, 3) := by decide +kernel
theorem dX5_inRound_43 : decode cX5_inRound 43 = .ok (.iload_n 1, 1) := by decide +kernel
theorem dX5_inRound_44 : decode cX5_inRound 44 = .ok (.iaload, 1) := by decide +kernel
theorem dX5_inRound_45 : decode cX5_inRound 45 = .ok (.ireturn, 1) := by decide +kernel
set_option maxRecDepth 20000 in
theorem ggX5_heardInRound_X4_play : GoodIn wsX5_heardInRound wsX4_play := goodIn_r _ [8, 9, 10, 11, 12, 13, 14, 15, 16, 17, 18, 19, 20, 21, 22, 23, 24, 25, 26, 27, 28, 29, 30, 31, 32, 33, 34, 35, 36, 37, 38, 39, 40, 41, 42, 43, 44, 45, 46, 47, 48, 68, 69, 58, 59, 60, 61, 62, 63, 64, 65, 66, 67, 70] (by decide +kernel) (by decide +kernel)
set_option maxRecDepth 20000 in
theorem gX5_heardInRound_X4_play : GoodIn wsX5_heardInRound (wsV RX5 165 RX4 yX4_play wsX4_play) := goodIn_app (goodIn_of _ (by decide +kernel)) ggX5_heardInRound_X4_play
set_option maxRecDepth 20000 in
theorem ggX5_heardInRound_X4_sumOfColumns : GoodIn wsX5_heardInRound wsX4_sumOfColumns := goodIn_r _ [52, 12, 42, 43, 44, 45, 46, 47, 48, 68, 69] (by decide +kernel) (by decide +kernel)
set_option maxRecDepth 20000 in
theorem gX5_heardInRound_X4_sumOfColumns : GoodIn wsX5_heardInRound (wsV RX5 172 RX4 yX4_sumOfColumns wsX4_sumOfColumns) := goodIn_app (goodIn_of _ (by decide +kernel)) ggX5_heardInRound_X4_sumOfColumns
theorem dX5_heardInRound_0 : decode cX5_heardInRound 0 = .ok (.aload_n 0, 1) := by decide +kernel
theorem dX5_heardInRound_1 : decode cX5_heardInRound 1 = .ok (.getfield 19, 3) := by decide +kernel
theorem dX5_heardInRound_4 : decode cX5_heardInRound 4 = .ok (.aload_n 0, 1) := by decide +kernel
theorem dX5_heardInRound_5 : decode cX5_heardInRound 5 = .ok (.getfield 10, 3) := by decide +kernel
theorem dX5_heardInRound_8 : decode cX5_heardInRound 8 = .ok (.aload_n 0, 1) := by decide +kernel
theorem dX5_heardInRound_9 : decode cX5_heardInRound 9 = .ok (.getfield 10, 3) := by decide +kernel
theorem dX5_heardInRound_12 : decode cX5_heardInRound 12 = .ok (.getfield 97, 3) := by decide +kernel
theorem dX5_heardInRound_15 : decode cX5_heardInRound 15 = .ok (.invokevirtual 165, 3) := by decide +kernel
theorem dX5_heardInRound_18 : decode cX5_heardInRound 18 = .ok (.istore_n 2, 1) := by decide +kernel
theorem dX5_heardInRound_19 : decode cX5_heardInRound 19 = .ok (.iload_n 1, 1) := by decide +kernel
theorem dX5_heardInRound_20 : decode cX5_heardInRound 20 = .ok (.ifCond .eq 13, 3) := by decide +kernel
theorem dX5_heardInRound_23 : decode cX5_heardInRound 23 = .ok (.aload_n 0, 1) := by decide +kernel
theorem dX5_heardInRound_24 : decode cX5_heardInRound 24 = .ok (.getfield 19, 3) := by decide +kernel
theorem dX5_heardInRound_27 : decode cX5_heardInRound 27 = .ok (.invokevirtual 172, 3) := by decide +kernel
theorem dX5_heardInRound_30 : decode cX5_heardInRound 30 = .ok (.goto 4, 3) := by decide +kernel
theorem dX5_heardInRound_33 : decode cX5_heardInRound 33 = .ok (.iload_n 2, 1) := by decide +kernel
theorem dX5_heardInRound_34 : decode cX5_heardInRound 34 = .ok (.ireturn, 1) := by decide +kernel
set_option maxRecDepth 20000 in
theorem ggX5_ticksOfRound_X0_ticksByBars : GoodIn wsX5_ticksOfRound wsX0_ticksByBars := goodIn_r _ [6, 7, 17, 18, 19, 20, 21, 22, 23, 24, 25, 26] (by decide +kernel) (by decide +kernel)
set_option maxRecDepth 20000 in
theorem gX5_ticksOfRound_X0_ticksByBars : GoodIn wsX5_ticksOfRound (wsV RX5 175 RX0 yX0_ticksByBars wsX0_ticksByBars) := goodIn_app (goodIn_of _ (by decide +kernel)) ggX5_ticksOfRound_X0_ticksByBars
set_option maxRecDepth 20000 in
theorem ggX5_ticksOfRound_X0_ticksByColumns : GoodIn wsX5_ticksOfRound wsX0_ticksByColumns := goodIn_r _ [11, 7, 17, 18, 19, 20, 21, 22, 23, 24, 25, 26] (by decide +kernel) (by decide +kernel)
set_option maxRecDepth 20000 in
theorem gX5_ticksOfRound_X0_ticksByColumns : GoodIn wsX5_ticksOfRound (wsV RX5 178 RX0 yX0_ticksByColumns wsX0_ticksByColumns) := goodIn_app (goodIn_of _ (by decide +kernel)) ggX5_ticksOfRound_X0_ticksByColumns
theorem dX5_ticksOfRound_0 : decode cX5_ticksOfRound 0 = .ok (.iload_n 1, 1) := by decide +kernel
theorem dX5_ticksOfRound_1 : decode cX5_ticksOfRound 1 = .ok (.ifCond .eq 13, 3) := by decide +kernel
theorem dX5_ticksOfRound_4 : decode cX5_ticksOfRound 4 = .ok (.aload_n 0, 1) := by decide +kernel
theorem dX5_ticksOfRound_5 : decode cX5_ticksOfRound 5 = .ok (.getfield 10, 3) := by decide +kernel
theorem dX5_ticksOfRound_8 : decode cX5_ticksOfRound 8 = .ok (.invokevirtual 175, 3) := by decide +kernel
theorem dX5_ticksOfRound_11 : decode cX5_ticksOfRound 11 = .ok (.goto 10, 3) := by decide +kernel
theorem dX5_ticksOfRound_14 : decode cX5_ticksOfRound 14 = .ok (.aload_n 0, 1) := by decide +kernel
theorem dX5_ticksOfRound_15 : decode cX5_ticksOfRound 15 = .ok (.getfield 10, 3) := by decide +kernel
theorem dX5_ticksOfRound_18 : decode cX5_ticksOfRound 18 = .ok (.invokevirtual 178, 3) := by decide +kernel
theorem dX5_ticksOfRound_21 : decode cX5_ticksOfRound 21 = .ok (.ireturn, 1) := by decide +kernel
set_option maxRecDepth 20000 in
theorem ggX5_missedInRound_X0_countPegs : GoodIn wsX5_missedInRound wsX0_countPegs := goodIn_r _ [8, 9, 10, 11, 12, 13, 14, 15, 16, 61, 62, 63, 64, 65, 66, 67, 68, 69, 70] (by decide +kernel) (by decide +kernel)
set_option maxRecDepth 20000 in
theorem gX5_missedInRound_X0_countPegs : GoodIn wsX5_missedInRound (wsV RX5 141 RX0 yX0_countPegs wsX0_countPegs) := goodIn_app (goodIn_of _ (by decide +kernel)) ggX5_missedInRound_X0_countPegs
set_option maxRecDepth 20000 in
theorem ggX5_missedInRound_X4_play : GoodIn wsX5_missedInRound wsX4_play := goodIn_r _ [21, 22, 23, 24, 25, 26, 27, 28, 29, 30, 31, 32, 33, 34, 35, 36, 37, 38, 39, 40, 41, 42, 43, 44, 45, 46, 47, 48, 49, 50, 51, 52, 53, 54, 55, 11, 12, 13, 14, 15, 16, 71, 72, 61, 62, 63, 64, 65, 66, 67, 68, 69, 70, 73] (by decide +kernel) (by decide +kernel)
set_option maxRecDepth 20000 in
theorem gX5_missedInRound_X4_play : GoodIn wsX5_missedInRound (wsV RX5 165 RX4 yX4_play wsX4_play) := goodIn_app (goodIn_of _ (by decide +kernel)) ggX5_missedInRound_X4_play
theorem dX5_missedInRound_0 : decode cX5_missedInRound 0 = .ok (.aload_n 0, 1) := by decide +kernel
theorem dX5_missedInRound_1 : decode cX5_missedInRound 1 = .ok (.getfield 10, 3) := by decide +kernel
theorem dX5_missedInRound_4 : decode cX5_missedInRound 4 = .ok (.invokevirtual 141, 3) := by decide +kernel
theorem dX5_missedInRound_7 : decode cX5_missedInRound 7 = .ok (.aload_n 0, 1) := by decide +kernel
theorem dX5_missedInRound_8 : decode cX5_missedInRound 8 = .ok (.getfield 19, 3) := by decide +kernel
theorem dX5_missedInRound_11 : decode cX5_missedInRound 11 = .ok (.aload_n 0, 1) := by decide +kernel
theorem dX5_missedInRound_12 : decode cX5_missedInRound 12 = .ok (.getfield 10, 3) := by decide +kernel
theorem dX5_missedInRound_15 : decode cX5_missedInRound 15 = .ok (.aload_n 0, 1) := by decide +kernel
theorem dX5_missedInRound_16 : decode cX5_missedInRound 16 = .ok (.getfield 10, 3) := by decide +kernel
theorem dX5_missedInRound_19 : decode cX5_missedInRound 19 = .ok (.getfield 97, 3) := by decide +kernel
theorem dX5_missedInRound_22 : decode cX5_missedInRound 22 = .ok (.invokevirtual 165, 3) := by decide +kernel
theorem dX5_missedInRound_25 : decode cX5_missedInRound 25 = .ok (.isub, 1) := by decide +kernel
theorem dX5_missedInRound_26 : decode cX5_missedInRound 26 = .ok (.ireturn, 1) := by decide +kernel
set_option maxRecDepth 20000 in
theorem ggX5_busiest_X4_play : GoodIn wsX5_busiest wsX4_play := goodIn_r _ [8, 9, 10, 11, 12, 13, 14, 15, 16, 17, 18, 19, 20, 21, 22, 23, 24, 25, 26, 27, 28, 29, 30, 31, 32, 33, 34, 35, 36, 37, 38, 39, 40, 41, 42, 43, 44, 45, 46, 47, 48, 68, 69, 58, 59, 60, 61, 62, 63, 64, 65, 66, 67, 70] (by decide +kernel) (by decide +kernel)
set_option maxRecDepth 20000 in
theorem gX5_busiest_X4_play : GoodIn wsX5_busiest (wsV RX5 165 RX4 yX4_play wsX4_play) := goodIn_app (goodIn_of _ (by decide +kernel)) ggX5_busiest_X4_play
set_option maxRecDepth 20000 in
theorem ggX5_busiest_X4_timesHeard : GoodIn wsX5_busiest wsX4_timesHeard := goodIn_r _ [52, 12, 27, 28, 29, 68, 69] (by decide +kernel) (by decide +kernel)
set_option maxRecDepth 20000 in
theorem gX5_busiest_X4_timesHeard : GoodIn wsX5_busiest (wsV RX5 181 RX4 yX4_timesHeard wsX4_timesHeard) := goodIn_app (goodIn_of _ (by decide +kernel)) ggX5_busiest_X4_timesHeard
theorem dX5_busiest_0 : decode cX5_busiest 0 = .ok (.aload_n 0, 1) := by decide +kernel
theorem dX5_busiest_1 : decode cX5_busiest 1 = .ok (.getfield 19, 3) := by decide +kernel
theorem dX5_busiest_4 : decode cX5_busiest 4 = .ok (.aload_n 0, 1) := by decide +kernel
theorem dX5_busiest_5 : decode cX5_busiest 5 = .ok (.getfield 10, 3) := by decide +kernel
theorem dX5_busiest_8 : decode cX5_busiest 8 = .ok (.aload_n 0, 1) := by decide +kernel
theorem dX5_busiest_9 : decode cX5_busiest 9 = .ok (.getfield 10, 3) := by decide +kernel
theorem dX5_busiest_12 : decode cX5_busiest 12 = .ok (.getfield 97, 3) := by decide +kernel
theorem dX5_busiest_15 : decode cX5_busiest 15 = .ok (.invokevirtual 165, 3) := by decide +kernel
theorem dX5_busiest_18 : decode cX5_busiest 18 = .ok (.pop, 1) := by decide +kernel
theorem dX5_busiest_19 : decode cX5_busiest 19 = .ok (.iconst (-1), 1) := by decide +kernel
theorem dX5_busiest_20 : decode cX5_busiest 20 = .ok (.istore_n 1, 1) := by decide +kernel
theorem dX5_busiest_21 : decode cX5_busiest 21 = .ok (.iconst 0, 1) := by decide +kernel
theorem dX5_busiest_22 : decode cX5_busiest 22 = .ok (.istore_n 2, 1) := by decide +kernel
theorem dX5_busiest_23 : decode cX5_busiest 23 = .ok (.iconst 0, 1) := by decide +kernel
theorem dX5_busiest_24 : decode cX5_busiest 24 = .ok (.istore_n 3, 1) := by decide +kernel
theorem dX5_busiest_25 : decode cX5_busiest 25 = .ok (.iload_n 3, 1) := by decide +kernel
theorem dX5_busiest_26 : decode cX5_busiest 26 = .ok (.bipush 10, 2) := by decide +kernel
theorem dX5_busiest_28 : decode cX5_busiest 28 = .ok (.if_icmp .ge 30, 3) := by decide +kernel
theorem dX5_busiest_31 : decode cX5_busiest 31 = .ok (.aload_n 0, 1) := by decide +kernel
theorem dX5_busiest_32 : decode cX5_busiest 32 = .ok (.getfield 19, 3) := by decide +kernel
theorem dX5_busiest_35 : decode cX5_busiest 35 = .ok (.iload_n 3, 1) := by decide +kernel
theorem dX5_busiest_36 : decode cX5_busiest 36 = .ok (.invokevirtual 181, 3) := by decide +kernel
theorem dX5_busiest_39 : decode cX5_busiest 39 = .ok (.istore 4, 2) := by decide +kernel
theorem dX5_busiest_41 : decode cX5_busiest 41 = .ok (.iload 4, 2) := by decide +kernel
theorem dX5_busiest_43 : decode cX5_busiest 43 = .ok (.iload_n 2, 1) := by decide +kernel
theorem dX5_busiest_44 : decode cX5_busiest 44 = .ok (.if_icmp .le 8, 3) := by decide +kernel
theorem dX5_busiest_47 : decode cX5_busiest 47 = .ok (.iload 4, 2) := by decide +kernel
theorem dX5_busiest_49 : decode cX5_busiest 49 = .ok (.istore_n 2, 1) := by decide +kernel
theorem dX5_busiest_50 : decode cX5_busiest 50 = .ok (.iload_n 3, 1) := by decide +kernel
theorem dX5_busiest_51 : decode cX5_busiest 51 = .ok (.istore_n 1, 1) := by decide +kernel
theorem dX5_busiest_52 : decode cX5_busiest 52 = .ok (.iinc 3 1, 3) := by decide +kernel
theorem dX5_busiest_55 : decode cX5_busiest 55 = .ok (.goto (-30), 3) := by decide +kernel
theorem dX5_busiest_58 : decode cX5_busiest 58 = .ok (.iload_n 1, 1) := by decide +kernel
theorem dX5_busiest_59 : decode cX5_busiest 59 = .ok (.ireturn, 1) := by decide +kernel
set_option maxRecDepth 20000 in
theorem ggX5_longestSilence_X4_play : GoodIn wsX5_longestSilence wsX4_play := goodIn_r _ [13, 14, 15, 16, 17, 18, 19, 20, 21, 22, 23, 24, 25, 26, 27, 28, 29, 30, 31, 32, 33, 34, 35, 36, 37, 38, 39, 40, 41, 42, 43, 44, 7, 45, 46, 47, 48, 49, 50, 51, 52, 68, 69, 58, 59, 60, 61, 62, 63, 64, 65, 66, 67, 70] (by decide +kernel) (by decide +kernel)
set_option maxRecDepth 20000 in
theorem gX5_longestSilence_X4_play : GoodIn wsX5_longestSilence (wsV RX5 165 RX4 yX4_play wsX4_play) := goodIn_app (goodIn_of _ (by decide +kernel)) ggX5_longestSilence_X4_play
theorem dX5_longestSilence_0 : decode cX5_longestSilence 0 = .ok (.aload_n 0, 1) := by decide +kernel
theorem dX5_longestSilence_1 : decode cX5_longestSilence 1 = .ok (.getfield 19, 3) := by decide +kernel
theorem dX5_longestSilence_4 : decode cX5_longestSilence 4 = .ok (.aload_n 0, 1) := by decide +kernel
theorem dX5_longestSilence_5 : decode cX5_longestSilence 5 = .ok (.getfield 10, 3) := by decide +kernel
theorem dX5_longestSilence_8 : decode cX5_longestSilence 8 = .ok (.aload_n 0, 1) := by decide +kernel
theorem dX5_longestSilence_9 : decode cX5_longestSilence 9 = .ok (.getfield 10, 3) := by decide +kernel
theorem dX5_longestSilence_12 : decode cX5_longestSilence 12 = .ok (.getfield 97, 3) := by decide +kernel
theorem dX5_longestSilence_15 : decode cX5_longestSilence 15 = .ok (.invokevirtual 165, 3) := by decide +kernel
theorem dX5_longestSilence_18 : decode cX5_longestSilence 18 = .ok (.pop, 1) := by decide +kernel
theorem dX5_longestSilence_19 : decode cX5_longestSilence 19 = .ok (.iconst 0, 1) := by decide +kernel
theorem dX5_longestSilence_20 : decode cX5_longestSilence 20 = .ok (.istore_n 1, 1) := by decide +kernel
theorem dX5_longestSilence_21 : decode cX5_longestSilence 21 = .ok (.iconst 0, 1) := by decide +kernel
theorem dX5_longestSilence_22 : decode cX5_longestSilence 22 = .ok (.istore_n 2, 1) := by decide +kernel
theorem dX5_longestSilence_23 : decode cX5_longestSilence 23 = .ok (.iconst 0, 1) := by decide +kernel
theorem dX5_longestSilence_24 : decode cX5_longestSilence 24 = .ok (.istore_n 3, 1) := by decide +kernel
theorem dX5_longestSilence_25 : decode cX5_longestSilence 25 = .ok (.iload_n 3, 1) := by decide +kernel
theorem dX5_longestSilence_26 : decode cX5_longestSilence 26 = .ok (.bipush 32, 2) := by decide +kernel
theorem dX5_longestSilence_28 : decode cX5_longestSilence 28 = .ok (.if_icmp .ge 35, 3) := by decide +kernel
theorem dX5_longestSilence_31 : decode cX5_longestSilence 31 = .ok (.aload_n 0, 1) := by decide +kernel
theorem dX5_longestSilence_32 : decode cX5_longestSilence 32 = .ok (.getfield 19, 3) := by decide +kernel
theorem dX5_longestSilence_35 : decode cX5_longestSilence 35 = .ok (.getfield 169, 3) := by decide +kernel
theorem dX5_longestSilence_38 : decode cX5_longestSilence 38 = .ok (.iload_n 3, 1) := by decide +kernel
theorem dX5_longestSilence_39 : decode cX5_longestSilence 39 = .ok (.iaload, 1) := by decide +kernel
theorem dX5_longestSilence_40 : decode cX5_longestSilence 40 = .ok (.ifCond .ne 9, 3) := by decide +kernel
theorem dX5_longestSilence_43 : decode cX5_longestSilence 43 = .ok (.iload_n 2, 1) := by decide +kernel
theorem dX5_longestSilence_44 : decode cX5_longestSilence 44 = .ok (.iconst 1, 1) := by decide +kernel
theorem dX5_longestSilence_45 : decode cX5_longestSilence 45 = .ok (.iadd, 1) := by decide +kernel
theorem dX5_longestSilence_46 : decode cX5_longestSilence 46 = .ok (.goto 4, 3) := by decide +kernel
theorem dX5_longestSilence_49 : decode cX5_longestSilence 49 = .ok (.iconst 0, 1) := by decide +kernel
theorem dX5_longestSilence_50 : decode cX5_longestSilence 50 = .ok (.istore_n 2, 1) := by decide +kernel
theorem dX5_longestSilence_51 : decode cX5_longestSilence 51 = .ok (.iload_n 1, 1) := by decide +kernel
theorem dX5_longestSilence_52 : decode cX5_longestSilence 52 = .ok (.iload_n 2, 1) := by decide +kernel
theorem dX5_longestSilence_53 : decode cX5_longestSilence 53 = .ok (.invokestatic 183, 3) := by decide +kernel
theorem dX5_longestSilence_56 : decode cX5_longestSilence 56 = .ok (.istore_n 1, 1) := by decide +kernel
theorem dX5_longestSilence_57 : decode cX5_longestSilence 57 = .ok (.iinc 3 1, 3) := by decide +kernel
theorem dX5_longestSilence_60 : decode cX5_longestSilence 60 = .ok (.goto (-35), 3) := by decide +kernel
theorem dX5_longestSilence_63 : decode cX5_longestSilence 63 = .ok (.iload_n 1, 1) := by decide +kernel
theorem dX5_longestSilence_64 : decode cX5_longestSilence 64 = .ok (.ireturn, 1) := by decide +kernel
set_option maxRecDepth 20000 in
theorem ggX5_enoughBound_X4_play : GoodIn wsX5_enoughBound wsX4_play := goodIn_r _ [12, 13, 14, 15, 16, 17, 18, 19, 20, 21, 22, 23, 24, 25, 26, 27, 28, 29, 30, 31, 32, 33, 34, 35, 36, 37, 38, 39, 40, 41, 42, 43, 6, 44, 45, 46, 47, 48, 49, 50, 51, 63, 64, 65, 66, 67, 68, 69, 70, 71, 72, 73, 74, 75] (by decide +kernel) (by decide +kernel)
set_option maxRecDepth 20000 in
theorem gX5_enoughBound_X4_play : GoodIn wsX5_enoughBound (wsV RX5 165 RX4 yX4_play wsX4_play) := goodIn_app (goodIn_of _ (by decide +kernel)) ggX5_enoughBound_X4_play
set_option maxRecDepth 20000 in
theorem ggX5_enoughBound_X0_weightOfAll : GoodIn wsX5_enoughBound wsX0_weightOfAll := goodIn_r _ [56, 57, 31, 32, 33, 65, 66, 67, 68, 69, 70, 71, 72, 73, 74] (by decide +kernel) (by decide +kernel)
set_option maxRecDepth 20000 in
theorem gX5_enoughBound_X0_weightOfAll : GoodIn wsX5_enoughBound (wsV RX5 188 RX0 yX0_weightOfAll wsX0_weightOfAll) := goodIn_app (goodIn_of _ (by decide +kernel)) ggX5_enoughBound_X0_weightOfAll
theorem dX5_enoughBound_0 : decode cX5_enoughBound 0 = .ok (.aload_n 0, 1) := by decide +kernel
theorem dX5_enoughBound_1 : decode cX5_enoughBound 1 = .ok (.getfield 19, 3) := by decide +kernel
theorem dX5_enoughBound_4 : decode cX5_enoughBound 4 = .ok (.aload_n 0, 1) := by decide +kernel
theorem dX5_enoughBound_5 : decode cX5_enoughBound 5 = .ok (.getfield 10, 3) := by decide +kernel
theorem dX5_enoughBound_8 : decode cX5_enoughBound 8 = .ok (.sipush 601, 3) := by decide +kernel
theorem dX5_enoughBound_11 : decode cX5_enoughBound 11 = .ok (.invokevirtual 165, 3) := by decide +kernel
theorem dX5_enoughBound_14 : decode cX5_enoughBound 14 = .ok (.pop, 1) := by decide +kernel
theorem dX5_enoughBound_15 : decode cX5_enoughBound 15 = .ok (.iconst 1, 1) := by decide +kernel
theorem dX5_enoughBound_16 : decode cX5_enoughBound 16 = .ok (.istore_n 1, 1) := by decide +kernel
theorem dX5_enoughBound_17 : decode cX5_enoughBound 17 = .ok (.iconst 0, 1) := by decide +kernel
theorem dX5_enoughBound_18 : decode cX5_enoughBound 18 = .ok (.istore_n 2, 1) := by decide +kernel
theorem dX5_enoughBound_19 : decode cX5_enoughBound 19 = .ok (.iload_n 2, 1) := by decide +kernel
theorem dX5_enoughBound_20 : decode cX5_enoughBound 20 = .ok (.bipush 32, 2) := by decide +kernel
theorem dX5_enoughBound_22 : decode cX5_enoughBound 22 = .ok (.if_icmp .ge 30, 3) := by decide +kernel
theorem dX5_enoughBound_25 : decode cX5_enoughBound 25 = .ok (.iload_n 1, 1) := by decide +kernel
theorem dX5_enoughBound_26 : decode cX5_enoughBound 26 = .ok (.aload_n 0, 1) := by decide +kernel
theorem dX5_enoughBound_27 : decode cX5_enoughBound 27 = .ok (.getfield 10, 3) := by decide +kernel
theorem dX5_enoughBound_30 : decode cX5_enoughBound 30 = .ok (.aload_n 0, 1) := by decide +kernel
theorem dX5_enoughBound_31 : decode cX5_enoughBound 31 = .ok (.getfield 19, 3) := by decide +kernel
theorem dX5_enoughBound_34 : decode cX5_enoughBound 34 = .ok (.getfield 169, 3) := by decide +kernel
theorem dX5_enoughBound_37 : decode cX5_enoughBound 37 = .ok (.iload_n 2, 1) := by decide +kernel
theorem dX5_enoughBound_38 : decode cX5_enoughBound 38 = .ok (.iaload, 1) := by decide +kernel
theorem dX5_enoughBound_39 : decode cX5_enoughBound 39 = .ok (.invokevirtual 188, 3) := by decide +kernel
theorem dX5_enoughBound_42 : decode cX5_enoughBound 42 = .ok (.invokestatic 183, 3) := by decide +kernel
theorem dX5_enoughBound_45 : decode cX5_enoughBound 45 = .ok (.istore_n 1, 1) := by decide +kernel
theorem dX5_enoughBound_46 : decode cX5_enoughBound 46 = .ok (.iinc 2 1, 3) := by decide +kernel
theorem dX5_enoughBound_49 : decode cX5_enoughBound 49 = .ok (.goto (-30), 3) := by decide +kernel
theorem dX5_enoughBound_52 : decode cX5_enoughBound 52 = .ok (.iload_n 1, 1) := by decide +kernel
theorem dX5_enoughBound_53 : decode cX5_enoughBound 53 = .ok (.sipush 300, 3) := by decide +kernel
theorem dX5_enoughBound_56 : decode cX5_enoughBound 56 = .ok (.if_icmp .gt 7, 3) := by decide +kernel
theorem dX5_enoughBound_59 : decode cX5_enoughBound 59 = .ok (.iload_n 1, 1) := by decide +kernel
theorem dX5_enoughBound_60 : decode cX5_enoughBound 60 = .ok (.goto 4, 3) := by decide +kernel
theorem dX5_enoughBound_63 : decode cX5_enoughBound 63 = .ok (.iconst (-1), 1) := by decide +kernel
theorem dX5_enoughBound_64 : decode cX5_enoughBound 64 = .ok (.ireturn, 1) := by decide +kernel
set_option maxRecDepth 20000 in
theorem ggX5_heaviestColumn_X4_play : GoodIn wsX5_heaviestColumn wsX4_play := goodIn_r _ [9, 10, 11, 12, 13, 14, 15, 16, 17, 18, 19, 20, 21, 22, 23, 24, 25, 26, 27, 28, 29, 30, 31, 32, 33, 34, 35, 36, 37, 38, 39, 40, 41, 42, 43, 44, 45, 46, 47, 48, 49, 71, 72, 61, 62, 63, 64, 65, 66, 67, 68, 69, 70, 73] (by decide +kernel) (by decide +kernel)
set_option maxRecDepth 20000 in
theorem gX5_heaviestColumn_X4_play : GoodIn wsX5_heaviestColumn (wsV RX5 165 RX4 yX4_play wsX4_play) := goodIn_app (goodIn_of _ (by decide +kernel)) ggX5_heaviestColumn_X4_play
set_option maxRecDepth 20000 in
theorem ggX5_heaviestColumn_X0_weightOfAll : GoodIn wsX5_heaviestColumn wsX0_weightOfAll := goodIn_r _ [54, 55, 28, 29, 30, 61, 62, 63, 64, 65, 66, 67, 68, 69, 70] (by decide +kernel) (by decide +kernel)
set_option maxRecDepth 20000 in
theorem gX5_heaviestColumn_X0_weightOfAll : GoodIn wsX5_heaviestColumn (wsV RX5 188 RX0 yX0_weightOfAll wsX0_weightOfAll) := goodIn_app (goodIn_of _ (by decide +kernel)) ggX5_heaviestColumn_X0_weightOfAll
theorem dX5_heaviestColumn_0 : decode cX5_heaviestColumn 0 = .ok (.aload_n 0, 1) := by decide +kernel
theorem dX5_heaviestColumn_1 : decode cX5_heaviestColumn 1 = .ok (.getfield 19, 3) := by decide +kernel
theorem dX5_heaviestColumn_4 : decode cX5_heaviestColumn 4 = .ok (.aload_n 0, 1) := by decide +kernel
theorem dX5_heaviestColumn_5 : decode cX5_heaviestColumn 5 = .ok (.getfield 10, 3) := by decide +kernel
theorem dX5_heaviestColumn_8 : decode cX5_heaviestColumn 8 = .ok (.aload_n 0, 1) := by decide +kernel
theorem dX5_heaviestColumn_9 : decode cX5_heaviestColumn 9 = .ok (.getfield 10, 3) := by decide +kernel
theorem dX5_heaviestColumn_12 : decode cX5_heaviestColumn 12 = .ok (.getfield 97, 3) := by decide +kernel
theorem dX5_heaviestColumn_15 : decode cX5_heaviestColumn 15 = .ok (.invokevirtual 165, 3) := by decide +kernel
theorem dX5_heaviestColumn_18 : decode cX5_heaviestColumn 18 = .ok (.pop, 1) := by decide +kernel
theorem dX5_heaviestColumn_19 : decode cX5_heaviestColumn 19 = .ok (.iconst (-1), 1) := by decide +kernel
theorem dX5_heaviestColumn_20 : decode cX5_heaviestColumn 20 = .ok (.istore_n 1, 1) := by decide +kernel
theorem dX5_heaviestColumn_21 : decode cX5_heaviestColumn 21 = .ok (.iconst 0, 1) := by decide +kernel
theorem dX5_heaviestColumn_22 : decode cX5_heaviestColumn 22 = .ok (.istore_n 2, 1) := by decide +kernel
theorem dX5_heaviestColumn_23 : decode cX5_heaviestColumn 23 = .ok (.iconst 0, 1) := by decide +kernel
theorem dX5_heaviestColumn_24 : decode cX5_heaviestColumn 24 = .ok (.istore_n 3, 1) := by decide +kernel
theorem dX5_heaviestColumn_25 : decode cX5_heaviestColumn 25 = .ok (.iload_n 3, 1) := by decide +kernel
theorem dX5_heaviestColumn_26 : decode cX5_heaviestColumn 26 = .ok (.bipush 32, 2) := by decide +kernel
theorem dX5_heaviestColumn_28 : decode cX5_heaviestColumn 28 = .ok (.if_icmp .ge 38, 3) := by decide +kernel
theorem dX5_heaviestColumn_31 : decode cX5_heaviestColumn 31 = .ok (.aload_n 0, 1) := by decide +kernel
theorem dX5_heaviestColumn_32 : decode cX5_heaviestColumn 32 = .ok (.getfield 10, 3) := by decide +kernel
theorem dX5_heaviestColumn_35 : decode cX5_heaviestColumn 35 = .ok (.aload_n 0, 1) := by decide +kernel
theorem dX5_heaviestColumn_36 : decode cX5_heaviestColumn 36 = .ok (.getfield 19, 3) := by decide +kernel
theorem dX5_heaviestColumn_39 : decode cX5_heaviestColumn 39 = .ok (.getfield 169, 3) := by decide +kernel
theorem dX5_heaviestColumn_42 : decode cX5_heaviestColumn 42 = .ok (.iload_n 3, 1) := by decide +kernel
theorem dX5_heaviestColumn_43 : decode cX5_heaviestColumn 43 = .ok (.iaload, 1) := by decide +kernel
theorem dX5_heaviestColumn_44 : decode cX5_heaviestColumn 44 = .ok (.invokevirtual 188, 3) := by decide +kernel
theorem dX5_heaviestColumn_47 : decode cX5_heaviestColumn 47 = .ok (.istore 4, 2) := by decide +kernel
theorem dX5_heaviestColumn_49 : decode cX5_heaviestColumn 49 = .ok (.iload 4, 2) := by decide +kernel
theorem dX5_heaviestColumn_51 : decode cX5_heaviestColumn 51 = .ok (.iload_n 2, 1) := by decide +kernel
theorem dX5_heaviestColumn_52 : decode cX5_heaviestColumn 52 = .ok (.if_icmp .le 8, 3) := by decide +kernel
theorem dX5_heaviestColumn_55 : decode cX5_heaviestColumn 55 = .ok (.iload 4, 2) := by decide +kernel
theorem dX5_heaviestColumn_57 : decode cX5_heaviestColumn 57 = .ok (.istore_n 2, 1) := by decide +kernel
theorem dX5_heaviestColumn_58 : decode cX5_heaviestColumn 58 = .ok (.iload_n 3, 1) := by decide +kernel
theorem dX5_heaviestColumn_59 : decode cX5_heaviestColumn 59 = .ok (.istore_n 1, 1) := by decide +kernel
theorem dX5_heaviestColumn_60 : decode cX5_heaviestColumn 60 = .ok (.iinc 3 1, 3) := by decide +kernel
theorem dX5_heaviestColumn_63 : decode cX5_heaviestColumn 63 = .ok (.goto (-38), 3) := by decide +kernel
theorem dX5_heaviestColumn_66 : decode cX5_heaviestColumn 66 = .ok (.iload_n 1, 1) := by decide +kernel
theorem dX5_heaviestColumn_67 : decode cX5_heaviestColumn 67 = .ok (.ireturn, 1) := by decide +kernel
set_option maxRecDepth 20000 in
theorem ggX5_undo_X2_takeLatest : GoodIn wsX5_undo wsX2_takeLatest := goodIn_ca (goodIn_r _ [8, 9, 10, 11, 12, 44, 45] (by decide +kernel) (by decide +kernel)) (goodIn_sub (fun _ h => List.mem_cons_of_mem _ (List.mem_append_right _ h)) (by decide +kernel))
set_option maxRecDepth 20000 in
theorem gX5_undo_X2_takeLatest : GoodIn wsX5_undo (wsV RX5 209 RX2 yX2_takeLatest wsX2_takeLatest) := goodIn_app (goodIn_of _ (by decide +kernel)) ggX5_undo_X2_takeLatest
set_option maxRecDepth 20000 in
theorem ggX5_undo_X0_copyFrom : GoodIn wsX5_undo wsX0_copyFrom := goodIn_r _ [17, 18, 19, 20, 21, 22, 23, 24, 25, 26, 27, 28, 29, 30, 31, 32, 33, 34, 35, 36, 37, 38, 46, 47, 48, 49, 50, 51, 52, 53, 54, 55, 56] (by decide +kernel) (by decide +kernel)
set_option maxRecDepth 20000 in
theorem gX5_undo_X0_copyFrom : GoodIn wsX5_undo (wsV RX5 213 RX0 yX0_copyFrom wsX0_copyFrom) := goodIn_app (goodIn_of _ (by decide +kernel)) ggX5_undo_X0_copyFrom
theorem dX5_undo_0 : decode cX5_undo 0 = .ok (.aload_n 0, 1) := by decide +kernel
theorem dX5_undo_1 : decode cX5_undo 1 = .ok (.getfield 10, 3) := by decide +kernel
theorem dX5_undo_4 : decode cX5_undo 4 = .ok (.aload_n 0, 1) := by decide +kernel
theorem dX5_undo_5 : decode cX5_undo 5 = .ok (.getfield 33, 3) := by decide +kernel
theorem dX5_undo_8 : decode cX5_undo 8 = .ok (.invokevirtual 209, 3) := by decide +kernel
theorem dX5_undo_11 : decode cX5_undo 11 = .ok (.invokevirtual 213, 3) := by decide +kernel
theorem dX5_undo_14 : decode cX5_undo 14 = .ok (.aload_n 0, 1) := by decide +kernel
theorem dX5_undo_15 : decode cX5_undo 15 = .ok (.getfield 33, 3) := by decide +kernel
theorem dX5_undo_18 : decode cX5_undo 18 = .ok (.getfield 217, 3) := by decide +kernel
theorem dX5_undo_21 : decode cX5_undo 21 = .ok (.ireturn, 1) := by decide +kernel
theorem dX5_undoable_0 : decode cX5_undoable 0 = .ok (.aload_n 0, 1) := by decide +kernel
theorem dX5_undoable_1 : decode cX5_undoable 1 = .ok (.getfield 33, 3) := by decide +kernel
theorem dX5_undoable_4 : decode cX5_undoable 4 = .ok (.getfield 217, 3) := by decide +kernel
theorem dX5_undoable_7 : decode cX5_undoable 7 = .ok (.ireturn, 1) := by decide +kernel
set_option maxRecDepth 20000 in
theorem ggX5_save_X5_isSlot : GoodIn wsX5_save wsX5_isSlot := goodIn_r _ [11] (by decide +kernel) (by decide +kernel)
set_option maxRecDepth 20000 in
theorem gX5_save_X5_isSlot : GoodIn wsX5_save (va_wsS RX5 220 yX5_isSlot wsX5_isSlot) := goodIn_app (goodIn_of _ (by decide +kernel)) ggX5_save_X5_isSlot
set_option maxRecDepth 20000 in
theorem ggX5_save_X0_init : GoodIn wsX5_save wsX0_init := goodIn_r _ [14, 15, 16, 17, 18, 19, 20, 21, 22, 23, 24, 25, 26, 27, 28, 29, 30, 31, 32, 33, 34, 35, 36, 37, 38, 39, 40, 41, 71, 72, 73, 74, 75, 76, 77, 78, 79, 80, 81] (by decide +kernel) (by decide +kernel)
set_option maxRecDepth 20000 in
theorem gX5_save_X0_init : GoodIn wsX5_save (wsX0_init) := ggX5_save_X0_init
set_option maxRecDepth 20000 in
theorem ggX5_save_X0_copyFrom : GoodIn wsX5_save wsX0_copyFrom := goodIn_r _ [45, 19, 46, 47, 48, 49, 20, 21, 22, 26, 27, 28, 29, 30, 31, 50, 51, 52, 25, 53, 36, 54, 71, 72, 73, 74, 75, 76, 77, 78, 79, 80, 81] (by decide +kernel) (by decide +kernel)
set_option maxRecDepth 20000 in
theorem gX5_save_X0_copyFrom : GoodIn wsX5_save (wsV RX5 213 RX0 yX0_copyFrom wsX0_copyFrom) := goodIn_app (goodIn_of _ (by decide +kernel)) ggX5_save_X0_copyFrom
set_option maxRecDepth 20000 in
theorem ggX5_save_X0_countPegs : GoodIn wsX5_save wsX0_countPegs := goodIn_r _ [58, 19, 59, 60, 61, 62, 63, 64, 65, 71, 72, 73, 74, 75, 76, 77, 78, 79, 80] (by decide +kernel) (by decide +kernel)
set_option maxRecDepth 20000 in
theorem gX5_save_X0_countPegs : GoodIn wsX5_save (wsV RX5 141 RX0 yX0_countPegs wsX0_countPegs) := goodIn_app (goodIn_of _ (by decide +kernel)) ggX5_save_X0_countPegs
theorem dX5_save_0 : decode cX5_save 0 = .ok (.iload_n 1, 1) := by decide +kernel
theorem dX5_save_1 : decode cX5_save 1 = .ok (.invokestatic 220, 3) := by decide +kernel
theorem dX5_save_4 : decode cX5_save 4 = .ok (.ifCond .ne 13, 3) := by decide +kernel
theorem dX5_save_7 : decode cX5_save 7 = .ok (.new 48, 3) := by decide +kernel
theorem dX5_save_10 : decode cX5_save 10 = .ok (.dup, 1) := by decide +kernel
theorem dX5_save_11 : decode cX5_save 11 = .ok (.ldc 223, 2) := by decide +kernel
theorem dX5_save_13 : decode cX5_save 13 = .ok (.invokespecial 52, 3) := by decide +kernel
theorem dX5_save_16 : decode cX5_save 16 = .ok (.athrow, 1) := by decide +kernel
theorem dX5_save_17 : decode cX5_save 17 = .ok (.aload_n 0, 1) := by decide +kernel
theorem dX5_save_18 : decode cX5_save 18 = .ok (.getfield 37, 3) := by decide +kernel
theorem dX5_save_21 : decode cX5_save 21 = .ok (.iload_n 1, 1) := by decide +kernel
theorem dX5_save_22 : decode cX5_save 22 = .ok (.aaload, 1) := by decide +kernel
theorem dX5_save_23 : decode cX5_save 23 = .ok (.astore_n 2, 1) := by decide +kernel
theorem dX5_save_24 : decode cX5_save 24 = .ok (.aload_n 2, 1) := by decide +kernel
theorem dX5_save_25 : decode cX5_save 25 = .ok (.ifnonnull 18, 3) := by decide +kernel
theorem dX5_save_28 : decode cX5_save 28 = .ok (.new 7, 3) := by decide +kernel
theorem dX5_save_31 : decode cX5_save 31 = .ok (.dup, 1) := by decide +kernel
theorem dX5_save_32 : decode cX5_save 32 = .ok (.invokespecial 9, 3) := by decide +kernel
theorem dX5_save_35 : decode cX5_save 35 = .ok (.astore_n 2, 1) := by decide +kernel
theorem dX5_save_36 : decode cX5_save 36 = .ok (.aload_n 0, 1) := by decide +kernel
theorem dX5_save_37 : decode cX5_save 37 = .ok (.getfield 37, 3) := by decide +kernel
theorem dX5_save_40 : decode cX5_save 40 = .ok (.iload_n 1, 1) := by decide +kernel
theorem dX5_save_41 : decode cX5_save 41 = .ok (.aload_n 2, 1) := by decide +kernel
theorem dX5_save_42 : decode cX5_save 42 = .ok (.aastore, 1) := by decide +kernel
theorem dX5_save_43 : decode cX5_save 43 = .ok (.aload_n 2, 1) := by decide +kernel
theorem dX5_save_44 : decode cX5_save 44 = .ok (.aload_n 0, 1) := by decide +kernel
theorem dX5_save_45 : decode cX5_save 45 = .ok (.getfield 10, 3) := by decide +kernel
theorem dX5_save_48 : decode cX5_save 48 = .ok (.invokevirtual 213, 3) := by decide +kernel
theorem dX5_save_51 : decode cX5_save 51 = .ok (.aload_n 0, 1) := by decide +kernel
theorem dX5_save_52 : decode cX5_save 52 = .ok (.getfield 10, 3) := by decide +kernel
theorem dX5_save_55 : decode cX5_save 55 = .ok (.invokevirtual 141, 3) := by decide +kernel
theorem dX5_save_58 : decode cX5_save 58 = .ok (.ireturn, 1) := by decide +kernel
set_option maxRecDepth 20000 in
theorem ggX5_restore_X5_isSlot : GoodIn wsX5_restore wsX5_isSlot := goodIn_r _ [11] (by decide +kernel) (by decide +kernel)
set_option maxRecDepth 20000 in
theorem gX5_restore_X5_isSlot : GoodIn wsX5_restore (va_wsS RX5 220 yX5_isSlot wsX5_isSlot) := goodIn_app (goodIn_of _ (by decide +kernel)) ggX5_restore_X5_isSlot
