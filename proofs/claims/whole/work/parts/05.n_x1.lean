set_option maxRecDepth 20000 in
theorem ggX1_init_X2_init : GoodIn wsX1_init wsX2_init := goodIn_r _ [19, 20, 2, 3, 21, 22, 23, 33, 34, 35, 36] (by decide +kernel) (by decide +kernel)
set_option maxRecDepth 20000 in
theorem gX1_init_X2_init_n11 : GoodIn wsX1_init (wsX2_init) := ggX1_init_X2_init
set_option maxRecDepth 20000 in
theorem ggX1_init_X4_init : GoodIn wsX1_init wsX4_init := goodIn_r _ [25, 26, 2, 3] (by decide +kernel) (by decide +kernel)
set_option maxRecDepth 20000 in
theorem gX1_init_X4_init_n34 : GoodIn wsX1_init (wsX4_init) := ggX1_init_X4_init
set_option maxRecDepth 20000 in
theorem ggX1_init_X2_form : GoodIn wsX1_init wsX2_form := goodIn_r _ [30, 21, 31, 32, 33, 34, 35, 36] (by decide +kernel) (by decide +kernel)
set_option maxRecDepth 20000 in
theorem gX1_init_X2_form : GoodIn wsX1_init (wsV RX1 42 RX2 yX2_form wsX2_form) := goodIn_app (goodIn_of _ (by decide +kernel)) ggX1_init_X2_form
theorem dX1_init_0 : decode cX1_init 0 = .ok (.aload_n 0, 1) := by decide +kernel
theorem dX1_init_1 : decode cX1_init 1 = .ok (.invokespecial 3, 3) := by decide +kernel
theorem dX1_init_4 : decode cX1_init 4 = .ok (.aload_n 0, 1) := by decide +kernel
theorem dX1_init_5 : decode cX1_init 5 = .ok (.new 9, 3) := by decide +kernel
theorem dX1_init_8 : decode cX1_init 8 = .ok (.dup, 1) := by decide +kernel
theorem dX1_init_9 : decode cX1_init 9 = .ok (.invokespecial 11, 3) := by decide +kernel
theorem dX1_init_12 : decode cX1_init 12 = .ok (.putfield 12, 3) := by decide +kernel
theorem dX1_init_15 : decode cX1_init 15 = .ok (.aload_n 0, 1) := by decide +kernel
theorem dX1_init_16 : decode cX1_init 16 = .ok (.bipush 12, 2) := by decide +kernel
theorem dX1_init_18 : decode cX1_init 18 = .ok (.anewarray 9, 3) := by decide +kernel
theorem dX1_init_21 : decode cX1_init 21 = .ok (.putfield 18, 3) := by decide +kernel
theorem dX1_init_24 : decode cX1_init 24 = .ok (.aload_n 0, 1) := by decide +kernel
theorem dX1_init_25 : decode cX1_init 25 = .ok (.bipush 12, 2) := by decide +kernel
theorem dX1_init_27 : decode cX1_init 27 = .ok (.newarray .int, 2) := by decide +kernel
theorem dX1_init_29 : decode cX1_init 29 = .ok (.putfield 22, 3) := by decide +kernel
theorem dX1_init_32 : decode cX1_init 32 = .ok (.aload_n 0, 1) := by decide +kernel
theorem dX1_init_33 : decode cX1_init 33 = .ok (.iconst 5, 1) := by decide +kernel
theorem dX1_init_34 : decode cX1_init 34 = .ok (.anewarray 9, 3) := by decide +kernel
theorem dX1_init_37 : decode cX1_init 37 = .ok (.putfield 26, 3) := by decide +kernel
theorem dX1_init_40 : decode cX1_init 40 = .ok (.aload_n 0, 1) := by decide +kernel
theorem dX1_init_41 : decode cX1_init 41 = .ok (.new 9, 3) := by decide +kernel
theorem dX1_init_44 : decode cX1_init 44 = .ok (.dup, 1) := by decide +kernel
theorem dX1_init_45 : decode cX1_init 45 = .ok (.invokespecial 11, 3) := by decide +kernel
theorem dX1_init_48 : decode cX1_init 48 = .ok (.putfield 29, 3) := by decide +kernel
theorem dX1_init_51 : decode cX1_init 51 = .ok (.aload_n 0, 1) := by decide +kernel
theorem dX1_init_52 : decode cX1_init 52 = .ok (.new 32, 3) := by decide +kernel
theorem dX1_init_55 : decode cX1_init 55 = .ok (.dup, 1) := by decide +kernel
theorem dX1_init_56 : decode cX1_init 56 = .ok (.invokespecial 34, 3) := by decide +kernel
theorem dX1_init_59 : decode cX1_init 59 = .ok (.putfield 35, 3) := by decide +kernel
theorem dX1_init_62 : decode cX1_init 62 = .ok (.aload_n 0, 1) := by decide +kernel
theorem dX1_init_63 : decode cX1_init 63 = .ok (.new 32, 3) := by decide +kernel
theorem dX1_init_66 : decode cX1_init 66 = .ok (.dup, 1) := by decide +kernel
theorem dX1_init_67 : decode cX1_init 67 = .ok (.invokespecial 34, 3) := by decide +kernel
theorem dX1_init_70 : decode cX1_init 70 = .ok (.putfield 39, 3) := by decide +kernel
theorem dX1_init_73 : decode cX1_init 73 = .ok (.aload_n 0, 1) := by decide +kernel
theorem dX1_init_74 : decode cX1_init 74 = .ok (.getfield 12, 3) := by decide +kernel
theorem dX1_init_77 : decode cX1_init 77 = .ok (.iconst 0, 1) := by decide +kernel
theorem dX1_init_78 : decode cX1_init 78 = .ok (.iconst 0, 1) := by decide +kernel
theorem dX1_init_79 : decode cX1_init 79 = .ok (.iconst 1, 1) := by decide +kernel
theorem dX1_init_80 : decode cX1_init 80 = .ok (.invokevirtual 42, 3) := by decide +kernel
theorem dX1_init_83 : decode cX1_init 83 = .ok (.iconst 0, 1) := by decide +kernel
theorem dX1_init_84 : decode cX1_init 84 = .ok (.istore_n 1, 1) := by decide +kernel
theorem dX1_init_85 : decode cX1_init 85 = .ok (.iload_n 1, 1) := by decide +kernel
theorem dX1_init_86 : decode cX1_init 86 = .ok (.bipush 12, 2) := by decide +kernel
theorem dX1_init_88 : decode cX1_init 88 = .ok (.if_icmp .ge 22, 3) := by decide +kernel
theorem dX1_init_91 : decode cX1_init 91 = .ok (.aload_n 0, 1) := by decide +kernel
theorem dX1_init_92 : decode cX1_init 92 = .ok (.getfield 18, 3) := by decide +kernel
theorem dX1_init_95 : decode cX1_init 95 = .ok (.iload_n 1, 1) := by decide +kernel
theorem dX1_init_96 : decode cX1_init 96 = .ok (.new 9, 3) := by decide +kernel
theorem dX1_init_99 : decode cX1_init 99 = .ok (.dup, 1) := by decide +kernel
theorem dX1_init_100 : decode cX1_init 100 = .ok (.invokespecial 11, 3) := by decide +kernel
theorem dX1_init_103 : decode cX1_init 103 = .ok (.aastore, 1) := by decide +kernel
theorem dX1_init_104 : decode cX1_init 104 = .ok (.iinc 1 1, 3) := by decide +kernel
theorem dX1_init_107 : decode cX1_init 107 = .ok (.goto (-22), 3) := by decide +kernel
theorem dX1_init_110 : decode cX1_init 110 = .ok (.iconst 0, 1) := by decide +kernel
theorem dX1_init_111 : decode cX1_init 111 = .ok (.istore_n 1, 1) := by decide +kernel
theorem dX1_init_112 : decode cX1_init 112 = .ok (.iload_n 1, 1) := by decide +kernel
theorem dX1_init_113 : decode cX1_init 113 = .ok (.iconst 5, 1) := by decide +kernel
theorem dX1_init_114 : decode cX1_init 114 = .ok (.if_icmp .ge 22, 3) := by decide +kernel
theorem dX1_init_117 : decode cX1_init 117 = .ok (.aload_n 0, 1) := by decide +kernel
theorem dX1_init_118 : decode cX1_init 118 = .ok (.getfield 26, 3) := by decide +kernel
theorem dX1_init_121 : decode cX1_init 121 = .ok (.iload_n 1, 1) := by decide +kernel
theorem dX1_init_122 : decode cX1_init 122 = .ok (.new 9, 3) := by decide +kernel
theorem dX1_init_125 : decode cX1_init 125 = .ok (.dup, 1) := by decide +kernel
theorem dX1_init_126 : decode cX1_init 126 = .ok (.invokespecial 11, 3) := by decide +kernel
theorem dX1_init_129 : decode cX1_init 129 = .ok (.aastore, 1) := by decide +kernel
theorem dX1_init_130 : decode cX1_init 130 = .ok (.iinc 1 1, 3) := by decide +kernel
theorem dX1_init_133 : decode cX1_init 133 = .ok (.goto (-21), 3) := by decide +kernel
theorem dX1_init_136 : decode cX1_init 136 = .ok (.return_, 1) := by decide +kernel
set_option maxRecDepth 20000 in
theorem ggX1_begin_X2_formLike : GoodIn wsX1_begin wsX2_formLike := goodIn_r _ [8, 9, 10, 11, 12, 13, 14, 7, 15, 25, 26, 27, 28] (by decide +kernel) (by decide +kernel)
set_option maxRecDepth 20000 in
theorem gX1_begin_X2_formLike : GoodIn wsX1_begin (wsV RX1 46 RX2 yX2_formLike wsX2_formLike) := goodIn_app (goodIn_of _ (by decide +kernel)) ggX1_begin_X2_formLike
theorem dX1_begin_0 : decode cX1_begin 0 = .ok (.aload_n 0, 1) := by decide +kernel
theorem dX1_begin_1 : decode cX1_begin 1 = .ok (.getfield 12, 3) := by decide +kernel
theorem dX1_begin_4 : decode cX1_begin 4 = .ok (.aload_n 1, 1) := by decide +kernel
theorem dX1_begin_5 : decode cX1_begin 5 = .ok (.invokevirtual 46, 3) := by decide +kernel
theorem dX1_begin_8 : decode cX1_begin 8 = .ok (.aload_n 0, 1) := by decide +kernel
theorem dX1_begin_9 : decode cX1_begin 9 = .ok (.iconst 0, 1) := by decide +kernel
theorem dX1_begin_10 : decode cX1_begin 10 = .ok (.putfield 50, 3) := by decide +kernel
theorem dX1_begin_13 : decode cX1_begin 13 = .ok (.aload_n 0, 1) := by decide +kernel
theorem dX1_begin_14 : decode cX1_begin 14 = .ok (.iconst 0, 1) := by decide +kernel
theorem dX1_begin_15 : decode cX1_begin 15 = .ok (.putfield 54, 3) := by decide +kernel
theorem dX1_begin_18 : decode cX1_begin 18 = .ok (.return_, 1) := by decide +kernel
theorem dX1_hasRule_0 : decode cX1_hasRule 0 = .ok (.iload_n 1, 1) := by decide +kernel
theorem dX1_hasRule_1 : decode cX1_hasRule 1 = .ok (.ifCond .lt 15, 3) := by decide +kernel
theorem dX1_hasRule_4 : decode cX1_hasRule 4 = .ok (.iload_n 1, 1) := by decide +kernel
theorem dX1_hasRule_5 : decode cX1_hasRule 5 = .ok (.aload_n 0, 1) := by decide +kernel
theorem dX1_hasRule_6 : decode cX1_hasRule 6 = .ok (.getfield 50, 3) := by decide +kernel
theorem dX1_hasRule_9 : decode cX1_hasRule 9 = .ok (.if_icmp .ge 7, 3) := by decide +kernel
theorem dX1_hasRule_12 : decode cX1_hasRule 12 = .ok (.iconst 1, 1) := by decide +kernel
theorem dX1_hasRule_13 : decode cX1_hasRule 13 = .ok (.goto 4, 3) := by decide +kernel
theorem dX1_hasRule_16 : decode cX1_hasRule 16 = .ok (.iconst 0, 1) := by decide +kernel
theorem dX1_hasRule_17 : decode cX1_hasRule 17 = .ok (.ireturn, 1) := by decide +kernel
set_option maxRecDepth 20000 in
theorem ggX1_addRule_X2_copy : GoodIn wsX1_addRule wsX2_copy := goodIn_r _ [8, 9, 10, 11, 12, 13, 7, 14, 15, 16, 17, 18, 19, 20, 30, 31, 32, 33] (by decide +kernel) (by decide +kernel)
set_option maxRecDepth 20000 in
theorem gX1_addRule_X2_copy : GoodIn wsX1_addRule (wsV RX1 57 RX2 yX2_copy wsX2_copy) := goodIn_app (goodIn_of _ (by decide +kernel)) ggX1_addRule_X2_copy
theorem dX1_addRule_0 : decode cX1_addRule 0 = .ok (.aload_n 0, 1) := by decide +kernel
theorem dX1_addRule_1 : decode cX1_addRule 1 = .ok (.getfield 18, 3) := by decide +kernel
theorem dX1_addRule_4 : decode cX1_addRule 4 = .ok (.aload_n 0, 1) := by decide +kernel
theorem dX1_addRule_5 : decode cX1_addRule 5 = .ok (.getfield 50, 3) := by decide +kernel
theorem dX1_addRule_8 : decode cX1_addRule 8 = .ok (.aaload, 1) := by decide +kernel
theorem dX1_addRule_9 : decode cX1_addRule 9 = .ok (.aload_n 1, 1) := by decide +kernel
theorem dX1_addRule_10 : decode cX1_addRule 10 = .ok (.invokevirtual 57, 3) := by decide +kernel
theorem dX1_addRule_13 : decode cX1_addRule 13 = .ok (.aload_n 0, 1) := by decide +kernel
theorem dX1_addRule_14 : decode cX1_addRule 14 = .ok (.getfield 22, 3) := by decide +kernel
theorem dX1_addRule_17 : decode cX1_addRule 17 = .ok (.aload_n 0, 1) := by decide +kernel
theorem dX1_addRule_18 : decode cX1_addRule 18 = .ok (.getfield 50, 3) := by decide +kernel
theorem dX1_addRule_21 : decode cX1_addRule 21 = .ok (.iconst 0, 1) := by decide +kernel
theorem dX1_addRule_22 : decode cX1_addRule 22 = .ok (.iastore, 1) := by decide +kernel
theorem dX1_addRule_23 : decode cX1_addRule 23 = .ok (.aload_n 0, 1) := by decide +kernel
theorem dX1_addRule_24 : decode cX1_addRule 24 = .ok (.dup, 1) := by decide +kernel
theorem dX1_addRule_25 : decode cX1_addRule 25 = .ok (.getfield 50, 3) := by decide +kernel
theorem dX1_addRule_28 : decode cX1_addRule 28 = .ok (.iconst 1, 1) := by decide +kernel
theorem dX1_addRule_29 : decode cX1_addRule 29 = .ok (.iadd, 1) := by decide +kernel
theorem dX1_addRule_30 : decode cX1_addRule 30 = .ok (.putfield 50, 3) := by decide +kernel
theorem dX1_addRule_33 : decode cX1_addRule 33 = .ok (.aload_n 0, 1) := by decide +kernel
theorem dX1_addRule_34 : decode cX1_addRule 34 = .ok (.getfield 50, 3) := by decide +kernel
theorem dX1_addRule_37 : decode cX1_addRule 37 = .ok (.iconst 1, 1) := by decide +kernel
theorem dX1_addRule_38 : decode cX1_addRule 38 = .ok (.isub, 1) := by decide +kernel
theorem dX1_addRule_39 : decode cX1_addRule 39 = .ok (.ireturn, 1) := by decide +kernel
set_option maxRecDepth 20000 in
theorem ggX1_changeCount_X1_allFit : GoodIn wsX1_changeCount wsX1_allFit := goodIn_r _ [6, 7, 8, 9, 10, 11, 5, 12, 13, 14, 15, 16, 17, 18, 19, 20, 21, 1, 22, 23, 24, 25, 26, 27, 28, 29, 30, 31, 32, 33, 34, 35, 36, 37, 38, 39, 40, 41, 42, 43, 44, 45, 46, 47, 48, 49, 50, 51, 52, 53, 54, 55, 56, 57, 58] (by decide +kernel) (by decide +kernel)
set_option maxRecDepth 20000 in
theorem gX1_changeCount_X1_allFit : GoodIn wsX1_changeCount (wsV RX1 60 RX1 yX1_allFit wsX1_allFit) := goodIn_app (goodIn_of _ (by decide +kernel)) ggX1_changeCount_X1_allFit
theorem dX1_changeCount_0 : decode cX1_changeCount 0 = .ok (.aload_n 0, 1) := by decide +kernel
theorem dX1_changeCount_1 : decode cX1_changeCount 1 = .ok (.getfield 22, 3) := by decide +kernel
theorem dX1_changeCount_4 : decode cX1_changeCount 4 = .ok (.iload_n 1, 1) := by decide +kernel
theorem dX1_changeCount_5 : decode cX1_changeCount 5 = .ok (.iaload, 1) := by decide +kernel
theorem dX1_changeCount_6 : decode cX1_changeCount 6 = .ok (.istore_n 3, 1) := by decide +kernel
theorem dX1_changeCount_7 : decode cX1_changeCount 7 = .ok (.aload_n 0, 1) := by decide +kernel
theorem dX1_changeCount_8 : decode cX1_changeCount 8 = .ok (.getfield 22, 3) := by decide +kernel
theorem dX1_changeCount_11 : decode cX1_changeCount 11 = .ok (.iload_n 1, 1) := by decide +kernel
theorem dX1_changeCount_12 : decode cX1_changeCount 12 = .ok (.iload_n 2, 1) := by decide +kernel
theorem dX1_changeCount_13 : decode cX1_changeCount 13 = .ok (.iastore, 1) := by decide +kernel
theorem dX1_changeCount_14 : decode cX1_changeCount 14 = .ok (.aload_n 0, 1) := by decide +kernel
theorem dX1_changeCount_15 : decode cX1_changeCount 15 = .ok (.invokevirtual 60, 3) := by decide +kernel
theorem dX1_changeCount_18 : decode cX1_changeCount 18 = .ok (.ifCond .ne 12, 3) := by decide +kernel
theorem dX1_changeCount_21 : decode cX1_changeCount 21 = .ok (.aload_n 0, 1) := by decide +kernel
theorem dX1_changeCount_22 : decode cX1_changeCount 22 = .ok (.getfield 22, 3) := by decide +kernel
theorem dX1_changeCount_25 : decode cX1_changeCount 25 = .ok (.iload_n 1, 1) := by decide +kernel
theorem dX1_changeCount_26 : decode cX1_changeCount 26 = .ok (.iload_n 3, 1) := by decide +kernel
theorem dX1_changeCount_27 : decode cX1_changeCount 27 = .ok (.iastore, 1) := by decide +kernel
theorem dX1_changeCount_28 : decode cX1_changeCount 28 = .ok (.iconst 0, 1) := by decide +kernel
theorem dX1_changeCount_29 : decode cX1_changeCount 29 = .ok (.ireturn, 1) := by decide +kernel
theorem dX1_changeCount_30 : decode cX1_changeCount 30 = .ok (.iconst 1, 1) := by decide +kernel
theorem dX1_changeCount_31 : decode cX1_changeCount 31 = .ok (.ireturn, 1) := by decide +kernel
set_option maxRecDepth 20000 in
theorem ggX1_changeWeight_X2_copy : GoodIn wsX1_changeWeight wsX2_copy := goodIn_r _ [6, 7, 8, 9, 10, 11, 5, 12, 13, 14, 15, 16, 17, 18, 75, 76, 77, 78] (by decide +kernel) (by decide +kernel)
set_option maxRecDepth 20000 in
theorem gX1_changeWeight_X2_copy : GoodIn wsX1_changeWeight (wsV RX1 57 RX2 yX2_copy wsX2_copy) := goodIn_app (goodIn_of _ (by decide +kernel)) ggX1_changeWeight_X2_copy
set_option maxRecDepth 20000 in
theorem ggX1_changeWeight_X1_tradeSpare : GoodIn wsX1_changeWeight wsX1_tradeSpare := goodIn_r _ [23, 24, 1, 66, 67, 68, 69, 70, 71, 72, 73, 74] (by decide +kernel) (by decide +kernel)
set_option maxRecDepth 20000 in
theorem gX1_changeWeight_X1_tradeSpare : GoodIn wsX1_changeWeight (wsV RX1 64 RX1 yX1_tradeSpare wsX1_tradeSpare) := goodIn_app (goodIn_of _ (by decide +kernel)) ggX1_changeWeight_X1_tradeSpare
set_option maxRecDepth 20000 in
theorem ggX1_changeWeight_X1_allFit : GoodIn wsX1_changeWeight wsX1_allFit := goodIn_r _ [28, 29, 30, 31, 32, 33, 22, 34, 35, 36, 37, 38, 39, 40, 41, 24, 42, 43, 44, 45, 46, 47, 48, 49, 50, 51, 52, 53, 54, 55, 56, 57, 58, 59, 60, 61, 62, 63, 64, 65, 66, 67, 68, 69, 70, 71, 72, 73, 74, 75, 76, 77, 78, 79, 80] (by decide +kernel) (by decide +kernel)
set_option maxRecDepth 20000 in
theorem gX1_changeWeight_X1_allFit : GoodIn wsX1_changeWeight (wsV RX1 60 RX1 yX1_allFit wsX1_allFit) := goodIn_app (goodIn_of _ (by decide +kernel)) ggX1_changeWeight_X1_allFit
theorem dX1_changeWeight_0 : decode cX1_changeWeight 0 = .ok (.aload_n 0, 1) := by decide +kernel
theorem dX1_changeWeight_1 : decode cX1_changeWeight 1 = .ok (.getfield 29, 3) := by decide +kernel
theorem dX1_changeWeight_4 : decode cX1_changeWeight 4 = .ok (.aload_n 2, 1) := by decide +kernel
theorem dX1_changeWeight_5 : decode cX1_changeWeight 5 = .ok (.invokevirtual 57, 3) := by decide +kernel
theorem dX1_changeWeight_8 : decode cX1_changeWeight 8 = .ok (.aload_n 0, 1) := by decide +kernel
theorem dX1_changeWeight_9 : decode cX1_changeWeight 9 = .ok (.iload_n 1, 1) := by decide +kernel
theorem dX1_changeWeight_10 : decode cX1_changeWeight 10 = .ok (.invokevirtual 64, 3) := by decide +kernel
theorem dX1_changeWeight_13 : decode cX1_changeWeight 13 = .ok (.aload_n 0, 1) := by decide +kernel
theorem dX1_changeWeight_14 : decode cX1_changeWeight 14 = .ok (.invokevirtual 60, 3) := by decide +kernel
theorem dX1_changeWeight_17 : decode cX1_changeWeight 17 = .ok (.ifCond .ne 10, 3) := by decide +kernel
theorem dX1_changeWeight_20 : decode cX1_changeWeight 20 = .ok (.aload_n 0, 1) := by decide +kernel
theorem dX1_changeWeight_21 : decode cX1_changeWeight 21 = .ok (.iload_n 1, 1) := by decide +kernel
theorem dX1_changeWeight_22 : decode cX1_changeWeight 22 = .ok (.invokevirtual 64, 3) := by decide +kernel
theorem dX1_changeWeight_25 : decode cX1_changeWeight 25 = .ok (.iconst 0, 1) := by decide +kernel
theorem dX1_changeWeight_26 : decode cX1_changeWeight 26 = .ok (.ireturn, 1) := by decide +kernel
theorem dX1_changeWeight_27 : decode cX1_changeWeight 27 = .ok (.iconst 1, 1) := by decide +kernel
theorem dX1_changeWeight_28 : decode cX1_changeWeight 28 = .ok (.ireturn, 1) := by decide +kernel
theorem dX1_tradeSpare_0 : decode cX1_tradeSpare 0 = .ok (.aload_n 0, 1) := by decide +kernel
theorem dX1_tradeSpare_1 : decode cX1_tradeSpare 1 = .ok (.getfield 18, 3) := by decide +kernel
theorem dX1_tradeSpare_4 : decode cX1_tradeSpare 4 = .ok (.iload_n 1, 1) := by decide +kernel
theorem dX1_tradeSpare_5 : decode cX1_tradeSpare 5 = .ok (.aaload, 1) := by decide +kernel
theorem dX1_tradeSpare_6 : decode cX1_tradeSpare 6 = .ok (.astore_n 2, 1) := by decide +kernel
theorem dX1_tradeSpare_7 : decode cX1_tradeSpare 7 = .ok (.aload_n 0, 1) := by decide +kernel
theorem dX1_tradeSpare_8 : decode cX1_tradeSpare 8 = .ok (.getfield 18, 3) := by decide +kernel
theorem dX1_tradeSpare_11 : decode cX1_tradeSpare 11 = .ok (.iload_n 1, 1) := by decide +kernel
theorem dX1_tradeSpare_12 : decode cX1_tradeSpare 12 = .ok (.aload_n 0, 1) := by decide +kernel
theorem dX1_tradeSpare_13 : decode cX1_tradeSpare 13 = .ok (.getfield 29, 3) := by decide +kernel
theorem dX1_tradeSpare_16 : decode cX1_tradeSpare 16 = .ok (.aastore, 1) := by decide +kernel
theorem dX1_tradeSpare_17 : decode cX1_tradeSpare 17 = .ok (.aload_n 0, 1) := by decide +kernel
theorem dX1_tradeSpare_18 : decode cX1_tradeSpare 18 = .ok (.aload_n 2, 1) := by decide +kernel
theorem dX1_tradeSpare_19 : decode cX1_tradeSpare 19 = .ok (.putfield 29, 3) := by decide +kernel
theorem dX1_tradeSpare_22 : decode cX1_tradeSpare 22 = .ok (.return_, 1) := by decide +kernel
set_option maxRecDepth 20000 in
theorem ggX1_allFit_X1_fitsAt : GoodIn wsX1_allFit wsX1_fitsAt := goodIn_r _ [7, 8, 9, 10, 11, 12, 13, 6, 14, 15, 16, 17, 18, 19, 20, 21, 22, 23, 24, 25, 26, 27, 28, 29, 30, 31, 32, 33, 34, 35, 36, 37, 38, 39, 40, 41, 42, 43, 44, 45, 46, 47, 48, 49, 50, 51, 52, 53, 54] (by decide +kernel) (by decide +kernel)
set_option maxRecDepth 20000 in
theorem gX1_allFit_X1_fitsAt : GoodIn wsX1_allFit (wsV RX1 71 RX1 yX1_fitsAt wsX1_fitsAt) := goodIn_app (goodIn_of _ (by decide +kernel)) ggX1_allFit_X1_fitsAt
theorem dX1_allFit_0 : decode cX1_allFit 0 = .ok (.iconst 0, 1) := by decide +kernel
theorem dX1_allFit_1 : decode cX1_allFit 1 = .ok (.istore_n 1, 1) := by decide +kernel
theorem dX1_allFit_2 : decode cX1_allFit 2 = .ok (.iload_n 1, 1) := by decide +kernel
theorem dX1_allFit_3 : decode cX1_allFit 3 = .ok (.aload_n 0, 1) := by decide +kernel
theorem dX1_allFit_4 : decode cX1_allFit 4 = .ok (.getfield 12, 3) := by decide +kernel
theorem dX1_allFit_7 : decode cX1_allFit 7 = .ok (.getfield 68, 3) := by decide +kernel
theorem dX1_allFit_10 : decode cX1_allFit 10 = .ok (.if_icmp .ge 19, 3) := by decide +kernel
theorem dX1_allFit_13 : decode cX1_allFit 13 = .ok (.aload_n 0, 1) := by decide +kernel
theorem dX1_allFit_14 : decode cX1_allFit 14 = .ok (.iload_n 1, 1) := by decide +kernel
theorem dX1_allFit_15 : decode cX1_allFit 15 = .ok (.invokevirtual 71, 3) := by decide +kernel
theorem dX1_allFit_18 : decode cX1_allFit 18 = .ok (.ifCond .ne 5, 3) := by decide +kernel
theorem dX1_allFit_21 : decode cX1_allFit 21 = .ok (.iconst 0, 1) := by decide +kernel
theorem dX1_allFit_22 : decode cX1_allFit 22 = .ok (.ireturn, 1) := by decide +kernel
theorem dX1_allFit_23 : decode cX1_allFit 23 = .ok (.iinc 1 1, 3) := by decide +kernel
theorem dX1_allFit_26 : decode cX1_allFit 26 = .ok (.goto (-24), 3) := by decide +kernel
theorem dX1_allFit_29 : decode cX1_allFit 29 = .ok (.iconst 1, 1) := by decide +kernel
theorem dX1_allFit_30 : decode cX1_allFit 30 = .ok (.ireturn, 1) := by decide +kernel
set_option maxRecDepth 20000 in
theorem ggX1_fitsAt_X1_pricePart : GoodIn wsX1_fitsAt wsX1_pricePart := goodIn_r _ [8, 2, 9, 10, 11, 12, 13, 14, 15, 16, 17, 18, 19, 20, 21, 22, 23, 34, 35, 36, 37, 38, 39, 40, 41, 42, 43, 44, 45, 46, 47, 48] (by decide +kernel) (by decide +kernel)
set_option maxRecDepth 20000 in
theorem gX1_fitsAt_X1_pricePart : GoodIn wsX1_fitsAt (wsV RX1 75 RX1 yX1_pricePart wsX1_pricePart) := goodIn_app (goodIn_of _ (by decide +kernel)) ggX1_fitsAt_X1_pricePart
set_option maxRecDepth 20000 in
theorem ggX1_fitsAt_X4_fits : GoodIn wsX1_fitsAt wsX4_fits := goodIn_r _ [27, 17, 28, 29, 47, 48] (by decide +kernel) (by decide +kernel)
set_option maxRecDepth 20000 in
theorem gX1_fitsAt_X4_fits : GoodIn wsX1_fitsAt (wsV RX1 79 RX4 yX4_fits wsX4_fits) := goodIn_app (goodIn_of _ (by decide +kernel)) ggX1_fitsAt_X4_fits
set_option maxRecDepth 20000 in
theorem ggX1_fitsAt_X1_priceSum : GoodIn wsX1_fitsAt wsX1_priceSum := goodIn_r _ [33, 3, 1, 9, 10, 11, 12, 13, 14, 15, 16, 17, 18, 19, 20, 21, 22, 23, 34, 35, 36, 37, 38, 39, 40, 41, 42, 43, 44, 45, 46, 47, 48] (by decide +kernel) (by decide +kernel)
set_option maxRecDepth 20000 in
theorem gX1_fitsAt_X1_priceSum : GoodIn wsX1_fitsAt (wsV RX1 82 RX1 yX1_priceSum wsX1_priceSum) := goodIn_app (goodIn_of _ (by decide +kernel)) ggX1_fitsAt_X1_priceSum
theorem dX1_fitsAt_0 : decode cX1_fitsAt 0 = .ok (.iconst 0, 1) := by decide +kernel
theorem dX1_fitsAt_1 : decode cX1_fitsAt 1 = .ok (.istore_n 2, 1) := by decide +kernel
theorem dX1_fitsAt_2 : decode cX1_fitsAt 2 = .ok (.iload_n 2, 1) := by decide +kernel
theorem dX1_fitsAt_3 : decode cX1_fitsAt 3 = .ok (.aload_n 0, 1) := by decide +kernel
theorem dX1_fitsAt_4 : decode cX1_fitsAt 4 = .ok (.getfield 50, 3) := by decide +kernel
theorem dX1_fitsAt_7 : decode cX1_fitsAt 7 = .ok (.if_icmp .ge 27, 3) := by decide +kernel
theorem dX1_fitsAt_10 : decode cX1_fitsAt 10 = .ok (.aload_n 0, 1) := by decide +kernel
theorem dX1_fitsAt_11 : decode cX1_fitsAt 11 = .ok (.iload_n 2, 1) := by decide +kernel
theorem dX1_fitsAt_12 : decode cX1_fitsAt 12 = .ok (.iload_n 1, 1) := by decide +kernel
theorem dX1_fitsAt_13 : decode cX1_fitsAt 13 = .ok (.invokevirtual 75, 3) := by decide +kernel
theorem dX1_fitsAt_16 : decode cX1_fitsAt 16 = .ok (.aload_n 0, 1) := by decide +kernel
theorem dX1_fitsAt_17 : decode cX1_fitsAt 17 = .ok (.getfield 39, 3) := by decide +kernel
theorem dX1_fitsAt_20 : decode cX1_fitsAt 20 = .ok (.invokevirtual 79, 3) := by decide +kernel
theorem dX1_fitsAt_23 : decode cX1_fitsAt 23 = .ok (.ifCond .ne 5, 3) := by decide +kernel
theorem dX1_fitsAt_26 : decode cX1_fitsAt 26 = .ok (.iconst 0, 1) := by decide +kernel
theorem dX1_fitsAt_27 : decode cX1_fitsAt 27 = .ok (.ireturn, 1) := by decide +kernel
theorem dX1_fitsAt_28 : decode cX1_fitsAt 28 = .ok (.iinc 2 1, 3) := by decide +kernel
theorem dX1_fitsAt_31 : decode cX1_fitsAt 31 = .ok (.goto (-29), 3) := by decide +kernel
theorem dX1_fitsAt_34 : decode cX1_fitsAt 34 = .ok (.aload_n 0, 1) := by decide +kernel
theorem dX1_fitsAt_35 : decode cX1_fitsAt 35 = .ok (.iload_n 1, 1) := by decide +kernel
theorem dX1_fitsAt_36 : decode cX1_fitsAt 36 = .ok (.invokevirtual 82, 3) := by decide +kernel
theorem dX1_fitsAt_39 : decode cX1_fitsAt 39 = .ok (.aload_n 0, 1) := by decide +kernel
theorem dX1_fitsAt_40 : decode cX1_fitsAt 40 = .ok (.getfield 35, 3) := by decide +kernel
theorem dX1_fitsAt_43 : decode cX1_fitsAt 43 = .ok (.invokevirtual 79, 3) := by decide +kernel
theorem dX1_fitsAt_46 : decode cX1_fitsAt 46 = .ok (.ireturn, 1) := by decide +kernel
set_option maxRecDepth 20000 in
theorem ggX1_pricePart_X4_clear : GoodIn wsX1_pricePart wsX4_clear := goodIn_r _ [9, 10, 11, 30, 31] (by decide +kernel) (by decide +kernel)
set_option maxRecDepth 20000 in
theorem gX1_pricePart_X4_clear : GoodIn wsX1_pricePart (wsV RX1 85 RX4 yX4_clear wsX4_clear) := goodIn_app (goodIn_of _ (by decide +kernel)) ggX1_pricePart_X4_clear
set_option maxRecDepth 20000 in
theorem ggX1_pricePart_X4_addProduct : GoodIn wsX1_pricePart wsX4_addProduct := goodIn_r _ [15, 16, 11, 10, 30, 31] (by decide +kernel) (by decide +kernel)
set_option maxRecDepth 20000 in
theorem gX1_pricePart_X4_addProduct : GoodIn wsX1_pricePart (wsV RX1 92 RX4 yX4_addProduct wsX4_addProduct) := goodIn_app (goodIn_of _ (by decide +kernel)) ggX1_pricePart_X4_addProduct
theorem dX1_pricePart_0 : decode cX1_pricePart 0 = .ok (.aload_n 0, 1) := by decide +kernel
theorem dX1_pricePart_1 : decode cX1_pricePart 1 = .ok (.getfield 39, 3) := by decide +kernel
theorem dX1_pricePart_4 : decode cX1_pricePart 4 = .ok (.invokevirtual 85, 3) := by decide +kernel
theorem dX1_pricePart_7 : decode cX1_pricePart 7 = .ok (.aload_n 0, 1) := by decide +kernel
theorem dX1_pricePart_8 : decode cX1_pricePart 8 = .ok (.getfield 39, 3) := by decide +kernel
theorem dX1_pricePart_11 : decode cX1_pricePart 11 = .ok (.aload_n 0, 1) := by decide +kernel
theorem dX1_pricePart_12 : decode cX1_pricePart 12 = .ok (.getfield 18, 3) := by decide +kernel
theorem dX1_pricePart_15 : decode cX1_pricePart 15 = .ok (.iload_n 1, 1) := by decide +kernel
theorem dX1_pricePart_16 : decode cX1_pricePart 16 = .ok (.aaload, 1) := by decide +kernel
theorem dX1_pricePart_17 : decode cX1_pricePart 17 = .ok (.getfield 88, 3) := by decide +kernel
theorem dX1_pricePart_20 : decode cX1_pricePart 20 = .ok (.iload_n 2, 1) := by decide +kernel
theorem dX1_pricePart_21 : decode cX1_pricePart 21 = .ok (.laload, 1) := by decide +kernel
theorem dX1_pricePart_22 : decode cX1_pricePart 22 = .ok (.aload_n 0, 1) := by decide +kernel
theorem dX1_pricePart_23 : decode cX1_pricePart 23 = .ok (.getfield 22, 3) := by decide +kernel
theorem dX1_pricePart_26 : decode cX1_pricePart 26 = .ok (.iload_n 1, 1) := by decide +kernel
theorem dX1_pricePart_27 : decode cX1_pricePart 27 = .ok (.iaload, 1) := by decide +kernel
theorem dX1_pricePart_28 : decode cX1_pricePart 28 = .ok (.i2l, 1) := by decide +kernel
theorem dX1_pricePart_29 : decode cX1_pricePart 29 = .ok (.invokevirtual 92, 3) := by decide +kernel
theorem dX1_pricePart_32 : decode cX1_pricePart 32 = .ok (.return_, 1) := by decide +kernel
set_option maxRecDepth 20000 in
theorem ggX1_priceSum_X4_clear : GoodIn wsX1_priceSum wsX4_clear := goodIn_r _ [10, 11, 12, 31, 32] (by decide +kernel) (by decide +kernel)
set_option maxRecDepth 20000 in
theorem gX1_priceSum_X4_clear : GoodIn wsX1_priceSum (wsV RX1 85 RX4 yX4_clear wsX4_clear) := goodIn_app (goodIn_of _ (by decide +kernel)) ggX1_priceSum_X4_clear
set_option maxRecDepth 20000 in
theorem ggX1_priceSum_X4_addProduct : GoodIn wsX1_priceSum wsX4_addProduct := goodIn_r _ [16, 17, 12, 11, 31, 32] (by decide +kernel) (by decide +kernel)
set_option maxRecDepth 20000 in
theorem gX1_priceSum_X4_addProduct : GoodIn wsX1_priceSum (wsV RX1 92 RX4 yX4_addProduct wsX4_addProduct) := goodIn_app (goodIn_of _ (by decide +kernel)) ggX1_priceSum_X4_addProduct
theorem dX1_priceSum_0 : decode cX1_priceSum 0 = .ok (.aload_n 0, 1) := by decide +kernel
theorem dX1_priceSum_1 : decode cX1_priceSum 1 = .ok (.getfield 35, 3) := by decide +kernel
theorem dX1_priceSum_4 : decode cX1_priceSum 4 = .ok (.invokevirtual 85, 3) := by decide +kernel
theorem dX1_priceSum_7 : decode cX1_priceSum 7 = .ok (.iconst 0, 1) := by decide +kernel
theorem dX1_priceSum_8 : decode cX1_priceSum 8 = .ok (.istore_n 2, 1) := by decide +kernel
theorem dX1_priceSum_9 : decode cX1_priceSum 9 = .ok (.iload_n 2, 1) := by decide +kernel
theorem dX1_priceSum_10 : decode cX1_priceSum 10 = .ok (.aload_n 0, 1) := by decide +kernel
theorem dX1_priceSum_11 : decode cX1_priceSum 11 = .ok (.getfield 50, 3) := by decide +kernel
theorem dX1_priceSum_14 : decode cX1_priceSum 14 = .ok (.if_icmp .ge 34, 3) := by decide +kernel
theorem dX1_priceSum_17 : decode cX1_priceSum 17 = .ok (.aload_n 0, 1) := by decide +kernel
theorem dX1_priceSum_18 : decode cX1_priceSum 18 = .ok (.getfield 35, 3) := by decide +kernel
theorem dX1_priceSum_21 : decode cX1_priceSum 21 = .ok (.aload_n 0, 1) := by decide +kernel
theorem dX1_priceSum_22 : decode cX1_priceSum 22 = .ok (.getfield 18, 3) := by decide +kernel
theorem dX1_priceSum_25 : decode cX1_priceSum 25 = .ok (.iload_n 2, 1) := by decide +kernel
theorem dX1_priceSum_26 : decode cX1_priceSum 26 = .ok (.aaload, 1) := by decide +kernel
theorem dX1_priceSum_27 : decode cX1_priceSum 27 = .ok (.getfield 88, 3) := by decide +kernel
theorem dX1_priceSum_30 : decode cX1_priceSum 30 = .ok (.iload_n 1, 1) := by decide +kernel
theorem dX1_priceSum_31 : decode cX1_priceSum 31 = .ok (.laload, 1) := by decide +kernel
theorem dX1_priceSum_32 : decode cX1_priceSum 32 = .ok (.aload_n 0, 1) := by decide +kernel
theorem dX1_priceSum_33 : decode cX1_priceSum 33 = .ok (.getfield 22, 3) := by decide +kernel
theorem dX1_priceSum_36 : decode cX1_priceSum 36 = .ok (.iload_n 2, 1) := by decide +kernel
theorem dX1_priceSum_37 : decode cX1_priceSum 37 = .ok (.iaload, 1) := by decide +kernel
theorem dX1_priceSum_38 : decode cX1_priceSum 38 = .ok (.i2l, 1) := by decide +kernel
theorem dX1_priceSum_39 : decode cX1_priceSum 39 = .ok (.invokevirtual 92, 3) := by decide +kernel
theorem dX1_priceSum_42 : decode cX1_priceSum 42 = .ok (.iinc 2 1, 3) := by decide +kernel
theorem dX1_priceSum_45 : decode cX1_priceSum 45 = .ok (.goto (-36), 3) := by decide +kernel
theorem dX1_priceSum_48 : decode cX1_priceSum 48 = .ok (.return_, 1) := by decide +kernel
set_option maxRecDepth 20000 in
theorem ggX1_sumInto_X2_formLike : GoodIn wsX1_sumInto wsX2_formLike := goodIn_r _ [9, 10, 11, 12, 13, 14, 15, 8, 16, 50, 51, 52, 53] (by decide +kernel) (by decide +kernel)
set_option maxRecDepth 20000 in
theorem gX1_sumInto_X2_formLike : GoodIn wsX1_sumInto (wsV RX1 46 RX2 yX2_formLike wsX2_formLike) := goodIn_app (goodIn_of _ (by decide +kernel)) ggX1_sumInto_X2_formLike
set_option maxRecDepth 20000 in
theorem ggX1_sumInto_X1_priceSum : GoodIn wsX1_sumInto wsX1_priceSum := goodIn_r _ [21, 4, 22, 23, 3, 24, 25, 26, 27, 28, 29, 30, 31, 32, 33, 34, 35, 36, 41, 42, 43, 44, 45, 46, 47, 48, 49, 50, 51, 52, 53, 54, 55] (by decide +kernel) (by decide +kernel)
set_option maxRecDepth 20000 in
theorem gX1_sumInto_X1_priceSum : GoodIn wsX1_sumInto (wsV RX1 82 RX1 yX1_priceSum wsX1_priceSum) := goodIn_app (goodIn_of _ (by decide +kernel)) ggX1_sumInto_X1_priceSum
set_option maxRecDepth 20000 in
theorem ggX1_sumInto_X4_value : GoodIn wsX1_sumInto wsX4_value := goodIn_r _ [40, 30, 31, 54, 55] (by decide +kernel) (by decide +kernel)
set_option maxRecDepth 20000 in
theorem gX1_sumInto_X4_value : GoodIn wsX1_sumInto (wsV RX1 96 RX4 yX4_value wsX4_value) := goodIn_app (goodIn_of _ (by decide +kernel)) ggX1_sumInto_X4_value
theorem dX1_sumInto_0 : decode cX1_sumInto 0 = .ok (.aload_n 1, 1) := by decide +kernel
theorem dX1_sumInto_1 : decode cX1_sumInto 1 = .ok (.aload_n 0, 1) := by decide +kernel
theorem dX1_sumInto_2 : decode cX1_sumInto 2 = .ok (.getfield 12, 3) := by decide +kernel
theorem dX1_sumInto_5 : decode cX1_sumInto 5 = .ok (.invokevirtual 46, 3) := by decide +kernel
theorem dX1_sumInto_8 : decode cX1_sumInto 8 = .ok (.iconst 0, 1) := by decide +kernel
theorem dX1_sumInto_9 : decode cX1_sumInto 9 = .ok (.istore_n 2, 1) := by decide +kernel
theorem dX1_sumInto_10 : decode cX1_sumInto 10 = .ok (.iload_n 2, 1) := by decide +kernel
theorem dX1_sumInto_11 : decode cX1_sumInto 11 = .ok (.aload_n 0, 1) := by decide +kernel
theorem dX1_sumInto_12 : decode cX1_sumInto 12 = .ok (.getfield 12, 3) := by decide +kernel
theorem dX1_sumInto_15 : decode cX1_sumInto 15 = .ok (.getfield 68, 3) := by decide +kernel
theorem dX1_sumInto_18 : decode cX1_sumInto 18 = .ok (.if_icmp .ge 27, 3) := by decide +kernel
theorem dX1_sumInto_21 : decode cX1_sumInto 21 = .ok (.aload_n 0, 1) := by decide +kernel
theorem dX1_sumInto_22 : decode cX1_sumInto 22 = .ok (.iload_n 2, 1) := by decide +kernel
theorem dX1_sumInto_23 : decode cX1_sumInto 23 = .ok (.invokevirtual 82, 3) := by decide +kernel
theorem dX1_sumInto_26 : decode cX1_sumInto 26 = .ok (.aload_n 1, 1) := by decide +kernel
theorem dX1_sumInto_27 : decode cX1_sumInto 27 = .ok (.getfield 88, 3) := by decide +kernel
theorem dX1_sumInto_30 : decode cX1_sumInto 30 = .ok (.iload_n 2, 1) := by decide +kernel
theorem dX1_sumInto_31 : decode cX1_sumInto 31 = .ok (.aload_n 0, 1) := by decide +kernel
theorem dX1_sumInto_32 : decode cX1_sumInto 32 = .ok (.getfield 35, 3) := by decide +kernel
theorem dX1_sumInto_35 : decode cX1_sumInto 35 = .ok (.invokevirtual 96, 3) := by decide +kernel
theorem dX1_sumInto_38 : decode cX1_sumInto 38 = .ok (.lastore, 1) := by decide +kernel
theorem dX1_sumInto_39 : decode cX1_sumInto 39 = .ok (.iinc 2 1, 3) := by decide +kernel
theorem dX1_sumInto_42 : decode cX1_sumInto 42 = .ok (.goto (-32), 3) := by decide +kernel
theorem dX1_sumInto_45 : decode cX1_sumInto 45 = .ok (.return_, 1) := by decide +kernel
set_option maxRecDepth 20000 in
theorem ggX1_partInto_X2_formLike : GoodIn wsX1_partInto wsX2_formLike := goodIn_r _ [9, 10, 11, 12, 13, 14, 15, 8, 16, 49, 50, 51, 52] (by decide +kernel) (by decide +kernel)
set_option maxRecDepth 20000 in
theorem gX1_partInto_X2_formLike : GoodIn wsX1_partInto (wsV RX1 46 RX2 yX2_formLike wsX2_formLike) := goodIn_app (goodIn_of _ (by decide +kernel)) ggX1_partInto_X2_formLike
set_option maxRecDepth 20000 in
theorem ggX1_partInto_X1_pricePart : GoodIn wsX1_partInto wsX1_pricePart := goodIn_r _ [21, 4, 22, 3, 23, 24, 25, 26, 27, 28, 29, 30, 31, 32, 33, 34, 35, 40, 41, 42, 43, 44, 45, 46, 47, 48, 49, 50, 51, 52, 53, 54] (by decide +kernel) (by decide +kernel)
set_option maxRecDepth 20000 in
theorem gX1_partInto_X1_pricePart : GoodIn wsX1_partInto (wsV RX1 75 RX1 yX1_pricePart wsX1_pricePart) := goodIn_app (goodIn_of _ (by decide +kernel)) ggX1_partInto_X1_pricePart
set_option maxRecDepth 20000 in
theorem ggX1_partInto_X4_value : GoodIn wsX1_partInto wsX4_value := goodIn_r _ [39, 29, 30, 53, 54] (by decide +kernel) (by decide +kernel)
set_option maxRecDepth 20000 in
theorem gX1_partInto_X4_value : GoodIn wsX1_partInto (wsV RX1 96 RX4 yX4_value wsX4_value) := goodIn_app (goodIn_of _ (by decide +kernel)) ggX1_partInto_X4_value
theorem dX1_partInto_0 : decode cX1_partInto 0 = .ok (.aload_n 2, 1) := by decide +kernel
theorem dX1_partInto_1 : decode cX1_partInto 1 = .ok (.aload_n 0, 1) := by decide +kernel
theorem dX1_partInto_2 : decode cX1_partInto 2 = .ok (.getfield 12, 3) := by decide +kernel
theorem dX1_partInto_5 : decode cX1_partInto 5 = .ok (.invokevirtual 46, 3) := by decide +kernel
theorem dX1_partInto_8 : decode cX1_partInto 8 = .ok (.iconst 0, 1) := by decide +kernel
theorem dX1_partInto_9 : decode cX1_partInto 9 = .ok (.istore_n 3, 1) := by decide +kernel
theorem dX1_partInto_10 : decode cX1_partInto 10 = .ok (.iload_n 3, 1) := by decide +kernel
theorem dX1_partInto_11 : decode cX1_partInto 11 = .ok (.aload_n 0, 1) := by decide +kernel
theorem dX1_partInto_12 : decode cX1_partInto 12 = .ok (.getfield 12, 3) := by decide +kernel
theorem dX1_partInto_15 : decode cX1_partInto 15 = .ok (.getfield 68, 3) := by decide +kernel
theorem dX1_partInto_18 : decode cX1_partInto 18 = .ok (.if_icmp .ge 28, 3) := by decide +kernel
theorem dX1_partInto_21 : decode cX1_partInto 21 = .ok (.aload_n 0, 1) := by decide +kernel
theorem dX1_partInto_22 : decode cX1_partInto 22 = .ok (.iload_n 1, 1) := by decide +kernel
theorem dX1_partInto_23 : decode cX1_partInto 23 = .ok (.iload_n 3, 1) := by decide +kernel
theorem dX1_partInto_24 : decode cX1_partInto 24 = .ok (.invokevirtual 75, 3) := by decide +kernel
theorem dX1_partInto_27 : decode cX1_partInto 27 = .ok (.aload_n 2, 1) := by decide +kernel
theorem dX1_partInto_28 : decode cX1_partInto 28 = .ok (.getfield 88, 3) := by decide +kernel
theorem dX1_partInto_31 : decode cX1_partInto 31 = .ok (.iload_n 3, 1) := by decide +kernel
theorem dX1_partInto_32 : decode cX1_partInto 32 = .ok (.aload_n 0, 1) := by decide +kernel
theorem dX1_partInto_33 : decode cX1_partInto 33 = .ok (.getfield 39, 3) := by decide +kernel
theorem dX1_partInto_36 : decode cX1_partInto 36 = .ok (.invokevirtual 96, 3) := by decide +kernel
theorem dX1_partInto_39 : decode cX1_partInto 39 = .ok (.lastore, 1) := by decide +kernel
theorem dX1_partInto_40 : decode cX1_partInto 40 = .ok (.iinc 3 1, 3) := by decide +kernel
theorem dX1_partInto_43 : decode cX1_partInto 43 = .ok (.goto (-33), 3) := by decide +kernel
theorem dX1_partInto_46 : decode cX1_partInto 46 = .ok (.return_, 1) := by decide +kernel
set_option maxRecDepth 20000 in
theorem ggX1_bears_X1_bearsAt : GoodIn wsX1_bears wsX1_bearsAt := goodIn_r _ [7, 8, 9, 10, 11, 12, 13, 14, 15, 16, 17, 18, 19, 20, 21, 22, 23, 24, 25, 26, 27, 28, 29, 30, 31, 32, 33, 34, 35, 36, 37, 38, 39, 40, 41, 42, 43, 44] (by decide +kernel) (by decide +kernel)
set_option maxRecDepth 20000 in
theorem gX1_bears_X1_bearsAt : GoodIn wsX1_bears (wsV RX1 100 RX1 yX1_bearsAt wsX1_bearsAt) := goodIn_app (goodIn_of _ (by decide +kernel)) ggX1_bears_X1_bearsAt
theorem dX1_bears_0 : decode cX1_bears 0 = .ok (.iconst 0, 1) := by decide +kernel
theorem dX1_bears_1 : decode cX1_bears 1 = .ok (.istore_n 2, 1) := by decide +kernel
theorem dX1_bears_2 : decode cX1_bears 2 = .ok (.iload_n 2, 1) := by decide +kernel
theorem dX1_bears_3 : decode cX1_bears 3 = .ok (.aload_n 0, 1) := by decide +kernel
theorem dX1_bears_4 : decode cX1_bears 4 = .ok (.getfield 12, 3) := by decide +kernel
theorem dX1_bears_7 : decode cX1_bears 7 = .ok (.getfield 68, 3) := by decide +kernel
theorem dX1_bears_10 : decode cX1_bears 10 = .ok (.if_icmp .ge 31, 3) := by decide +kernel
theorem dX1_bears_13 : decode cX1_bears 13 = .ok (.aload_n 0, 1) := by decide +kernel
theorem dX1_bears_14 : decode cX1_bears 14 = .ok (.iload_n 2, 1) := by decide +kernel
theorem dX1_bears_15 : decode cX1_bears 15 = .ok (.iload_n 1, 1) := by decide +kernel
theorem dX1_bears_16 : decode cX1_bears 16 = .ok (.iconst 1, 1) := by decide +kernel
theorem dX1_bears_17 : decode cX1_bears 17 = .ok (.invokevirtual 100, 3) := by decide +kernel
theorem dX1_bears_20 : decode cX1_bears 20 = .ok (.ifCond .eq 13, 3) := by decide +kernel
theorem dX1_bears_23 : decode cX1_bears 23 = .ok (.aload_n 0, 1) := by decide +kernel
theorem dX1_bears_24 : decode cX1_bears 24 = .ok (.iload_n 2, 1) := by decide +kernel
theorem dX1_bears_25 : decode cX1_bears 25 = .ok (.iload_n 1, 1) := by decide +kernel
theorem dX1_bears_26 : decode cX1_bears 26 = .ok (.iconst 0, 1) := by decide +kernel
theorem dX1_bears_27 : decode cX1_bears 27 = .ok (.invokevirtual 100, 3) := by decide +kernel
theorem dX1_bears_30 : decode cX1_bears 30 = .ok (.ifCond .ne 5, 3) := by decide +kernel
theorem dX1_bears_33 : decode cX1_bears 33 = .ok (.iconst 0, 1) := by decide +kernel
theorem dX1_bears_34 : decode cX1_bears 34 = .ok (.ireturn, 1) := by decide +kernel
theorem dX1_bears_35 : decode cX1_bears 35 = .ok (.iinc 2 1, 3) := by decide +kernel
theorem dX1_bears_38 : decode cX1_bears 38 = .ok (.goto (-36), 3) := by decide +kernel
theorem dX1_bears_41 : decode cX1_bears 41 = .ok (.iconst 1, 1) := by decide +kernel
theorem dX1_bears_42 : decode cX1_bears 42 = .ok (.ireturn, 1) := by decide +kernel
set_option maxRecDepth 20000 in
theorem ggX1_bearsAt_X4_clear : GoodIn wsX1_bearsAt wsX4_clear := goodIn_r _ [9, 10, 11, 36, 37] (by decide +kernel) (by decide +kernel)
set_option maxRecDepth 20000 in
theorem gX1_bearsAt_X4_clear : GoodIn wsX1_bearsAt (wsV RX1 85 RX4 yX4_clear wsX4_clear) := goodIn_app (goodIn_of _ (by decide +kernel)) ggX1_bearsAt_X4_clear
set_option maxRecDepth 20000 in
theorem ggX1_bearsAt_X4_addProduct : GoodIn wsX1_bearsAt wsX4_addProduct := goodIn_r _ [15, 16, 11, 10, 36, 37] (by decide +kernel) (by decide +kernel)
set_option maxRecDepth 20000 in
theorem gX1_bearsAt_X4_addProduct : GoodIn wsX1_bearsAt (wsV RX1 92 RX4 yX4_addProduct wsX4_addProduct) := goodIn_app (goodIn_of _ (by decide +kernel)) ggX1_bearsAt_X4_addProduct
set_option maxRecDepth 20000 in
theorem ggX1_bearsAt_X4_fits : GoodIn wsX1_bearsAt wsX4_fits := goodIn_r _ [20, 10, 21, 22, 36, 37] (by decide +kernel) (by decide +kernel)
set_option maxRecDepth 20000 in
theorem gX1_bearsAt_X4_fits : GoodIn wsX1_bearsAt (wsV RX1 79 RX4 yX4_fits wsX4_fits) := goodIn_app (goodIn_of _ (by decide +kernel)) ggX1_bearsAt_X4_fits
theorem dX1_bearsAt_0 : decode cX1_bearsAt 0 = .ok (.aload_n 0, 1) := by decide +kernel
theorem dX1_bearsAt_1 : decode cX1_bearsAt 1 = .ok (.getfield 35, 3) := by decide +kernel
theorem dX1_bearsAt_4 : decode cX1_bearsAt 4 = .ok (.invokevirtual 85, 3) := by decide +kernel
theorem dX1_bearsAt_7 : decode cX1_bearsAt 7 = .ok (.iconst 0, 1) := by decide +kernel
theorem dX1_bearsAt_8 : decode cX1_bearsAt 8 = .ok (.istore 4, 2) := by decide +kernel
theorem dX1_bearsAt_10 : decode cX1_bearsAt 10 = .ok (.iload 4, 2) := by decide +kernel
theorem dX1_bearsAt_12 : decode cX1_bearsAt 12 = .ok (.aload_n 0, 1) := by decide +kernel
theorem dX1_bearsAt_13 : decode cX1_bearsAt 13 = .ok (.getfield 50, 3) := by decide +kernel
theorem dX1_bearsAt_16 : decode cX1_bearsAt 16 = .ok (.if_icmp .ge 50, 3) := by decide +kernel
theorem dX1_bearsAt_19 : decode cX1_bearsAt 19 = .ok (.aload_n 0, 1) := by decide +kernel
theorem dX1_bearsAt_20 : decode cX1_bearsAt 20 = .ok (.getfield 18, 3) := by decide +kernel
theorem dX1_bearsAt_23 : decode cX1_bearsAt 23 = .ok (.iload 4, 2) := by decide +kernel
theorem dX1_bearsAt_25 : decode cX1_bearsAt 25 = .ok (.aaload, 1) := by decide +kernel
theorem dX1_bearsAt_26 : decode cX1_bearsAt 26 = .ok (.getfield 88, 3) := by decide +kernel
theorem dX1_bearsAt_29 : decode cX1_bearsAt 29 = .ok (.iload_n 1, 1) := by decide +kernel
theorem dX1_bearsAt_30 : decode cX1_bearsAt 30 = .ok (.laload, 1) := by decide +kernel
theorem dX1_bearsAt_31 : decode cX1_bearsAt 31 = .ok (.lstore 5, 2) := by decide +kernel
theorem dX1_bearsAt_33 : decode cX1_bearsAt 33 = .ok (.lload 5, 2) := by decide +kernel
theorem dX1_bearsAt_35 : decode cX1_bearsAt 35 = .ok (.lconst 0, 1) := by decide +kernel
theorem dX1_bearsAt_36 : decode cX1_bearsAt 36 = .ok (.lcmp, 1) := by decide +kernel
theorem dX1_bearsAt_37 : decode cX1_bearsAt 37 = .ok (.ifCond .le 7, 3) := by decide +kernel
theorem dX1_bearsAt_40 : decode cX1_bearsAt 40 = .ok (.iconst 1, 1) := by decide +kernel
theorem dX1_bearsAt_41 : decode cX1_bearsAt 41 = .ok (.goto 4, 3) := by decide +kernel
theorem dX1_bearsAt_44 : decode cX1_bearsAt 44 = .ok (.iconst 0, 1) := by decide +kernel
theorem dX1_bearsAt_45 : decode cX1_bearsAt 45 = .ok (.iload_n 3, 1) := by decide +kernel
theorem dX1_bearsAt_46 : decode cX1_bearsAt 46 = .ok (.if_icmp .ne 14, 3) := by decide +kernel
theorem dX1_bearsAt_49 : decode cX1_bearsAt 49 = .ok (.aload_n 0, 1) := by decide +kernel
theorem dX1_bearsAt_50 : decode cX1_bearsAt 50 = .ok (.getfield 35, 3) := by decide +kernel
theorem dX1_bearsAt_53 : decode cX1_bearsAt 53 = .ok (.lload 5, 2) := by decide +kernel
theorem dX1_bearsAt_55 : decode cX1_bearsAt 55 = .ok (.iload_n 2, 1) := by decide +kernel
theorem dX1_bearsAt_56 : decode cX1_bearsAt 56 = .ok (.i2l, 1) := by decide +kernel
theorem dX1_bearsAt_57 : decode cX1_bearsAt 57 = .ok (.invokevirtual 92, 3) := by decide +kernel
theorem dX1_bearsAt_60 : decode cX1_bearsAt 60 = .ok (.iinc 4 1, 3) := by decide +kernel
theorem dX1_bearsAt_63 : decode cX1_bearsAt 63 = .ok (.goto (-53), 3) := by decide +kernel
theorem dX1_bearsAt_66 : decode cX1_bearsAt 66 = .ok (.aload_n 0, 1) := by decide +kernel
theorem dX1_bearsAt_67 : decode cX1_bearsAt 67 = .ok (.getfield 35, 3) := by decide +kernel
theorem dX1_bearsAt_70 : decode cX1_bearsAt 70 = .ok (.invokevirtual 79, 3) := by decide +kernel
theorem dX1_bearsAt_73 : decode cX1_bearsAt 73 = .ok (.ireturn, 1) := by decide +kernel
set_option maxRecDepth 20000 in
theorem ggX1_admit_X2_compareWith : GoodIn wsX1_admit wsX2_compareWith := goodIn_r _ [7, 8, 9, 33, 34, 35, 36] (by decide +kernel) (by decide +kernel)
set_option maxRecDepth 20000 in
theorem gX1_admit_X2_compareWith : GoodIn wsX1_admit (wsV RX1 104 RX2 yX2_compareWith wsX2_compareWith) := goodIn_app (goodIn_of _ (by decide +kernel)) ggX1_admit_X2_compareWith
set_option maxRecDepth 20000 in
theorem ggX1_admit_X2_copy : GoodIn wsX1_admit wsX2_copy := goodIn_r _ [13, 8, 9, 14, 15, 16, 6, 17, 18, 19, 20, 21, 22, 23, 33, 34, 35, 36] (by decide +kernel) (by decide +kernel)
set_option maxRecDepth 20000 in
theorem gX1_admit_X2_copy : GoodIn wsX1_admit (wsV RX1 57 RX2 yX2_copy wsX2_copy) := goodIn_app (goodIn_of _ (by decide +kernel)) ggX1_admit_X2_copy
theorem dX1_admit_0 : decode cX1_admit 0 = .ok (.iconst 0, 1) := by decide +kernel
theorem dX1_admit_1 : decode cX1_admit 1 = .ok (.istore_n 2, 1) := by decide +kernel
theorem dX1_admit_2 : decode cX1_admit 2 = .ok (.iload_n 2, 1) := by decide +kernel
theorem dX1_admit_3 : decode cX1_admit 3 = .ok (.aload_n 0, 1) := by decide +kernel
theorem dX1_admit_4 : decode cX1_admit 4 = .ok (.getfield 54, 3) := by decide +kernel
theorem dX1_admit_7 : decode cX1_admit 7 = .ok (.if_icmp .ge 22, 3) := by decide +kernel
theorem dX1_admit_10 : decode cX1_admit 10 = .ok (.aload_n 0, 1) := by decide +kernel
theorem dX1_admit_11 : decode cX1_admit 11 = .ok (.getfield 26, 3) := by decide +kernel
theorem dX1_admit_14 : decode cX1_admit 14 = .ok (.iload_n 2, 1) := by decide +kernel
theorem dX1_admit_15 : decode cX1_admit 15 = .ok (.aaload, 1) := by decide +kernel
theorem dX1_admit_16 : decode cX1_admit 16 = .ok (.aload_n 1, 1) := by decide +kernel
theorem dX1_admit_17 : decode cX1_admit 17 = .ok (.invokevirtual 104, 3) := by decide +kernel
theorem dX1_admit_20 : decode cX1_admit 20 = .ok (.ifCond .lt 9, 3) := by decide +kernel
theorem dX1_admit_23 : decode cX1_admit 23 = .ok (.iinc 2 1, 3) := by decide +kernel
theorem dX1_admit_26 : decode cX1_admit 26 = .ok (.goto (-24), 3) := by decide +kernel
theorem dX1_admit_29 : decode cX1_admit 29 = .ok (.iload_n 2, 1) := by decide +kernel
theorem dX1_admit_30 : decode cX1_admit 30 = .ok (.iconst 5, 1) := by decide +kernel
theorem dX1_admit_31 : decode cX1_admit 31 = .ok (.if_icmp .lt 5, 3) := by decide +kernel
theorem dX1_admit_34 : decode cX1_admit 34 = .ok (.iconst (-1), 1) := by decide +kernel
theorem dX1_admit_35 : decode cX1_admit 35 = .ok (.ireturn, 1) := by decide +kernel
theorem dX1_admit_36 : decode cX1_admit 36 = .ok (.aload_n 0, 1) := by decide +kernel
theorem dX1_admit_37 : decode cX1_admit 37 = .ok (.getfield 54, 3) := by decide +kernel
theorem dX1_admit_40 : decode cX1_admit 40 = .ok (.iconst 5, 1) := by decide +kernel
theorem dX1_admit_41 : decode cX1_admit 41 = .ok (.if_icmp .ge 13, 3) := by decide +kernel
theorem dX1_admit_44 : decode cX1_admit 44 = .ok (.aload_n 0, 1) := by decide +kernel
theorem dX1_admit_45 : decode cX1_admit 45 = .ok (.dup, 1) := by decide +kernel
theorem dX1_admit_46 : decode cX1_admit 46 = .ok (.getfield 54, 3) := by decide +kernel
theorem dX1_admit_49 : decode cX1_admit 49 = .ok (.iconst 1, 1) := by decide +kernel
theorem dX1_admit_50 : decode cX1_admit 50 = .ok (.iadd, 1) := by decide +kernel
theorem dX1_admit_51 : decode cX1_admit 51 = .ok (.putfield 54, 3) := by decide +kernel
theorem dX1_admit_54 : decode cX1_admit 54 = .ok (.aload_n 0, 1) := by decide +kernel
theorem dX1_admit_55 : decode cX1_admit 55 = .ok (.getfield 26, 3) := by decide +kernel
theorem dX1_admit_58 : decode cX1_admit 58 = .ok (.aload_n 0, 1) := by decide +kernel
theorem dX1_admit_59 : decode cX1_admit 59 = .ok (.getfield 54, 3) := by decide +kernel
theorem dX1_admit_62 : decode cX1_admit 62 = .ok (.iconst 1, 1) := by decide +kernel
theorem dX1_admit_63 : decode cX1_admit 63 = .ok (.isub, 1) := by decide +kernel
theorem dX1_admit_64 : decode cX1_admit 64 = .ok (.aaload, 1) := by decide +kernel
theorem dX1_admit_65 : decode cX1_admit 65 = .ok (.astore_n 3, 1) := by decide +kernel
theorem dX1_admit_66 : decode cX1_admit 66 = .ok (.aload_n 0, 1) := by decide +kernel
theorem dX1_admit_67 : decode cX1_admit 67 = .ok (.getfield 54, 3) := by decide +kernel
theorem dX1_admit_70 : decode cX1_admit 70 = .ok (.iconst 1, 1) := by decide +kernel
theorem dX1_admit_71 : decode cX1_admit 71 = .ok (.isub, 1) := by decide +kernel
theorem dX1_admit_72 : decode cX1_admit 72 = .ok (.istore 4, 2) := by decide +kernel
theorem dX1_admit_74 : decode cX1_admit 74 = .ok (.iload 4, 2) := by decide +kernel
theorem dX1_admit_76 : decode cX1_admit 76 = .ok (.iload_n 2, 1) := by decide +kernel
theorem dX1_admit_77 : decode cX1_admit 77 = .ok (.if_icmp .le 25, 3) := by decide +kernel
theorem dX1_admit_80 : decode cX1_admit 80 = .ok (.aload_n 0, 1) := by decide +kernel
theorem dX1_admit_81 : decode cX1_admit 81 = .ok (.getfield 26, 3) := by decide +kernel
theorem dX1_admit_84 : decode cX1_admit 84 = .ok (.iload 4, 2) := by decide +kernel
theorem dX1_admit_86 : decode cX1_admit 86 = .ok (.aload_n 0, 1) := by decide +kernel
theorem dX1_admit_87 : decode cX1_admit 87 = .ok (.getfield 26, 3) := by decide +kernel
theorem dX1_admit_90 : decode cX1_admit 90 = .ok (.iload 4, 2) := by decide +kernel
theorem dX1_admit_92 : decode cX1_admit 92 = .ok (.iconst 1, 1) := by decide +kernel
theorem dX1_admit_93 : decode cX1_admit 93 = .ok (.isub, 1) := by decide +kernel
theorem dX1_admit_94 : decode cX1_admit 94 = .ok (.aaload, 1) := by decide +kernel
theorem dX1_admit_95 : decode cX1_admit 95 = .ok (.aastore, 1) := by decide +kernel
theorem dX1_admit_96 : decode cX1_admit 96 = .ok (.iinc 4 (-1), 3) := by decide +kernel
theorem dX1_admit_99 : decode cX1_admit 99 = .ok (.goto (-25), 3) := by decide +kernel
theorem dX1_admit_102 : decode cX1_admit 102 = .ok (.aload_n 0, 1) := by decide +kernel
theorem dX1_admit_103 : decode cX1_admit 103 = .ok (.getfield 26, 3) := by decide +kernel
theorem dX1_admit_106 : decode cX1_admit 106 = .ok (.iload_n 2, 1) := by decide +kernel
theorem dX1_admit_107 : decode cX1_admit 107 = .ok (.aload_n 3, 1) := by decide +kernel
theorem dX1_admit_108 : decode cX1_admit 108 = .ok (.aastore, 1) := by decide +kernel
theorem dX1_admit_109 : decode cX1_admit 109 = .ok (.aload_n 3, 1) := by decide +kernel
theorem dX1_admit_110 : decode cX1_admit 110 = .ok (.aload_n 1, 1) := by decide +kernel
theorem dX1_admit_111 : decode cX1_admit 111 = .ok (.invokevirtual 57, 3) := by decide +kernel
theorem dX1_admit_114 : decode cX1_admit 114 = .ok (.iload_n 2, 1) := by decide +kernel
theorem dX1_admit_115 : decode cX1_admit 115 = .ok (.ireturn, 1) := by decide +kernel
