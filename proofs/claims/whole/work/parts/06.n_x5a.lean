set_option maxRecDepth 20000 in
theorem ggX5_init_X2_init : GoodIn wsX5_init wsX2_init := goodIn_r _ [25, 26, 2, 3, 27, 28, 29, 69, 70, 71, 72] (by decide +kernel) (by decide +kernel)
set_option maxRecDepth 20000 in
theorem gX5_init_X2_init_n15 : GoodIn wsX5_init (wsX2_init) := ggX5_init_X2_init
set_option maxRecDepth 20000 in
theorem ggX5_init_X3_init : GoodIn wsX5_init wsX3_init := goodIn_r _ [31, 32, 2, 3, 33, 34, 73, 74, 75] (by decide +kernel) (by decide +kernel)
set_option maxRecDepth 20000 in
theorem gX5_init_X3_init_n18 : GoodIn wsX5_init (wsX3_init) := ggX5_init_X3_init
set_option maxRecDepth 20000 in
theorem ggX5_init_X0_init : GoodIn wsX5_init wsX0_init := goodIn_r _ [36, 37, 2, 3, 33, 38, 39, 76, 77, 78] (by decide +kernel) (by decide +kernel)
set_option maxRecDepth 20000 in
theorem gX5_init_X0_init_n25 : GoodIn wsX5_init (wsX0_init) := ggX5_init_X0_init
set_option maxRecDepth 20000 in
theorem ggX5_init_X1_init : GoodIn wsX5_init wsX1_init := goodIn_r _ [42, 43, 2, 3, 44, 6, 7, 45, 46, 47, 48, 49, 50, 51, 21, 22, 52, 53, 24, 25, 26, 27, 28, 29, 54, 55, 56, 57, 58, 59, 60, 61, 62, 69, 70, 71, 72, 79, 80, 81, 82, 83, 84, 85, 86, 87, 88, 89] (by decide +kernel) (by decide +kernel)
set_option maxRecDepth 20000 in
theorem gX5_init_X1_init : GoodIn wsX5_init (wsX1_init) := ggX5_init_X1_init
set_option maxRecDepth 20000 in
theorem ggX5_init_X4_init : GoodIn wsX5_init wsX4_init := goodIn_r _ [55, 56, 2, 3] (by decide +kernel) (by decide +kernel)
set_option maxRecDepth 20000 in
theorem gX5_init_X4_init_n39 : GoodIn wsX5_init (wsX4_init) := ggX5_init_X4_init
theorem dX5_init_0 : decode cX5_init 0 = .ok (.aload_n 0, 1) := by decide +kernel
theorem dX5_init_1 : decode cX5_init 1 = .ok (.invokespecial 1, 3) := by decide +kernel
theorem dX5_init_4 : decode cX5_init 4 = .ok (.aload_n 0, 1) := by decide +kernel
theorem dX5_init_5 : decode cX5_init 5 = .ok (.bipush 60, 2) := by decide +kernel
theorem dX5_init_7 : decode cX5_init 7 = .ok (.anewarray 9, 3) := by decide +kernel
theorem dX5_init_10 : decode cX5_init 10 = .ok (.putfield 11, 3) := by decide +kernel
theorem dX5_init_13 : decode cX5_init 13 = .ok (.iconst 0, 1) := by decide +kernel
theorem dX5_init_14 : decode cX5_init 14 = .ok (.istore_n 1, 1) := by decide +kernel
theorem dX5_init_15 : decode cX5_init 15 = .ok (.iload_n 1, 1) := by decide +kernel
theorem dX5_init_16 : decode cX5_init 16 = .ok (.bipush 60, 2) := by decide +kernel
theorem dX5_init_18 : decode cX5_init 18 = .ok (.if_icmp .ge 22, 3) := by decide +kernel
theorem dX5_init_21 : decode cX5_init 21 = .ok (.aload_n 0, 1) := by decide +kernel
theorem dX5_init_22 : decode cX5_init 22 = .ok (.getfield 11, 3) := by decide +kernel
theorem dX5_init_25 : decode cX5_init 25 = .ok (.iload_n 1, 1) := by decide +kernel
theorem dX5_init_26 : decode cX5_init 26 = .ok (.new 9, 3) := by decide +kernel
theorem dX5_init_29 : decode cX5_init 29 = .ok (.dup, 1) := by decide +kernel
theorem dX5_init_30 : decode cX5_init 30 = .ok (.invokespecial 15, 3) := by decide +kernel
theorem dX5_init_33 : decode cX5_init 33 = .ok (.aastore, 1) := by decide +kernel
theorem dX5_init_34 : decode cX5_init 34 = .ok (.iinc 1 1, 3) := by decide +kernel
theorem dX5_init_37 : decode cX5_init 37 = .ok (.goto (-22), 3) := by decide +kernel
theorem dX5_init_40 : decode cX5_init 40 = .ok (.aload_n 0, 1) := by decide +kernel
theorem dX5_init_41 : decode cX5_init 41 = .ok (.new 16, 3) := by decide +kernel
theorem dX5_init_44 : decode cX5_init 44 = .ok (.dup, 1) := by decide +kernel
theorem dX5_init_45 : decode cX5_init 45 = .ok (.invokespecial 18, 3) := by decide +kernel
theorem dX5_init_48 : decode cX5_init 48 = .ok (.putfield 19, 3) := by decide +kernel
theorem dX5_init_51 : decode cX5_init 51 = .ok (.aload_n 0, 1) := by decide +kernel
theorem dX5_init_52 : decode cX5_init 52 = .ok (.new 23, 3) := by decide +kernel
theorem dX5_init_55 : decode cX5_init 55 = .ok (.dup, 1) := by decide +kernel
theorem dX5_init_56 : decode cX5_init 56 = .ok (.invokespecial 25, 3) := by decide +kernel
theorem dX5_init_59 : decode cX5_init 59 = .ok (.putfield 26, 3) := by decide +kernel
theorem dX5_init_62 : decode cX5_init 62 = .ok (.aload_n 0, 1) := by decide +kernel
theorem dX5_init_63 : decode cX5_init 63 = .ok (.new 30, 3) := by decide +kernel
theorem dX5_init_66 : decode cX5_init 66 = .ok (.dup, 1) := by decide +kernel
theorem dX5_init_67 : decode cX5_init 67 = .ok (.invokespecial 32, 3) := by decide +kernel
theorem dX5_init_70 : decode cX5_init 70 = .ok (.putfield 33, 3) := by decide +kernel
theorem dX5_init_73 : decode cX5_init 73 = .ok (.aload_n 0, 1) := by decide +kernel
theorem dX5_init_74 : decode cX5_init 74 = .ok (.new 37, 3) := by decide +kernel
theorem dX5_init_77 : decode cX5_init 77 = .ok (.dup, 1) := by decide +kernel
theorem dX5_init_78 : decode cX5_init 78 = .ok (.invokespecial 39, 3) := by decide +kernel
theorem dX5_init_81 : decode cX5_init 81 = .ok (.putfield 40, 3) := by decide +kernel
theorem dX5_init_84 : decode cX5_init 84 = .ok (.return_, 1) := by decide +kernel
set_option maxRecDepth 20000 in
theorem ggX5_make_X5_isFull : GoodIn wsX5_make wsX5_isFull := goodIn_r _ [7, 2, 25, 26, 27, 28, 29, 30] (by decide +kernel) (by decide +kernel)
set_option maxRecDepth 20000 in
theorem gX5_make_X5_isFull : GoodIn wsX5_make (wsV RX5 44 RX5 yX5_isFull wsX5_isFull) := goodIn_app (goodIn_of _ (by decide +kernel)) ggX5_make_X5_isFull
set_option maxRecDepth 20000 in
theorem ggX5_make_X2_form : GoodIn wsX5_make wsX2_form := goodIn_r _ [12, 13, 14, 15, 31, 32, 33, 34] (by decide +kernel) (by decide +kernel)
set_option maxRecDepth 20000 in
theorem gX5_make_X2_form : GoodIn wsX5_make (wsV RX5 52 RX2 yX2_form wsX2_form) := goodIn_app (goodIn_of _ (by decide +kernel)) ggX5_make_X2_form
set_option maxRecDepth 20000 in
theorem ggX5_make_X2_clear : GoodIn wsX5_make wsX2_clear := goodIn_r _ [19, 15, 20, 31, 32, 33, 34] (by decide +kernel) (by decide +kernel)
set_option maxRecDepth 20000 in
theorem gX5_make_X2_clear : GoodIn wsX5_make (wsV RX5 56 RX2 yX2_clear wsX2_clear) := goodIn_app (goodIn_of _ (by decide +kernel)) ggX5_make_X2_clear
set_option maxRecDepth 20000 in
theorem ggX5_make_X5_takeNumber : GoodIn wsX5_make wsX5_takeNumber := goodIn_r _ [24, 2, 25, 26, 27, 28, 29, 30] (by decide +kernel) (by decide +kernel)
set_option maxRecDepth 20000 in
theorem gX5_make_X5_takeNumber : GoodIn wsX5_make (wsV RX5 59 RX5 yX5_takeNumber wsX5_takeNumber) := goodIn_app (goodIn_of _ (by decide +kernel)) ggX5_make_X5_takeNumber
theorem dX5_make_0 : decode cX5_make 0 = .ok (.iload_n 1, 1) := by decide +kernel
theorem dX5_make_1 : decode cX5_make 1 = .ok (.ifCond .lt 8, 3) := by decide +kernel
theorem dX5_make_4 : decode cX5_make 4 = .ok (.iload_n 1, 1) := by decide +kernel
theorem dX5_make_5 : decode cX5_make 5 = .ok (.iconst 3, 1) := by decide +kernel
theorem dX5_make_6 : decode cX5_make 6 = .ok (.if_icmp .le 6, 3) := by decide +kernel
theorem dX5_make_9 : decode cX5_make 9 = .ok (.bipush (-3), 2) := by decide +kernel
theorem dX5_make_11 : decode cX5_make 11 = .ok (.ireturn, 1) := by decide +kernel
theorem dX5_make_12 : decode cX5_make 12 = .ok (.iload_n 1, 1) := by decide +kernel
theorem dX5_make_13 : decode cX5_make 13 = .ok (.iconst 3, 1) := by decide +kernel
theorem dX5_make_14 : decode cX5_make 14 = .ok (.if_icmp .ne 26, 3) := by decide +kernel
theorem dX5_make_17 : decode cX5_make 17 = .ok (.iload_n 2, 1) := by decide +kernel
theorem dX5_make_18 : decode cX5_make 18 = .ok (.bipush 6, 2) := by decide +kernel
theorem dX5_make_20 : decode cX5_make 20 = .ok (.if_icmp .gt 17, 3) := by decide +kernel
theorem dX5_make_23 : decode cX5_make 23 = .ok (.iload_n 3, 1) := by decide +kernel
theorem dX5_make_24 : decode cX5_make 24 = .ok (.bipush 6, 2) := by decide +kernel
theorem dX5_make_26 : decode cX5_make 26 = .ok (.if_icmp .gt 11, 3) := by decide +kernel
theorem dX5_make_29 : decode cX5_make 29 = .ok (.iload_n 2, 1) := by decide +kernel
theorem dX5_make_30 : decode cX5_make 30 = .ok (.ifCond .ne 10, 3) := by decide +kernel
theorem dX5_make_33 : decode cX5_make 33 = .ok (.iload_n 3, 1) := by decide +kernel
theorem dX5_make_34 : decode cX5_make 34 = .ok (.ifCond .ne 6, 3) := by decide +kernel
theorem dX5_make_37 : decode cX5_make 37 = .ok (.bipush (-3), 2) := by decide +kernel
theorem dX5_make_39 : decode cX5_make 39 = .ok (.ireturn, 1) := by decide +kernel
theorem dX5_make_40 : decode cX5_make 40 = .ok (.aload_n 0, 1) := by decide +kernel
theorem dX5_make_41 : decode cX5_make 41 = .ok (.invokevirtual 44, 3) := by decide +kernel
theorem dX5_make_44 : decode cX5_make 44 = .ok (.ifCond .eq 6, 3) := by decide +kernel
theorem dX5_make_47 : decode cX5_make 47 = .ok (.bipush (-4), 2) := by decide +kernel
theorem dX5_make_49 : decode cX5_make 49 = .ok (.ireturn, 1) := by decide +kernel
theorem dX5_make_50 : decode cX5_make 50 = .ok (.iload_n 1, 1) := by decide +kernel
theorem dX5_make_51 : decode cX5_make 51 = .ok (.iconst 3, 1) := by decide +kernel
theorem dX5_make_52 : decode cX5_make 52 = .ok (.if_icmp .ne 14, 3) := by decide +kernel
theorem dX5_make_55 : decode cX5_make 55 = .ok (.iload_n 2, 1) := by decide +kernel
theorem dX5_make_56 : decode cX5_make 56 = .ok (.ifCond .lt 7, 3) := by decide +kernel
theorem dX5_make_59 : decode cX5_make 59 = .ok (.iload_n 3, 1) := by decide +kernel
theorem dX5_make_60 : decode cX5_make 60 = .ok (.ifCond .ge 6, 3) := by decide +kernel
theorem dX5_make_63 : decode cX5_make 63 = .ok (.bipush (-14), 2) := by decide +kernel
theorem dX5_make_65 : decode cX5_make 65 = .ok (.ireturn, 1) := by decide +kernel
theorem dX5_make_66 : decode cX5_make 66 = .ok (.aload_n 0, 1) := by decide +kernel
theorem dX5_make_67 : decode cX5_make 67 = .ok (.getfield 11, 3) := by decide +kernel
theorem dX5_make_70 : decode cX5_make 70 = .ok (.aload_n 0, 1) := by decide +kernel
theorem dX5_make_71 : decode cX5_make 71 = .ok (.getfield 48, 3) := by decide +kernel
theorem dX5_make_74 : decode cX5_make 74 = .ok (.aaload, 1) := by decide +kernel
theorem dX5_make_75 : decode cX5_make 75 = .ok (.astore 4, 2) := by decide +kernel
theorem dX5_make_77 : decode cX5_make 77 = .ok (.iload_n 1, 1) := by decide +kernel
theorem dX5_make_78 : decode cX5_make 78 = .ok (.iconst 3, 1) := by decide +kernel
theorem dX5_make_79 : decode cX5_make 79 = .ok (.if_icmp .ne 16, 3) := by decide +kernel
theorem dX5_make_82 : decode cX5_make 82 = .ok (.aload 4, 2) := by decide +kernel
theorem dX5_make_84 : decode cX5_make 84 = .ok (.iconst 3, 1) := by decide +kernel
theorem dX5_make_85 : decode cX5_make 85 = .ok (.iload_n 2, 1) := by decide +kernel
theorem dX5_make_86 : decode cX5_make 86 = .ok (.iload_n 2, 1) := by decide +kernel
theorem dX5_make_87 : decode cX5_make 87 = .ok (.iload_n 3, 1) := by decide +kernel
theorem dX5_make_88 : decode cX5_make 88 = .ok (.iadd, 1) := by decide +kernel
theorem dX5_make_89 : decode cX5_make 89 = .ok (.invokevirtual 52, 3) := by decide +kernel
theorem dX5_make_92 : decode cX5_make 92 = .ok (.goto 21, 3) := by decide +kernel
theorem dX5_make_95 : decode cX5_make 95 = .ok (.aload 4, 2) := by decide +kernel
theorem dX5_make_97 : decode cX5_make 97 = .ok (.iload_n 1, 1) := by decide +kernel
theorem dX5_make_98 : decode cX5_make 98 = .ok (.iload_n 1, 1) := by decide +kernel
theorem dX5_make_99 : decode cX5_make 99 = .ok (.ifCond .ne 7, 3) := by decide +kernel
theorem dX5_make_102 : decode cX5_make 102 = .ok (.iconst 0, 1) := by decide +kernel
theorem dX5_make_103 : decode cX5_make 103 = .ok (.goto 4, 3) := by decide +kernel
theorem dX5_make_106 : decode cX5_make 106 = .ok (.iconst 1, 1) := by decide +kernel
theorem dX5_make_107 : decode cX5_make 107 = .ok (.iload_n 1, 1) := by decide +kernel
theorem dX5_make_108 : decode cX5_make 108 = .ok (.iconst 1, 1) := by decide +kernel
theorem dX5_make_109 : decode cX5_make 109 = .ok (.iadd, 1) := by decide +kernel
theorem dX5_make_110 : decode cX5_make 110 = .ok (.invokevirtual 52, 3) := by decide +kernel
theorem dX5_make_113 : decode cX5_make 113 = .ok (.aload 4, 2) := by decide +kernel
theorem dX5_make_115 : decode cX5_make 115 = .ok (.invokevirtual 56, 3) := by decide +kernel
theorem dX5_make_118 : decode cX5_make 118 = .ok (.aload_n 0, 1) := by decide +kernel
theorem dX5_make_119 : decode cX5_make 119 = .ok (.invokevirtual 59, 3) := by decide +kernel
theorem dX5_make_122 : decode cX5_make 122 = .ok (.ireturn, 1) := by decide +kernel
set_option maxRecDepth 20000 in
theorem ggX5_nothing_X5_isFull : GoodIn wsX5_nothing wsX5_isFull := goodIn_r _ [7, 2, 20, 21, 22, 23, 24, 25] (by decide +kernel) (by decide +kernel)
set_option maxRecDepth 20000 in
theorem gX5_nothing_X5_isFull : GoodIn wsX5_nothing (wsV RX5 44 RX5 yX5_isFull wsX5_isFull) := goodIn_app (goodIn_of _ (by decide +kernel)) ggX5_nothing_X5_isFull
set_option maxRecDepth 20000 in
theorem ggX5_nothing_X2_form : GoodIn wsX5_nothing wsX2_form := goodIn_r _ [12, 13, 14, 15, 26, 27, 28, 29] (by decide +kernel) (by decide +kernel)
set_option maxRecDepth 20000 in
theorem gX5_nothing_X2_form : GoodIn wsX5_nothing (wsV RX5 52 RX2 yX2_form wsX2_form) := goodIn_app (goodIn_of _ (by decide +kernel)) ggX5_nothing_X2_form
set_option maxRecDepth 20000 in
theorem ggX5_nothing_X5_takeNumber : GoodIn wsX5_nothing wsX5_takeNumber := goodIn_r _ [19, 2, 20, 21, 22, 23, 24, 25] (by decide +kernel) (by decide +kernel)
set_option maxRecDepth 20000 in
theorem gX5_nothing_X5_takeNumber : GoodIn wsX5_nothing (wsV RX5 59 RX5 yX5_takeNumber wsX5_takeNumber) := goodIn_app (goodIn_of _ (by decide +kernel)) ggX5_nothing_X5_takeNumber
theorem dX5_nothing_0 : decode cX5_nothing 0 = .ok (.aload_n 0, 1) := by decide +kernel
theorem dX5_nothing_1 : decode cX5_nothing 1 = .ok (.invokevirtual 44, 3) := by decide +kernel
theorem dX5_nothing_4 : decode cX5_nothing 4 = .ok (.ifCond .eq 6, 3) := by decide +kernel
theorem dX5_nothing_7 : decode cX5_nothing 7 = .ok (.bipush (-4), 2) := by decide +kernel
theorem dX5_nothing_9 : decode cX5_nothing 9 = .ok (.ireturn, 1) := by decide +kernel
theorem dX5_nothing_10 : decode cX5_nothing 10 = .ok (.aload_n 0, 1) := by decide +kernel
theorem dX5_nothing_11 : decode cX5_nothing 11 = .ok (.getfield 11, 3) := by decide +kernel
theorem dX5_nothing_14 : decode cX5_nothing 14 = .ok (.aload_n 0, 1) := by decide +kernel
theorem dX5_nothing_15 : decode cX5_nothing 15 = .ok (.getfield 48, 3) := by decide +kernel
theorem dX5_nothing_18 : decode cX5_nothing 18 = .ok (.aaload, 1) := by decide +kernel
theorem dX5_nothing_19 : decode cX5_nothing 19 = .ok (.iconst (-1), 1) := by decide +kernel
theorem dX5_nothing_20 : decode cX5_nothing 20 = .ok (.iconst 0, 1) := by decide +kernel
theorem dX5_nothing_21 : decode cX5_nothing 21 = .ok (.iconst 0, 1) := by decide +kernel
theorem dX5_nothing_22 : decode cX5_nothing 22 = .ok (.invokevirtual 52, 3) := by decide +kernel
theorem dX5_nothing_25 : decode cX5_nothing 25 = .ok (.aload_n 0, 1) := by decide +kernel
theorem dX5_nothing_26 : decode cX5_nothing 26 = .ok (.invokevirtual 59, 3) := by decide +kernel
theorem dX5_nothing_29 : decode cX5_nothing 29 = .ok (.ireturn, 1) := by decide +kernel
set_option maxRecDepth 20000 in
theorem ggX5_set_X5_isNumber : GoodIn wsX5_set wsX5_isNumber := goodIn_r _ [7, 8, 20, 21, 22, 23, 24, 25] (by decide +kernel) (by decide +kernel)
set_option maxRecDepth 20000 in
theorem gX5_set_X5_isNumber : GoodIn wsX5_set (wsV RX5 63 RX5 yX5_isNumber wsX5_isNumber) := goodIn_app (goodIn_of _ (by decide +kernel)) ggX5_set_X5_isNumber
set_option maxRecDepth 20000 in
theorem ggX5_set_X2_isNothing : GoodIn wsX5_set wsX2_isNothing := goodIn_r _ [13, 14, 26, 27, 28, 29] (by decide +kernel) (by decide +kernel)
set_option maxRecDepth 20000 in
theorem gX5_set_X2_isNothing : GoodIn wsX5_set (wsV RX5 67 RX2 yX2_isNothing wsX2_isNothing) := goodIn_app (goodIn_of _ (by decide +kernel)) ggX5_set_X2_isNothing
set_option maxRecDepth 20000 in
theorem ggX5_set_X2_hasLevel : GoodIn wsX5_set wsX2_hasLevel := goodIn_r _ [18, 19, 26, 27, 28, 29] (by decide +kernel) (by decide +kernel)
set_option maxRecDepth 20000 in
theorem gX5_set_X2_hasLevel : GoodIn wsX5_set (wsV RX5 70 RX2 yX2_hasLevel wsX2_hasLevel) := goodIn_app (goodIn_of _ (by decide +kernel)) ggX5_set_X2_hasLevel
theorem dX5_set_0 : decode cX5_set 0 = .ok (.aload_n 0, 1) := by decide +kernel
theorem dX5_set_1 : decode cX5_set 1 = .ok (.iload_n 1, 1) := by decide +kernel
theorem dX5_set_2 : decode cX5_set 2 = .ok (.invokevirtual 63, 3) := by decide +kernel
theorem dX5_set_5 : decode cX5_set 5 = .ok (.ifCond .ne 6, 3) := by decide +kernel
theorem dX5_set_8 : decode cX5_set 8 = .ok (.bipush (-2), 2) := by decide +kernel
theorem dX5_set_10 : decode cX5_set 10 = .ok (.ireturn, 1) := by decide +kernel
theorem dX5_set_11 : decode cX5_set 11 = .ok (.aload_n 0, 1) := by decide +kernel
theorem dX5_set_12 : decode cX5_set 12 = .ok (.getfield 11, 3) := by decide +kernel
theorem dX5_set_15 : decode cX5_set 15 = .ok (.iload_n 1, 1) := by decide +kernel
theorem dX5_set_16 : decode cX5_set 16 = .ok (.aaload, 1) := by decide +kernel
theorem dX5_set_17 : decode cX5_set 17 = .ok (.invokevirtual 67, 3) := by decide +kernel
theorem dX5_set_20 : decode cX5_set 20 = .ok (.ifCond .eq 6, 3) := by decide +kernel
theorem dX5_set_23 : decode cX5_set 23 = .ok (.bipush (-11), 2) := by decide +kernel
theorem dX5_set_25 : decode cX5_set 25 = .ok (.ireturn, 1) := by decide +kernel
theorem dX5_set_26 : decode cX5_set 26 = .ok (.aload_n 0, 1) := by decide +kernel
theorem dX5_set_27 : decode cX5_set 27 = .ok (.getfield 11, 3) := by decide +kernel
theorem dX5_set_30 : decode cX5_set 30 = .ok (.iload_n 1, 1) := by decide +kernel
theorem dX5_set_31 : decode cX5_set 31 = .ok (.aaload, 1) := by decide +kernel
theorem dX5_set_32 : decode cX5_set 32 = .ok (.iload_n 2, 1) := by decide +kernel
theorem dX5_set_33 : decode cX5_set 33 = .ok (.invokevirtual 70, 3) := by decide +kernel
theorem dX5_set_36 : decode cX5_set 36 = .ok (.ifCond .ne 6, 3) := by decide +kernel
theorem dX5_set_39 : decode cX5_set 39 = .ok (.bipush (-13), 2) := by decide +kernel
theorem dX5_set_41 : decode cX5_set 41 = .ok (.ireturn, 1) := by decide +kernel
theorem dX5_set_42 : decode cX5_set 42 = .ok (.aload_n 0, 1) := by decide +kernel
theorem dX5_set_43 : decode cX5_set 43 = .ok (.getfield 11, 3) := by decide +kernel
theorem dX5_set_46 : decode cX5_set 46 = .ok (.iload_n 1, 1) := by decide +kernel
theorem dX5_set_47 : decode cX5_set 47 = .ok (.aaload, 1) := by decide +kernel
theorem dX5_set_48 : decode cX5_set 48 = .ok (.getfield 73, 3) := by decide +kernel
theorem dX5_set_51 : decode cX5_set 51 = .ok (.iload_n 2, 1) := by decide +kernel
theorem dX5_set_52 : decode cX5_set 52 = .ok (.lload_n 3, 1) := by decide +kernel
theorem dX5_set_53 : decode cX5_set 53 = .ok (.lastore, 1) := by decide +kernel
theorem dX5_set_54 : decode cX5_set 54 = .ok (.iconst 1, 1) := by decide +kernel
theorem dX5_set_55 : decode cX5_set 55 = .ok (.ireturn, 1) := by decide +kernel
theorem dX5_at_0 : decode cX5_at 0 = .ok (.aload_n 0, 1) := by decide +kernel
theorem dX5_at_1 : decode cX5_at 1 = .ok (.iload_n 1, 1) := by decide +kernel
theorem dX5_at_2 : decode cX5_at 2 = .ok (.invokevirtual 63, 3) := by decide +kernel
theorem dX5_at_5 : decode cX5_at 5 = .ok (.ifCond .ne 13, 3) := by decide +kernel
theorem dX5_at_8 : decode cX5_at 8 = .ok (.new 77, 3) := by decide +kernel
theorem dX5_at_11 : decode cX5_at 11 = .ok (.dup, 1) := by decide +kernel
theorem dX5_at_12 : decode cX5_at 12 = .ok (.ldc 79, 2) := by decide +kernel
theorem dX5_at_14 : decode cX5_at 14 = .ok (.invokespecial 81, 3) := by decide +kernel
theorem dX5_at_17 : decode cX5_at 17 = .ok (.athrow, 1) := by decide +kernel
theorem dX5_at_18 : decode cX5_at 18 = .ok (.aload_n 0, 1) := by decide +kernel
theorem dX5_at_19 : decode cX5_at 19 = .ok (.getfield 11, 3) := by decide +kernel
theorem dX5_at_22 : decode cX5_at 22 = .ok (.iload_n 1, 1) := by decide +kernel
theorem dX5_at_23 : decode cX5_at 23 = .ok (.aaload, 1) := by decide +kernel
theorem dX5_at_24 : decode cX5_at 24 = .ok (.invokevirtual 67, 3) := by decide +kernel
theorem dX5_at_27 : decode cX5_at 27 = .ok (.ifCond .eq 13, 3) := by decide +kernel
theorem dX5_at_30 : decode cX5_at 30 = .ok (.new 84, 3) := by decide +kernel
theorem dX5_at_33 : decode cX5_at 33 = .ok (.dup, 1) := by decide +kernel
theorem dX5_at_34 : decode cX5_at 34 = .ok (.ldc 86, 2) := by decide +kernel
theorem dX5_at_36 : decode cX5_at 36 = .ok (.invokespecial 88, 3) := by decide +kernel
theorem dX5_at_39 : decode cX5_at 39 = .ok (.athrow, 1) := by decide +kernel
theorem dX5_at_40 : decode cX5_at 40 = .ok (.aload_n 0, 1) := by decide +kernel
theorem dX5_at_41 : decode cX5_at 41 = .ok (.getfield 11, 3) := by decide +kernel
theorem dX5_at_44 : decode cX5_at 44 = .ok (.iload_n 1, 1) := by decide +kernel
theorem dX5_at_45 : decode cX5_at 45 = .ok (.aaload, 1) := by decide +kernel
theorem dX5_at_46 : decode cX5_at 46 = .ok (.iload_n 2, 1) := by decide +kernel
theorem dX5_at_47 : decode cX5_at 47 = .ok (.invokevirtual 70, 3) := by decide +kernel
theorem dX5_at_50 : decode cX5_at 50 = .ok (.ifCond .ne 13, 3) := by decide +kernel
theorem dX5_at_53 : decode cX5_at 53 = .ok (.new 77, 3) := by decide +kernel
theorem dX5_at_56 : decode cX5_at 56 = .ok (.dup, 1) := by decide +kernel
theorem dX5_at_57 : decode cX5_at 57 = .ok (.ldc 89, 2) := by decide +kernel
theorem dX5_at_59 : decode cX5_at 59 = .ok (.invokespecial 81, 3) := by decide +kernel
theorem dX5_at_62 : decode cX5_at 62 = .ok (.athrow, 1) := by decide +kernel
theorem dX5_at_63 : decode cX5_at 63 = .ok (.aload_n 0, 1) := by decide +kernel
theorem dX5_at_64 : decode cX5_at 64 = .ok (.getfield 11, 3) := by decide +kernel
theorem dX5_at_67 : decode cX5_at 67 = .ok (.iload_n 1, 1) := by decide +kernel
theorem dX5_at_68 : decode cX5_at 68 = .ok (.aaload, 1) := by decide +kernel
theorem dX5_at_69 : decode cX5_at 69 = .ok (.getfield 73, 3) := by decide +kernel
theorem dX5_at_72 : decode cX5_at 72 = .ok (.iload_n 2, 1) := by decide +kernel
theorem dX5_at_73 : decode cX5_at 73 = .ok (.laload, 1) := by decide +kernel
theorem dX5_at_74 : decode cX5_at 74 = .ok (.lreturn, 1) := by decide +kernel
set_option maxRecDepth 20000 in
theorem ggX5_told_X5_isNumber : GoodIn wsX5_told wsX5_isNumber := goodIn_r _ [9, 10, 23, 24, 25, 26, 27, 28] (by decide +kernel) (by decide +kernel)
set_option maxRecDepth 20000 in
theorem gX5_told_X5_isNumber : GoodIn wsX5_told (wsV RX5 63 RX5 yX5_isNumber wsX5_isNumber) := goodIn_app (goodIn_of _ (by decide +kernel)) ggX5_told_X5_isNumber
set_option maxRecDepth 20000 in
theorem ggX5_told_X2_isNothing : GoodIn wsX5_told wsX2_isNothing := goodIn_r _ [15, 16, 29, 30, 31, 32] (by decide +kernel) (by decide +kernel)
set_option maxRecDepth 20000 in
theorem gX5_told_X2_isNothing : GoodIn wsX5_told (wsV RX5 67 RX2 yX2_isNothing wsX2_isNothing) := goodIn_app (goodIn_of _ (by decide +kernel)) ggX5_told_X2_isNothing
set_option maxRecDepth 20000 in
theorem ggX5_told_X2_isFeasible : GoodIn wsX5_told wsX2_isFeasible := goodIn_r _ [20, 21, 22, 29, 30, 31, 32] (by decide +kernel) (by decide +kernel)
set_option maxRecDepth 20000 in
theorem gX5_told_X2_isFeasible : GoodIn wsX5_told (wsV RX5 100 RX2 yX2_isFeasible wsX2_isFeasible) := goodIn_app (goodIn_of _ (by decide +kernel)) ggX5_told_X2_isFeasible
theorem dX5_told_0 : decode cX5_told 0 = .ok (.aload_n 0, 1) := by decide +kernel
theorem dX5_told_1 : decode cX5_told 1 = .ok (.iload_n 1, 1) := by decide +kernel
theorem dX5_told_2 : decode cX5_told 2 = .ok (.invokevirtual 63, 3) := by decide +kernel
theorem dX5_told_5 : decode cX5_told 5 = .ok (.ifCond .ne 6, 3) := by decide +kernel
theorem dX5_told_8 : decode cX5_told 8 = .ok (.bipush (-2), 2) := by decide +kernel
theorem dX5_told_10 : decode cX5_told 10 = .ok (.ireturn, 1) := by decide +kernel
theorem dX5_told_11 : decode cX5_told 11 = .ok (.iload_n 2, 1) := by decide +kernel
theorem dX5_told_12 : decode cX5_told 12 = .ok (.ifCond .lt 8, 3) := by decide +kernel
theorem dX5_told_15 : decode cX5_told 15 = .ok (.iload_n 2, 1) := by decide +kernel
theorem dX5_told_16 : decode cX5_told 16 = .ok (.iconst 3, 1) := by decide +kernel
theorem dX5_told_17 : decode cX5_told 17 = .ok (.if_icmp .le 6, 3) := by decide +kernel
theorem dX5_told_20 : decode cX5_told 20 = .ok (.bipush (-3), 2) := by decide +kernel
theorem dX5_told_22 : decode cX5_told 22 = .ok (.ireturn, 1) := by decide +kernel
theorem dX5_told_23 : decode cX5_told 23 = .ok (.aload_n 0, 1) := by decide +kernel
theorem dX5_told_24 : decode cX5_told 24 = .ok (.getfield 11, 3) := by decide +kernel
theorem dX5_told_27 : decode cX5_told 27 = .ok (.iload_n 1, 1) := by decide +kernel
theorem dX5_told_28 : decode cX5_told 28 = .ok (.aaload, 1) := by decide +kernel
theorem dX5_told_29 : decode cX5_told 29 = .ok (.astore_n 3, 1) := by decide +kernel
theorem dX5_told_30 : decode cX5_told 30 = .ok (.aload_n 3, 1) := by decide +kernel
theorem dX5_told_31 : decode cX5_told 31 = .ok (.invokevirtual 67, 3) := by decide +kernel
theorem dX5_told_34 : decode cX5_told 34 = .ok (.ifCond .eq 6, 3) := by decide +kernel
theorem dX5_told_37 : decode cX5_told 37 = .ok (.bipush (-11), 2) := by decide +kernel
theorem dX5_told_39 : decode cX5_told 39 = .ok (.ireturn, 1) := by decide +kernel
theorem dX5_told_40 : decode cX5_told 40 = .ok (.iload_n 2, 1) := by decide +kernel
theorem dX5_told_41 : decode cX5_told 41 = .ok (.tableswitch 42 0 2 #[27, 32, 37], 27) := by decide +kernel
theorem dX5_told_68 : decode cX5_told 68 = .ok (.aload_n 3, 1) := by decide +kernel
theorem dX5_told_69 : decode cX5_told 69 = .ok (.getfield 91, 3) := by decide +kernel
theorem dX5_told_72 : decode cX5_told 72 = .ok (.ireturn, 1) := by decide +kernel
theorem dX5_told_73 : decode cX5_told 73 = .ok (.aload_n 3, 1) := by decide +kernel
theorem dX5_told_74 : decode cX5_told 74 = .ok (.getfield 94, 3) := by decide +kernel
theorem dX5_told_77 : decode cX5_told 77 = .ok (.ireturn, 1) := by decide +kernel
theorem dX5_told_78 : decode cX5_told 78 = .ok (.aload_n 3, 1) := by decide +kernel
theorem dX5_told_79 : decode cX5_told 79 = .ok (.getfield 97, 3) := by decide +kernel
theorem dX5_told_82 : decode cX5_told 82 = .ok (.ireturn, 1) := by decide +kernel
theorem dX5_told_83 : decode cX5_told 83 = .ok (.aload_n 3, 1) := by decide +kernel
theorem dX5_told_84 : decode cX5_told 84 = .ok (.invokevirtual 100, 3) := by decide +kernel
theorem dX5_told_87 : decode cX5_told 87 = .ok (.ifCond .eq 7, 3) := by decide +kernel
theorem dX5_told_90 : decode cX5_told 90 = .ok (.iconst 1, 1) := by decide +kernel
theorem dX5_told_91 : decode cX5_told 91 = .ok (.goto 4, 3) := by decide +kernel
theorem dX5_told_94 : decode cX5_told 94 = .ok (.iconst 0, 1) := by decide +kernel
theorem dX5_told_95 : decode cX5_told 95 = .ok (.ireturn, 1) := by decide +kernel
set_option maxRecDepth 20000 in
theorem ggX5_act_X5_isNumber : GoodIn wsX5_act wsX5_isNumber := goodIn_r _ [7, 2, 74, 75, 76, 77, 78, 79] (by decide +kernel) (by decide +kernel)
set_option maxRecDepth 20000 in
theorem gX5_act_X5_isNumber : GoodIn wsX5_act (wsV RX5 63 RX5 yX5_isNumber wsX5_isNumber) := goodIn_app (goodIn_of _ (by decide +kernel)) ggX5_act_X5_isNumber
set_option maxRecDepth 20000 in
theorem ggX5_act_X5_isFull : GoodIn wsX5_act wsX5_isFull := goodIn_r _ [11, 2, 74, 75, 76, 77, 78, 79] (by decide +kernel) (by decide +kernel)
set_option maxRecDepth 20000 in
theorem gX5_act_X5_isFull : GoodIn wsX5_act (wsV RX5 44 RX5 yX5_isFull wsX5_isFull) := goodIn_app (goodIn_of _ (by decide +kernel)) ggX5_act_X5_isFull
set_option maxRecDepth 20000 in
theorem ggX5_act_X5_failureOfPair : GoodIn wsX5_act wsX5_failureOfPair := goodIn_r _ [14, 15, 16, 17, 18, 19, 20, 21, 22, 23, 24, 25, 26, 80, 81, 82, 83] (by decide +kernel) (by decide +kernel)
set_option maxRecDepth 20000 in
theorem gX5_act_X5_failureOfPair : GoodIn wsX5_act (va_wsS RX5 103 yX5_failureOfPair wsX5_failureOfPair) := goodIn_app (goodIn_of _ (by decide +kernel)) ggX5_act_X5_failureOfPair
set_option maxRecDepth 20000 in
theorem ggX5_act_X5_combine : GoodIn wsX5_act wsX5_combine := goodIn_r _ [29, 30, 31, 32, 18, 33, 26, 34, 35, 36, 37, 38, 20, 25, 39, 40, 41, 42, 43, 44, 45, 46, 47, 48, 49, 50, 51, 52, 53, 54, 55, 56, 57, 58, 59, 60, 61, 62, 63, 64, 65, 66, 67, 68, 69, 80, 81, 82, 83] (by decide +kernel) (by decide +kernel)
set_option maxRecDepth 20000 in
theorem gX5_act_X5_combine : GoodIn wsX5_act (va_wsS RX5 107 yX5_combine wsX5_combine) := goodIn_app (goodIn_of _ (by decide +kernel)) ggX5_act_X5_combine
set_option maxRecDepth 20000 in
theorem ggX5_act_X5_takeNumber : GoodIn wsX5_act wsX5_takeNumber := goodIn_r _ [73, 2, 74, 75, 76, 77, 78, 79] (by decide +kernel) (by decide +kernel)
set_option maxRecDepth 20000 in
theorem gX5_act_X5_takeNumber : GoodIn wsX5_act (wsV RX5 59 RX5 yX5_takeNumber wsX5_takeNumber) := goodIn_app (goodIn_of _ (by decide +kernel)) ggX5_act_X5_takeNumber
theorem dX5_act_0 : decode cX5_act 0 = .ok (.aload_n 0, 1) := by decide +kernel
theorem dX5_act_1 : decode cX5_act 1 = .ok (.iload_n 2, 1) := by decide +kernel
theorem dX5_act_2 : decode cX5_act 2 = .ok (.invokevirtual 63, 3) := by decide +kernel
theorem dX5_act_5 : decode cX5_act 5 = .ok (.ifCond .eq 11, 3) := by decide +kernel
theorem dX5_act_8 : decode cX5_act 8 = .ok (.aload_n 0, 1) := by decide +kernel
theorem dX5_act_9 : decode cX5_act 9 = .ok (.iload_n 3, 1) := by decide +kernel
theorem dX5_act_10 : decode cX5_act 10 = .ok (.invokevirtual 63, 3) := by decide +kernel
theorem dX5_act_13 : decode cX5_act 13 = .ok (.ifCond .ne 6, 3) := by decide +kernel
theorem dX5_act_16 : decode cX5_act 16 = .ok (.bipush (-2), 2) := by decide +kernel
theorem dX5_act_18 : decode cX5_act 18 = .ok (.ireturn, 1) := by decide +kernel
theorem dX5_act_19 : decode cX5_act 19 = .ok (.iload_n 1, 1) := by decide +kernel
theorem dX5_act_20 : decode cX5_act 20 = .ok (.ifCond .lt 8, 3) := by decide +kernel
theorem dX5_act_23 : decode cX5_act 23 = .ok (.iload_n 1, 1) := by decide +kernel
theorem dX5_act_24 : decode cX5_act 24 = .ok (.iconst 5, 1) := by decide +kernel
theorem dX5_act_25 : decode cX5_act 25 = .ok (.if_icmp .le 6, 3) := by decide +kernel
theorem dX5_act_28 : decode cX5_act 28 = .ok (.bipush (-3), 2) := by decide +kernel
theorem dX5_act_30 : decode cX5_act 30 = .ok (.ireturn, 1) := by decide +kernel
theorem dX5_act_31 : decode cX5_act 31 = .ok (.aload_n 0, 1) := by decide +kernel
theorem dX5_act_32 : decode cX5_act 32 = .ok (.invokevirtual 44, 3) := by decide +kernel
theorem dX5_act_35 : decode cX5_act 35 = .ok (.ifCond .eq 6, 3) := by decide +kernel
theorem dX5_act_38 : decode cX5_act 38 = .ok (.bipush (-4), 2) := by decide +kernel
theorem dX5_act_40 : decode cX5_act 40 = .ok (.ireturn, 1) := by decide +kernel
theorem dX5_act_41 : decode cX5_act 41 = .ok (.aload_n 0, 1) := by decide +kernel
theorem dX5_act_42 : decode cX5_act 42 = .ok (.getfield 11, 3) := by decide +kernel
theorem dX5_act_45 : decode cX5_act 45 = .ok (.iload_n 2, 1) := by decide +kernel
theorem dX5_act_46 : decode cX5_act 46 = .ok (.aaload, 1) := by decide +kernel
theorem dX5_act_47 : decode cX5_act 47 = .ok (.aload_n 0, 1) := by decide +kernel
theorem dX5_act_48 : decode cX5_act 48 = .ok (.getfield 11, 3) := by decide +kernel
theorem dX5_act_51 : decode cX5_act 51 = .ok (.iload_n 3, 1) := by decide +kernel
theorem dX5_act_52 : decode cX5_act 52 = .ok (.aaload, 1) := by decide +kernel
theorem dX5_act_53 : decode cX5_act 53 = .ok (.invokestatic 103, 3) := by decide +kernel
theorem dX5_act_56 : decode cX5_act 56 = .ok (.istore 4, 2) := by decide +kernel
theorem dX5_act_58 : decode cX5_act 58 = .ok (.iload 4, 2) := by decide +kernel
theorem dX5_act_60 : decode cX5_act 60 = .ok (.ifCond .eq 6, 3) := by decide +kernel
theorem dX5_act_63 : decode cX5_act 63 = .ok (.iload 4, 2) := by decide +kernel
theorem dX5_act_65 : decode cX5_act 65 = .ok (.ireturn, 1) := by decide +kernel
theorem dX5_act_66 : decode cX5_act 66 = .ok (.iload_n 1, 1) := by decide +kernel
theorem dX5_act_67 : decode cX5_act 67 = .ok (.aload_n 0, 1) := by decide +kernel
theorem dX5_act_68 : decode cX5_act 68 = .ok (.getfield 11, 3) := by decide +kernel
theorem dX5_act_71 : decode cX5_act 71 = .ok (.iload_n 2, 1) := by decide +kernel
theorem dX5_act_72 : decode cX5_act 72 = .ok (.aaload, 1) := by decide +kernel
theorem dX5_act_73 : decode cX5_act 73 = .ok (.aload_n 0, 1) := by decide +kernel
theorem dX5_act_74 : decode cX5_act 74 = .ok (.getfield 11, 3) := by decide +kernel
theorem dX5_act_77 : decode cX5_act 77 = .ok (.iload_n 3, 1) := by decide +kernel
theorem dX5_act_78 : decode cX5_act 78 = .ok (.aaload, 1) := by decide +kernel
theorem dX5_act_79 : decode cX5_act 79 = .ok (.aload_n 0, 1) := by decide +kernel
theorem dX5_act_80 : decode cX5_act 80 = .ok (.getfield 11, 3) := by decide +kernel
theorem dX5_act_83 : decode cX5_act 83 = .ok (.aload_n 0, 1) := by decide +kernel
theorem dX5_act_84 : decode cX5_act 84 = .ok (.getfield 48, 3) := by decide +kernel
theorem dX5_act_87 : decode cX5_act 87 = .ok (.aaload, 1) := by decide +kernel
theorem dX5_act_88 : decode cX5_act 88 = .ok (.invokestatic 107, 3) := by decide +kernel
theorem dX5_act_91 : decode cX5_act 91 = .ok (.ifCond .eq 10, 3) := by decide +kernel
theorem dX5_act_94 : decode cX5_act 94 = .ok (.aload_n 0, 1) := by decide +kernel
theorem dX5_act_95 : decode cX5_act 95 = .ok (.invokevirtual 59, 3) := by decide +kernel
theorem dX5_act_98 : decode cX5_act 98 = .ok (.goto 5, 3) := by decide +kernel
theorem dX5_act_101 : decode cX5_act 101 = .ok (.bipush (-16), 2) := by decide +kernel
theorem dX5_act_103 : decode cX5_act 103 = .ok (.ireturn, 1) := by decide +kernel
set_option maxRecDepth 20000 in
theorem ggX5_times_X5_isNumber : GoodIn wsX5_times wsX5_isNumber := goodIn_r _ [7, 2, 72, 73, 74, 75, 76, 77] (by decide +kernel) (by decide +kernel)
set_option maxRecDepth 20000 in
theorem gX5_times_X5_isNumber : GoodIn wsX5_times (wsV RX5 63 RX5 yX5_isNumber wsX5_isNumber) := goodIn_app (goodIn_of _ (by decide +kernel)) ggX5_times_X5_isNumber
set_option maxRecDepth 20000 in
theorem ggX5_times_X5_isFull : GoodIn wsX5_times wsX5_isFull := goodIn_r _ [11, 2, 72, 73, 74, 75, 76, 77] (by decide +kernel) (by decide +kernel)
set_option maxRecDepth 20000 in
theorem gX5_times_X5_isFull : GoodIn wsX5_times (wsV RX5 44 RX5 yX5_isFull wsX5_isFull) := goodIn_app (goodIn_of _ (by decide +kernel)) ggX5_times_X5_isFull
set_option maxRecDepth 20000 in
theorem ggX5_times_X2_isNothing : GoodIn wsX5_times wsX2_isNothing := goodIn_r _ [16, 17, 78, 79, 80, 81] (by decide +kernel) (by decide +kernel)
set_option maxRecDepth 20000 in
theorem gX5_times_X2_isNothing : GoodIn wsX5_times (wsV RX5 67 RX2 yX2_isNothing wsX2_isNothing) := goodIn_app (goodIn_of _ (by decide +kernel)) ggX5_times_X2_isNothing
set_option maxRecDepth 20000 in
theorem ggX5_times_X5_scale : GoodIn wsX5_times wsX5_scale := goodIn_r _ [21, 22, 23, 24, 25, 26, 27, 15, 28, 17, 29, 30, 31, 32, 33, 34, 35, 36, 37, 38, 39, 40, 41, 42, 43, 44, 45, 46, 47, 48, 49, 50, 51, 52, 53, 54, 55, 56, 57, 58, 59, 60, 61, 62, 63, 64, 65, 66, 67, 78, 79, 80, 81, 72, 73, 74, 75, 76, 77, 82, 83] (by decide +kernel) (by decide +kernel)
set_option maxRecDepth 20000 in
theorem gX5_times_X5_scale : GoodIn wsX5_times (wsV RX5 111 RX5 yX5_scale wsX5_scale) := goodIn_app (goodIn_of _ (by decide +kernel)) ggX5_times_X5_scale
set_option maxRecDepth 20000 in
theorem ggX5_times_X5_takeNumber : GoodIn wsX5_times wsX5_takeNumber := goodIn_r _ [71, 2, 72, 73, 74, 75, 76, 77] (by decide +kernel) (by decide +kernel)
set_option maxRecDepth 20000 in
theorem gX5_times_X5_takeNumber : GoodIn wsX5_times (wsV RX5 59 RX5 yX5_takeNumber wsX5_takeNumber) := goodIn_app (goodIn_of _ (by decide +kernel)) ggX5_times_X5_takeNumber
theorem dX5_times_0 : decode cX5_times 0 = .ok (.aload_n 0, 1) := by decide +kernel
theorem dX5_times_1 : decode cX5_times 1 = .ok (.iload_n 1, 1) := by decide +kernel
theorem dX5_times_2 : decode cX5_times 2 = .ok (.invokevirtual 63, 3) := by decide +kernel
theorem dX5_times_5 : decode cX5_times 5 = .ok (.ifCond .ne 6, 3) := by decide +kernel
theorem dX5_times_8 : decode cX5_times 8 = .ok (.bipush (-2), 2) := by decide +kernel
theorem dX5_times_10 : decode cX5_times 10 = .ok (.ireturn, 1) := by decide +kernel
theorem dX5_times_11 : decode cX5_times 11 = .ok (.aload_n 0, 1) := by decide +kernel
theorem dX5_times_12 : decode cX5_times 12 = .ok (.invokevirtual 44, 3) := by decide +kernel
theorem dX5_times_15 : decode cX5_times 15 = .ok (.ifCond .eq 6, 3) := by decide +kernel
theorem dX5_times_18 : decode cX5_times 18 = .ok (.bipush (-4), 2) := by decide +kernel
theorem dX5_times_20 : decode cX5_times 20 = .ok (.ireturn, 1) := by decide +kernel
theorem dX5_times_21 : decode cX5_times 21 = .ok (.aload_n 0, 1) := by decide +kernel
theorem dX5_times_22 : decode cX5_times 22 = .ok (.getfield 11, 3) := by decide +kernel
theorem dX5_times_25 : decode cX5_times 25 = .ok (.iload_n 1, 1) := by decide +kernel
theorem dX5_times_26 : decode cX5_times 26 = .ok (.aaload, 1) := by decide +kernel
theorem dX5_times_27 : decode cX5_times 27 = .ok (.invokevirtual 67, 3) := by decide +kernel
theorem dX5_times_30 : decode cX5_times 30 = .ok (.ifCond .eq 6, 3) := by decide +kernel
theorem dX5_times_33 : decode cX5_times 33 = .ok (.bipush (-11), 2) := by decide +kernel
theorem dX5_times_35 : decode cX5_times 35 = .ok (.ireturn, 1) := by decide +kernel
theorem dX5_times_36 : decode cX5_times 36 = .ok (.iload_n 3, 1) := by decide +kernel
theorem dX5_times_37 : decode cX5_times 37 = .ok (.ifCond .ne 6, 3) := by decide +kernel
theorem dX5_times_40 : decode cX5_times 40 = .ok (.bipush (-15), 2) := by decide +kernel
theorem dX5_times_42 : decode cX5_times 42 = .ok (.ireturn, 1) := by decide +kernel
theorem dX5_times_43 : decode cX5_times 43 = .ok (.aload_n 0, 1) := by decide +kernel
theorem dX5_times_44 : decode cX5_times 44 = .ok (.aload_n 0, 1) := by decide +kernel
theorem dX5_times_45 : decode cX5_times 45 = .ok (.getfield 11, 3) := by decide +kernel
theorem dX5_times_48 : decode cX5_times 48 = .ok (.iload_n 1, 1) := by decide +kernel
theorem dX5_times_49 : decode cX5_times 49 = .ok (.aaload, 1) := by decide +kernel
theorem dX5_times_50 : decode cX5_times 50 = .ok (.iload_n 2, 1) := by decide +kernel
theorem dX5_times_51 : decode cX5_times 51 = .ok (.iload_n 3, 1) := by decide +kernel
theorem dX5_times_52 : decode cX5_times 52 = .ok (.aload_n 0, 1) := by decide +kernel
theorem dX5_times_53 : decode cX5_times 53 = .ok (.getfield 11, 3) := by decide +kernel
theorem dX5_times_56 : decode cX5_times 56 = .ok (.aload_n 0, 1) := by decide +kernel
theorem dX5_times_57 : decode cX5_times 57 = .ok (.getfield 48, 3) := by decide +kernel
theorem dX5_times_60 : decode cX5_times 60 = .ok (.aaload, 1) := by decide +kernel
theorem dX5_times_61 : decode cX5_times 61 = .ok (.invokevirtual 111, 3) := by decide +kernel
theorem dX5_times_64 : decode cX5_times 64 = .ok (.ifCond .eq 10, 3) := by decide +kernel
theorem dX5_times_67 : decode cX5_times 67 = .ok (.aload_n 0, 1) := by decide +kernel
theorem dX5_times_68 : decode cX5_times 68 = .ok (.invokevirtual 59, 3) := by decide +kernel
theorem dX5_times_71 : decode cX5_times 71 = .ok (.goto 5, 3) := by decide +kernel
theorem dX5_times_74 : decode cX5_times 74 = .ok (.bipush (-16), 2) := by decide +kernel
theorem dX5_times_76 : decode cX5_times 76 = .ok (.ireturn, 1) := by decide +kernel
set_option maxRecDepth 20000 in
theorem ggX5_order_X5_isNumber : GoodIn wsX5_order wsX5_isNumber := goodIn_r _ [6, 7, 28, 29, 30, 31, 32, 33] (by decide +kernel) (by decide +kernel)
set_option maxRecDepth 20000 in
theorem gX5_order_X5_isNumber : GoodIn wsX5_order (wsV RX5 63 RX5 yX5_isNumber wsX5_isNumber) := goodIn_app (goodIn_of _ (by decide +kernel)) ggX5_order_X5_isNumber
set_option maxRecDepth 20000 in
theorem ggX5_order_X5_failureOfPair : GoodIn wsX5_order wsX5_failureOfPair := goodIn_r _ [10, 11, 12, 13, 14, 15, 16, 17, 18, 19, 20, 21, 22, 34, 35, 36, 37] (by decide +kernel) (by decide +kernel)
set_option maxRecDepth 20000 in
theorem gX5_order_X5_failureOfPair : GoodIn wsX5_order (va_wsS RX5 103 yX5_failureOfPair wsX5_failureOfPair) := goodIn_app (goodIn_of _ (by decide +kernel)) ggX5_order_X5_failureOfPair
set_option maxRecDepth 20000 in
theorem ggX5_order_X2_compareWith : GoodIn wsX5_order wsX2_compareWith := goodIn_r _ [26, 22, 27, 34, 35, 36, 37] (by decide +kernel) (by decide +kernel)
set_option maxRecDepth 20000 in
theorem gX5_order_X2_compareWith : GoodIn wsX5_order (wsV RX5 115 RX2 yX2_compareWith wsX2_compareWith) := goodIn_app (goodIn_of _ (by decide +kernel)) ggX5_order_X2_compareWith
theorem dX5_order_0 : decode cX5_order 0 = .ok (.aload_n 0, 1) := by decide +kernel
theorem dX5_order_1 : decode cX5_order 1 = .ok (.iload_n 1, 1) := by decide +kernel
theorem dX5_order_2 : decode cX5_order 2 = .ok (.invokevirtual 63, 3) := by decide +kernel
theorem dX5_order_5 : decode cX5_order 5 = .ok (.ifCond .eq 11, 3) := by decide +kernel
theorem dX5_order_8 : decode cX5_order 8 = .ok (.aload_n 0, 1) := by decide +kernel
theorem dX5_order_9 : decode cX5_order 9 = .ok (.iload_n 2, 1) := by decide +kernel
theorem dX5_order_10 : decode cX5_order 10 = .ok (.invokevirtual 63, 3) := by decide +kernel
theorem dX5_order_13 : decode cX5_order 13 = .ok (.ifCond .ne 6, 3) := by decide +kernel
theorem dX5_order_16 : decode cX5_order 16 = .ok (.bipush (-2), 2) := by decide +kernel
theorem dX5_order_18 : decode cX5_order 18 = .ok (.ireturn, 1) := by decide +kernel
theorem dX5_order_19 : decode cX5_order 19 = .ok (.aload_n 0, 1) := by decide +kernel
theorem dX5_order_20 : decode cX5_order 20 = .ok (.getfield 11, 3) := by decide +kernel
theorem dX5_order_23 : decode cX5_order 23 = .ok (.iload_n 1, 1) := by decide +kernel
theorem dX5_order_24 : decode cX5_order 24 = .ok (.aaload, 1) := by decide +kernel
theorem dX5_order_25 : decode cX5_order 25 = .ok (.aload_n 0, 1) := by decide +kernel
theorem dX5_order_26 : decode cX5_order 26 = .ok (.getfield 11, 3) := by decide +kernel
theorem dX5_order_29 : decode cX5_order 29 = .ok (.iload_n 2, 1) := by decide +kernel
theorem dX5_order_30 : decode cX5_order 30 = .ok (.aaload, 1) := by decide +kernel
theorem dX5_order_31 : decode cX5_order 31 = .ok (.invokestatic 103, 3) := by decide +kernel
theorem dX5_order_34 : decode cX5_order 34 = .ok (.istore_n 3, 1) := by decide +kernel
theorem dX5_order_35 : decode cX5_order 35 = .ok (.iload_n 3, 1) := by decide +kernel
theorem dX5_order_36 : decode cX5_order 36 = .ok (.ifCond .eq 5, 3) := by decide +kernel
theorem dX5_order_39 : decode cX5_order 39 = .ok (.iload_n 3, 1) := by decide +kernel
theorem dX5_order_40 : decode cX5_order 40 = .ok (.ireturn, 1) := by decide +kernel
theorem dX5_order_41 : decode cX5_order 41 = .ok (.aload_n 0, 1) := by decide +kernel
theorem dX5_order_42 : decode cX5_order 42 = .ok (.getfield 11, 3) := by decide +kernel
theorem dX5_order_45 : decode cX5_order 45 = .ok (.iload_n 1, 1) := by decide +kernel
theorem dX5_order_46 : decode cX5_order 46 = .ok (.aaload, 1) := by decide +kernel
theorem dX5_order_47 : decode cX5_order 47 = .ok (.aload_n 0, 1) := by decide +kernel
theorem dX5_order_48 : decode cX5_order 48 = .ok (.getfield 11, 3) := by decide +kernel
theorem dX5_order_51 : decode cX5_order 51 = .ok (.iload_n 2, 1) := by decide +kernel
theorem dX5_order_52 : decode cX5_order 52 = .ok (.aaload, 1) := by decide +kernel
theorem dX5_order_53 : decode cX5_order 53 = .ok (.invokevirtual 115, 3) := by decide +kernel
theorem dX5_order_56 : decode cX5_order 56 = .ok (.iconst 2, 1) := by decide +kernel
theorem dX5_order_57 : decode cX5_order 57 = .ok (.iadd, 1) := by decide +kernel
theorem dX5_order_58 : decode cX5_order 58 = .ok (.ireturn, 1) := by decide +kernel
set_option maxRecDepth 20000 in
theorem ggX5_put_X3_append : GoodIn wsX5_put wsX3_append := goodIn_r _ [7, 8, 9, 16, 17, 18] (by decide +kernel) (by decide +kernel)
set_option maxRecDepth 20000 in
theorem gX5_put_X3_append : GoodIn wsX5_put (wsV RX5 122 RX3 yX3_append wsX3_append) := goodIn_app (goodIn_of _ (by decide +kernel)) ggX5_put_X3_append
theorem dX5_put_0 : decode cX5_put 0 = .ok (.iload_n 1, 1) := by decide +kernel
theorem dX5_put_1 : decode cX5_put 1 = .ok (.ifCond .lt 9, 3) := by decide +kernel
theorem dX5_put_4 : decode cX5_put 4 = .ok (.iload_n 1, 1) := by decide +kernel
theorem dX5_put_5 : decode cX5_put 5 = .ok (.bipush 127, 2) := by decide +kernel
theorem dX5_put_7 : decode cX5_put 7 = .ok (.if_icmp .le 6, 3) := by decide +kernel
theorem dX5_put_10 : decode cX5_put 10 = .ok (.bipush (-3), 2) := by decide +kernel
theorem dX5_put_12 : decode cX5_put 12 = .ok (.ireturn, 1) := by decide +kernel
theorem dX5_put_13 : decode cX5_put 13 = .ok (.aload_n 0, 1) := by decide +kernel
theorem dX5_put_14 : decode cX5_put 14 = .ok (.getfield 19, 3) := by decide +kernel
theorem dX5_put_17 : decode cX5_put 17 = .ok (.getfield 119, 3) := by decide +kernel
theorem dX5_put_20 : decode cX5_put 20 = .ok (.sipush 300, 3) := by decide +kernel
theorem dX5_put_23 : decode cX5_put 23 = .ok (.if_icmp .lt 6, 3) := by decide +kernel
theorem dX5_put_26 : decode cX5_put 26 = .ok (.bipush (-4), 2) := by decide +kernel
theorem dX5_put_28 : decode cX5_put 28 = .ok (.ireturn, 1) := by decide +kernel
theorem dX5_put_29 : decode cX5_put 29 = .ok (.aload_n 0, 1) := by decide +kernel
theorem dX5_put_30 : decode cX5_put 30 = .ok (.getfield 19, 3) := by decide +kernel
theorem dX5_put_33 : decode cX5_put 33 = .ok (.iload_n 1, 1) := by decide +kernel
theorem dX5_put_34 : decode cX5_put 34 = .ok (.invokevirtual 122, 3) := by decide +kernel
theorem dX5_put_37 : decode cX5_put 37 = .ok (.aload_n 0, 1) := by decide +kernel
theorem dX5_put_38 : decode cX5_put 38 = .ok (.getfield 19, 3) := by decide +kernel
theorem dX5_put_41 : decode cX5_put 41 = .ok (.getfield 119, 3) := by decide +kernel
theorem dX5_put_44 : decode cX5_put 44 = .ok (.ireturn, 1) := by decide +kernel
set_option maxRecDepth 20000 in
theorem ggX5_read_X5_isFull : GoodIn wsX5_read wsX5_isFull := goodIn_r _ [10, 4, 112, 113, 114, 115, 116, 117] (by decide +kernel) (by decide +kernel)
set_option maxRecDepth 20000 in
theorem gX5_read_X5_isFull : GoodIn wsX5_read (wsV RX5 44 RX5 yX5_isFull wsX5_isFull) := goodIn_app (goodIn_of _ (by decide +kernel)) ggX5_read_X5_isFull
set_option maxRecDepth 20000 in
theorem ggX5_read_X3_parse : GoodIn wsX5_read wsX3_parse := goodIn_r _ [15, 16, 17, 18, 19, 20, 14, 21, 22, 23, 24, 25, 26, 27, 28, 29, 30, 31, 32, 33, 34, 35, 36, 37, 38, 39, 40, 41, 42, 43, 44, 45, 46, 47, 48, 49, 50, 51, 52, 53, 54, 55, 56, 57, 58, 59, 60, 61, 62, 63, 64, 65, 66, 67, 68, 69, 70, 71, 72, 73, 74, 75, 76, 77, 78, 79, 80, 81, 82, 83, 84, 85, 86, 87, 88, 89, 90, 91, 92, 93, 94, 95, 96, 97, 98, 99, 100, 101, 102, 103, 104, 105, 106, 107, 118, 119, 120, 121, 122, 123, 124] (by decide +kernel) (by decide +kernel)
set_option maxRecDepth 20000 in
theorem gX5_read_X3_parse : GoodIn wsX5_read (wsV RX5 126 RX3 yX3_parse wsX3_parse) := goodIn_app (goodIn_of _ (by decide +kernel)) ggX5_read_X3_parse
set_option maxRecDepth 20000 in
theorem ggX5_read_X5_takeNumber : GoodIn wsX5_read wsX5_takeNumber := goodIn_r _ [111, 4, 112, 113, 114, 115, 116, 117] (by decide +kernel) (by decide +kernel)
set_option maxRecDepth 20000 in
theorem gX5_read_X5_takeNumber : GoodIn wsX5_read (wsV RX5 59 RX5 yX5_takeNumber wsX5_takeNumber) := goodIn_app (goodIn_of _ (by decide +kernel)) ggX5_read_X5_takeNumber
theorem dX5_read_0 : decode cX5_read 0 = .ok (.aload_n 0, 1) := by decide +kernel
theorem dX5_read_1 : decode cX5_read 1 = .ok (.invokevirtual 44, 3) := by decide +kernel
theorem dX5_read_4 : decode cX5_read 4 = .ok (.ifCond .eq 14, 3) := by decide +kernel
theorem dX5_read_7 : decode cX5_read 7 = .ok (.aload_n 0, 1) := by decide +kernel
theorem dX5_read_8 : decode cX5_read 8 = .ok (.getfield 19, 3) := by decide +kernel
theorem dX5_read_11 : decode cX5_read 11 = .ok (.iconst 0, 1) := by decide +kernel
theorem dX5_read_12 : decode cX5_read 12 = .ok (.putfield 119, 3) := by decide +kernel
theorem dX5_read_15 : decode cX5_read 15 = .ok (.bipush (-4), 2) := by decide +kernel
theorem dX5_read_17 : decode cX5_read 17 = .ok (.ireturn, 1) := by decide +kernel
theorem dX5_read_18 : decode cX5_read 18 = .ok (.aload_n 0, 1) := by decide +kernel
theorem dX5_read_19 : decode cX5_read 19 = .ok (.getfield 19, 3) := by decide +kernel
theorem dX5_read_22 : decode cX5_read 22 = .ok (.aload_n 0, 1) := by decide +kernel
theorem dX5_read_23 : decode cX5_read 23 = .ok (.getfield 11, 3) := by decide +kernel
theorem dX5_read_26 : decode cX5_read 26 = .ok (.aload_n 0, 1) := by decide +kernel
theorem dX5_read_27 : decode cX5_read 27 = .ok (.getfield 48, 3) := by decide +kernel
theorem dX5_read_30 : decode cX5_read 30 = .ok (.aaload, 1) := by decide +kernel
theorem dX5_read_31 : decode cX5_read 31 = .ok (.invokevirtual 126, 3) := by decide +kernel
theorem dX5_read_34 : decode cX5_read 34 = .ok (.istore_n 1, 1) := by decide +kernel
theorem dX5_read_35 : decode cX5_read 35 = .ok (.aload_n 0, 1) := by decide +kernel
theorem dX5_read_36 : decode cX5_read 36 = .ok (.getfield 19, 3) := by decide +kernel
theorem dX5_read_39 : decode cX5_read 39 = .ok (.iconst 0, 1) := by decide +kernel
theorem dX5_read_40 : decode cX5_read 40 = .ok (.putfield 119, 3) := by decide +kernel
theorem dX5_read_43 : decode cX5_read 43 = .ok (.iload_n 1, 1) := by decide +kernel
theorem dX5_read_44 : decode cX5_read 44 = .ok (.ifCond .eq 10, 3) := by decide +kernel
theorem dX5_read_47 : decode cX5_read 47 = .ok (.aload_n 0, 1) := by decide +kernel
theorem dX5_read_48 : decode cX5_read 48 = .ok (.invokevirtual 59, 3) := by decide +kernel
theorem dX5_read_51 : decode cX5_read 51 = .ok (.goto 13, 3) := by decide +kernel
theorem dX5_read_54 : decode cX5_read 54 = .ok (.bipush (-100), 2) := by decide +kernel
theorem dX5_read_56 : decode cX5_read 56 = .ok (.aload_n 0, 1) := by decide +kernel
theorem dX5_read_57 : decode cX5_read 57 = .ok (.getfield 19, 3) := by decide +kernel
theorem dX5_read_60 : decode cX5_read 60 = .ok (.getfield 130, 3) := by decide +kernel
theorem dX5_read_63 : decode cX5_read 63 = .ok (.isub, 1) := by decide +kernel
theorem dX5_read_64 : decode cX5_read 64 = .ok (.ireturn, 1) := by decide +kernel
set_option maxRecDepth 20000 in
theorem ggX5_print_X5_isNumber : GoodIn wsX5_print wsX5_isNumber := goodIn_r _ [8, 9, 103, 104, 105, 106, 107, 108] (by decide +kernel) (by decide +kernel)
set_option maxRecDepth 20000 in
theorem gX5_print_X5_isNumber : GoodIn wsX5_print (wsV RX5 63 RX5 yX5_isNumber wsX5_isNumber) := goodIn_app (goodIn_of _ (by decide +kernel)) ggX5_print_X5_isNumber
set_option maxRecDepth 20000 in
theorem ggX5_print_X2_isNothing : GoodIn wsX5_print wsX2_isNothing := goodIn_r _ [14, 15, 112, 113, 114, 115] (by decide +kernel) (by decide +kernel)
set_option maxRecDepth 20000 in
theorem gX5_print_X2_isNothing : GoodIn wsX5_print (wsV RX5 67 RX2 yX2_isNothing wsX2_isNothing) := goodIn_app (goodIn_of _ (by decide +kernel)) ggX5_print_X2_isNothing
set_option maxRecDepth 20000 in
theorem ggX5_print_X0_write : GoodIn wsX5_print wsX0_write := goodIn_r _ [20, 21, 22, 23, 24, 25, 19, 26, 27, 28, 29, 30, 31, 32, 33, 34, 35, 36, 37, 38, 39, 40, 41, 42, 43, 44, 45, 46, 47, 48, 49, 50, 51, 52, 53, 54, 55, 56, 57, 58, 59, 60, 61, 62, 63, 64, 65, 66, 67, 68, 69, 70, 71, 72, 73, 74, 75, 76, 77, 78, 79, 80, 81, 82, 83, 84, 85, 86, 87, 88, 89, 90, 91, 92, 93, 94, 95, 96, 97, 98, 99, 100, 101, 102, 109, 110, 111, 112, 113, 114, 115] (by decide +kernel) (by decide +kernel)
set_option maxRecDepth 20000 in
theorem gX5_print_X0_write : GoodIn wsX5_print (wsV RX5 133 RX0 yX0_write wsX0_write) := goodIn_app (goodIn_of _ (by decide +kernel)) ggX5_print_X0_write
theorem dX5_print_0 : decode cX5_print 0 = .ok (.aload_n 0, 1) := by decide +kernel
theorem dX5_print_1 : decode cX5_print 1 = .ok (.iload_n 1, 1) := by decide +kernel
theorem dX5_print_2 : decode cX5_print 2 = .ok (.invokevirtual 63, 3) := by decide +kernel
theorem dX5_print_5 : decode cX5_print 5 = .ok (.ifCond .ne 6, 3) := by decide +kernel
theorem dX5_print_8 : decode cX5_print 8 = .ok (.bipush (-2), 2) := by decide +kernel
theorem dX5_print_10 : decode cX5_print 10 = .ok (.ireturn, 1) := by decide +kernel
theorem dX5_print_11 : decode cX5_print 11 = .ok (.aload_n 0, 1) := by decide +kernel
theorem dX5_print_12 : decode cX5_print 12 = .ok (.getfield 11, 3) := by decide +kernel
theorem dX5_print_15 : decode cX5_print 15 = .ok (.iload_n 1, 1) := by decide +kernel
theorem dX5_print_16 : decode cX5_print 16 = .ok (.aaload, 1) := by decide +kernel
theorem dX5_print_17 : decode cX5_print 17 = .ok (.invokevirtual 67, 3) := by decide +kernel
theorem dX5_print_20 : decode cX5_print 20 = .ok (.ifCond .eq 6, 3) := by decide +kernel
theorem dX5_print_23 : decode cX5_print 23 = .ok (.bipush (-11), 2) := by decide +kernel
theorem dX5_print_25 : decode cX5_print 25 = .ok (.ireturn, 1) := by decide +kernel
theorem dX5_print_26 : decode cX5_print 26 = .ok (.aload_n 0, 1) := by decide +kernel
theorem dX5_print_27 : decode cX5_print 27 = .ok (.getfield 26, 3) := by decide +kernel
theorem dX5_print_30 : decode cX5_print 30 = .ok (.aload_n 0, 1) := by decide +kernel
theorem dX5_print_31 : decode cX5_print 31 = .ok (.getfield 11, 3) := by decide +kernel
theorem dX5_print_34 : decode cX5_print 34 = .ok (.iload_n 1, 1) := by decide +kernel
theorem dX5_print_35 : decode cX5_print 35 = .ok (.aaload, 1) := by decide +kernel
theorem dX5_print_36 : decode cX5_print 36 = .ok (.invokevirtual 133, 3) := by decide +kernel
