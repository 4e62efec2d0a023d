theorem dX6_rule_65 : decode cX6_rule 65 = .ok (.iadd, 1) := by decide +kernel
theorem dX6_rule_66 : decode cX6_rule 66 = .ok (.aload_n 0, 1) := by decide +kernel
theorem dX6_rule_67 : decode cX6_rule 67 = .ok (.getfield 19, 3) := by decide +kernel
theorem dX6_rule_70 : decode cX6_rule 70 = .ok (.bipush 12, 2) := by decide +kernel
theorem dX6_rule_72 : decode cX6_rule 72 = .ok (.iload_n 1, 1) := by decide +kernel
theorem dX6_rule_73 : decode cX6_rule 73 = .ok (.imul, 1) := by decide +kernel
theorem dX6_rule_74 : decode cX6_rule 74 = .ok (.iload_n 2, 1) := by decide +kernel
theorem dX6_rule_75 : decode cX6_rule 75 = .ok (.iadd, 1) := by decide +kernel
theorem dX6_rule_76 : decode cX6_rule 76 = .ok (.laload, 1) := by decide +kernel
theorem dX6_rule_77 : decode cX6_rule 77 = .ok (.lastore, 1) := by decide +kernel
theorem dX6_rule_78 : decode cX6_rule 78 = .ok (.iinc 2 1, 3) := by decide +kernel
theorem dX6_rule_81 : decode cX6_rule 81 = .ok (.goto (-34), 3) := by decide +kernel
theorem dX6_rule_84 : decode cX6_rule 84 = .ok (.aload_n 0, 1) := by decide +kernel
theorem dX6_rule_85 : decode cX6_rule 85 = .ok (.getfield 30, 3) := by decide +kernel
theorem dX6_rule_88 : decode cX6_rule 88 = .ok (.aload_n 0, 1) := by decide +kernel
theorem dX6_rule_89 : decode cX6_rule 89 = .ok (.getfield 198, 3) := by decide +kernel
theorem dX6_rule_92 : decode cX6_rule 92 = .ok (.iconst 0, 1) := by decide +kernel
theorem dX6_rule_93 : decode cX6_rule 93 = .ok (.iastore, 1) := by decide +kernel
theorem dX6_rule_94 : decode cX6_rule 94 = .ok (.aload_n 0, 1) := by decide +kernel
theorem dX6_rule_95 : decode cX6_rule 95 = .ok (.dup, 1) := by decide +kernel
theorem dX6_rule_96 : decode cX6_rule 96 = .ok (.getfield 198, 3) := by decide +kernel
theorem dX6_rule_99 : decode cX6_rule 99 = .ok (.iconst 1, 1) := by decide +kernel
theorem dX6_rule_100 : decode cX6_rule 100 = .ok (.iadd, 1) := by decide +kernel
theorem dX6_rule_101 : decode cX6_rule 101 = .ok (.putfield 198, 3) := by decide +kernel
theorem dX6_rule_104 : decode cX6_rule 104 = .ok (.aload_n 0, 1) := by decide +kernel
theorem dX6_rule_105 : decode cX6_rule 105 = .ok (.getfield 198, 3) := by decide +kernel
theorem dX6_rule_108 : decode cX6_rule 108 = .ok (.iconst 1, 1) := by decide +kernel
theorem dX6_rule_109 : decode cX6_rule 109 = .ok (.isub, 1) := by decide +kernel
theorem dX6_rule_110 : decode cX6_rule 110 = .ok (.ireturn, 1) := by decide +kernel
set_option maxRecDepth 20000 in
theorem ggX6_layPart_X6_zero : GoodIn wsX6_layPart wsX6_zero := goodIn_r _ [7, 8, 9, 15, 16, 17, 18, 19, 20, 21, 22, 23, 24, 25, 26, 27, 28, 29, 30, 31, 32, 33, 34, 35, 36, 37, 38] (by decide +kernel) (by decide +kernel)
set_option maxRecDepth 20000 in
theorem gX6_layPart_X6_zero : GoodIn wsX6_layPart (wsV RX6 105 RX6 yX6_zero wsX6_zero) := goodIn_app (goodIn_of _ (by decide +kernel)) ggX6_layPart_X6_zero
set_option maxRecDepth 20000 in
theorem ggX6_layPart_X6_add : GoodIn wsX6_layPart wsX6_add := goodIn_r _ [13, 8, 9, 14, 15, 16, 17, 18, 19, 20, 21, 22, 23, 24, 25, 26, 27, 28, 29, 30, 31, 32, 33, 34, 35, 36, 37, 38] (by decide +kernel) (by decide +kernel)
set_option maxRecDepth 20000 in
theorem gX6_layPart_X6_add : GoodIn wsX6_layPart (wsV RX6 108 RX6 yX6_add wsX6_add) := goodIn_app (goodIn_of _ (by decide +kernel)) ggX6_layPart_X6_add
theorem dX6_layPart_0 : decode cX6_layPart 0 = .ok (.aload_n 0, 1) := by decide +kernel
theorem dX6_layPart_1 : decode cX6_layPart 1 = .ok (.invokevirtual 105, 3) := by decide +kernel
theorem dX6_layPart_4 : decode cX6_layPart 4 = .ok (.aload_n 0, 1) := by decide +kernel
theorem dX6_layPart_5 : decode cX6_layPart 5 = .ok (.aload_n 0, 1) := by decide +kernel
theorem dX6_layPart_6 : decode cX6_layPart 6 = .ok (.getfield 27, 3) := by decide +kernel
theorem dX6_layPart_9 : decode cX6_layPart 9 = .ok (.bipush 12, 2) := by decide +kernel
theorem dX6_layPart_11 : decode cX6_layPart 11 = .ok (.iload_n 1, 1) := by decide +kernel
theorem dX6_layPart_12 : decode cX6_layPart 12 = .ok (.imul, 1) := by decide +kernel
theorem dX6_layPart_13 : decode cX6_layPart 13 = .ok (.iload_n 2, 1) := by decide +kernel
theorem dX6_layPart_14 : decode cX6_layPart 14 = .ok (.iadd, 1) := by decide +kernel
theorem dX6_layPart_15 : decode cX6_layPart 15 = .ok (.laload, 1) := by decide +kernel
theorem dX6_layPart_16 : decode cX6_layPart 16 = .ok (.aload_n 0, 1) := by decide +kernel
theorem dX6_layPart_17 : decode cX6_layPart 17 = .ok (.getfield 30, 3) := by decide +kernel
theorem dX6_layPart_20 : decode cX6_layPart 20 = .ok (.iload_n 1, 1) := by decide +kernel
theorem dX6_layPart_21 : decode cX6_layPart 21 = .ok (.iaload, 1) := by decide +kernel
theorem dX6_layPart_22 : decode cX6_layPart 22 = .ok (.i2l, 1) := by decide +kernel
theorem dX6_layPart_23 : decode cX6_layPart 23 = .ok (.invokevirtual 108, 3) := by decide +kernel
theorem dX6_layPart_26 : decode cX6_layPart 26 = .ok (.return_, 1) := by decide +kernel
set_option maxRecDepth 20000 in
theorem ggX6_hasRoom_X6_layPart : GoodIn wsX6_hasRoom wsX6_layPart := goodIn_r _ [9, 3, 4, 10, 11, 12, 8, 13, 14, 15, 16, 17, 18, 19, 20, 30, 31, 32, 33, 34, 35, 36, 37, 38, 39, 40, 41, 42, 43, 44, 45, 46, 47, 48, 49, 50, 51, 52, 53] (by decide +kernel) (by decide +kernel)
set_option maxRecDepth 20000 in
theorem gX6_hasRoom_X6_layPart : GoodIn wsX6_hasRoom (wsV RX6 207 RX6 yX6_layPart wsX6_layPart) := goodIn_app (goodIn_of _ (by decide +kernel)) ggX6_hasRoom_X6_layPart
set_option maxRecDepth 20000 in
theorem ggX6_hasRoom_X6_fits : GoodIn wsX6_hasRoom wsX6_fits := goodIn_r _ [24, 14, 25, 26, 27, 28, 8, 29, 30, 31, 32, 33, 34, 35, 36, 37, 38, 39, 40, 41, 42, 43, 44, 45, 46, 47, 48, 49, 50, 51, 52, 53] (by decide +kernel) (by decide +kernel)
set_option maxRecDepth 20000 in
theorem gX6_hasRoom_X6_fits : GoodIn wsX6_hasRoom (wsV RX6 114 RX6 yX6_fits wsX6_fits) := goodIn_app (goodIn_of _ (by decide +kernel)) ggX6_hasRoom_X6_fits
set_option maxRecDepth 20000 in
theorem ggX6_hasRoom_X6_zero : GoodIn wsX6_hasRoom wsX6_zero := goodIn_r _ [13, 14, 15, 30, 31, 32, 33, 34, 35, 36, 37, 38, 39, 40, 41, 42, 43, 44, 45, 46, 47, 48, 49, 50, 51, 52, 53] (by decide +kernel) (by decide +kernel)
set_option maxRecDepth 20000 in
theorem gX6_hasRoom_X6_zero : GoodIn wsX6_hasRoom (wsV RX6 105 RX6 yX6_zero wsX6_zero) := goodIn_app (goodIn_of _ (by decide +kernel)) ggX6_hasRoom_X6_zero
set_option maxRecDepth 20000 in
theorem ggX6_hasRoom_X6_add : GoodIn wsX6_hasRoom wsX6_add := goodIn_r _ [19, 14, 15, 20, 30, 31, 32, 33, 34, 35, 36, 37, 38, 39, 40, 41, 42, 43, 44, 45, 46, 47, 48, 49, 50, 51, 52, 53] (by decide +kernel) (by decide +kernel)
set_option maxRecDepth 20000 in
theorem gX6_hasRoom_X6_add : GoodIn wsX6_hasRoom (wsV RX6 108 RX6 yX6_add wsX6_add) := goodIn_app (goodIn_of _ (by decide +kernel)) ggX6_hasRoom_X6_add
theorem dX6_hasRoom_0 : decode cX6_hasRoom 0 = .ok (.iconst 1, 1) := by decide +kernel
theorem dX6_hasRoom_1 : decode cX6_hasRoom 1 = .ok (.istore_n 1, 1) := by decide +kernel
theorem dX6_hasRoom_2 : decode cX6_hasRoom 2 = .ok (.iconst 0, 1) := by decide +kernel
theorem dX6_hasRoom_3 : decode cX6_hasRoom 3 = .ok (.istore_n 2, 1) := by decide +kernel
theorem dX6_hasRoom_4 : decode cX6_hasRoom 4 = .ok (.iload_n 2, 1) := by decide +kernel
theorem dX6_hasRoom_5 : decode cX6_hasRoom 5 = .ok (.aload_n 0, 1) := by decide +kernel
theorem dX6_hasRoom_6 : decode cX6_hasRoom 6 = .ok (.getfield 23, 3) := by decide +kernel
theorem dX6_hasRoom_9 : decode cX6_hasRoom 9 = .ok (.if_icmp .ge 111, 3) := by decide +kernel
theorem dX6_hasRoom_12 : decode cX6_hasRoom 12 = .ok (.iload_n 1, 1) := by decide +kernel
theorem dX6_hasRoom_13 : decode cX6_hasRoom 13 = .ok (.ifCond .eq 107, 3) := by decide +kernel
theorem dX6_hasRoom_16 : decode cX6_hasRoom 16 = .ok (.iconst 0, 1) := by decide +kernel
theorem dX6_hasRoom_17 : decode cX6_hasRoom 17 = .ok (.istore_n 3, 1) := by decide +kernel
theorem dX6_hasRoom_18 : decode cX6_hasRoom 18 = .ok (.iload_n 3, 1) := by decide +kernel
theorem dX6_hasRoom_19 : decode cX6_hasRoom 19 = .ok (.aload_n 0, 1) := by decide +kernel
theorem dX6_hasRoom_20 : decode cX6_hasRoom 20 = .ok (.getfield 198, 3) := by decide +kernel
theorem dX6_hasRoom_23 : decode cX6_hasRoom 23 = .ok (.if_icmp .ge 32, 3) := by decide +kernel
theorem dX6_hasRoom_26 : decode cX6_hasRoom 26 = .ok (.aload_n 0, 1) := by decide +kernel
theorem dX6_hasRoom_27 : decode cX6_hasRoom 27 = .ok (.iload_n 3, 1) := by decide +kernel
theorem dX6_hasRoom_28 : decode cX6_hasRoom 28 = .ok (.iload_n 2, 1) := by decide +kernel
theorem dX6_hasRoom_29 : decode cX6_hasRoom 29 = .ok (.invokevirtual 207, 3) := by decide +kernel
theorem dX6_hasRoom_32 : decode cX6_hasRoom 32 = .ok (.iload_n 1, 1) := by decide +kernel
theorem dX6_hasRoom_33 : decode cX6_hasRoom 33 = .ok (.ifCond .eq 14, 3) := by decide +kernel
theorem dX6_hasRoom_36 : decode cX6_hasRoom 36 = .ok (.aload_n 0, 1) := by decide +kernel
theorem dX6_hasRoom_37 : decode cX6_hasRoom 37 = .ok (.invokevirtual 114, 3) := by decide +kernel
theorem dX6_hasRoom_40 : decode cX6_hasRoom 40 = .ok (.ifCond .eq 7, 3) := by decide +kernel
theorem dX6_hasRoom_43 : decode cX6_hasRoom 43 = .ok (.iconst 1, 1) := by decide +kernel
theorem dX6_hasRoom_44 : decode cX6_hasRoom 44 = .ok (.goto 4, 3) := by decide +kernel
theorem dX6_hasRoom_47 : decode cX6_hasRoom 47 = .ok (.iconst 0, 1) := by decide +kernel
theorem dX6_hasRoom_48 : decode cX6_hasRoom 48 = .ok (.istore_n 1, 1) := by decide +kernel
theorem dX6_hasRoom_49 : decode cX6_hasRoom 49 = .ok (.iinc 3 1, 3) := by decide +kernel
theorem dX6_hasRoom_52 : decode cX6_hasRoom 52 = .ok (.goto (-34), 3) := by decide +kernel
theorem dX6_hasRoom_55 : decode cX6_hasRoom 55 = .ok (.aload_n 0, 1) := by decide +kernel
theorem dX6_hasRoom_56 : decode cX6_hasRoom 56 = .ok (.invokevirtual 105, 3) := by decide +kernel
theorem dX6_hasRoom_59 : decode cX6_hasRoom 59 = .ok (.iconst 0, 1) := by decide +kernel
theorem dX6_hasRoom_60 : decode cX6_hasRoom 60 = .ok (.istore_n 3, 1) := by decide +kernel
theorem dX6_hasRoom_61 : decode cX6_hasRoom 61 = .ok (.iload_n 3, 1) := by decide +kernel
theorem dX6_hasRoom_62 : decode cX6_hasRoom 62 = .ok (.aload_n 0, 1) := by decide +kernel
theorem dX6_hasRoom_63 : decode cX6_hasRoom 63 = .ok (.getfield 198, 3) := by decide +kernel
theorem dX6_hasRoom_66 : decode cX6_hasRoom 66 = .ok (.if_icmp .ge 31, 3) := by decide +kernel
theorem dX6_hasRoom_69 : decode cX6_hasRoom 69 = .ok (.aload_n 0, 1) := by decide +kernel
theorem dX6_hasRoom_70 : decode cX6_hasRoom 70 = .ok (.aload_n 0, 1) := by decide +kernel
theorem dX6_hasRoom_71 : decode cX6_hasRoom 71 = .ok (.getfield 27, 3) := by decide +kernel
theorem dX6_hasRoom_74 : decode cX6_hasRoom 74 = .ok (.bipush 12, 2) := by decide +kernel
theorem dX6_hasRoom_76 : decode cX6_hasRoom 76 = .ok (.iload_n 3, 1) := by decide +kernel
theorem dX6_hasRoom_77 : decode cX6_hasRoom 77 = .ok (.imul, 1) := by decide +kernel
theorem dX6_hasRoom_78 : decode cX6_hasRoom 78 = .ok (.iload_n 2, 1) := by decide +kernel
theorem dX6_hasRoom_79 : decode cX6_hasRoom 79 = .ok (.iadd, 1) := by decide +kernel
theorem dX6_hasRoom_80 : decode cX6_hasRoom 80 = .ok (.laload, 1) := by decide +kernel
theorem dX6_hasRoom_81 : decode cX6_hasRoom 81 = .ok (.aload_n 0, 1) := by decide +kernel
theorem dX6_hasRoom_82 : decode cX6_hasRoom 82 = .ok (.getfield 30, 3) := by decide +kernel
theorem dX6_hasRoom_85 : decode cX6_hasRoom 85 = .ok (.iload_n 3, 1) := by decide +kernel
theorem dX6_hasRoom_86 : decode cX6_hasRoom 86 = .ok (.iaload, 1) := by decide +kernel
theorem dX6_hasRoom_87 : decode cX6_hasRoom 87 = .ok (.i2l, 1) := by decide +kernel
theorem dX6_hasRoom_88 : decode cX6_hasRoom 88 = .ok (.invokevirtual 108, 3) := by decide +kernel
theorem dX6_hasRoom_91 : decode cX6_hasRoom 91 = .ok (.iinc 3 1, 3) := by decide +kernel
theorem dX6_hasRoom_94 : decode cX6_hasRoom 94 = .ok (.goto (-33), 3) := by decide +kernel
theorem dX6_hasRoom_97 : decode cX6_hasRoom 97 = .ok (.iload_n 1, 1) := by decide +kernel
theorem dX6_hasRoom_98 : decode cX6_hasRoom 98 = .ok (.ifCond .eq 14, 3) := by decide +kernel
theorem dX6_hasRoom_101 : decode cX6_hasRoom 101 = .ok (.aload_n 0, 1) := by decide +kernel
theorem dX6_hasRoom_102 : decode cX6_hasRoom 102 = .ok (.invokevirtual 114, 3) := by decide +kernel
theorem dX6_hasRoom_105 : decode cX6_hasRoom 105 = .ok (.ifCond .eq 7, 3) := by decide +kernel
theorem dX6_hasRoom_108 : decode cX6_hasRoom 108 = .ok (.iconst 1, 1) := by decide +kernel
theorem dX6_hasRoom_109 : decode cX6_hasRoom 109 = .ok (.goto 4, 3) := by decide +kernel
theorem dX6_hasRoom_112 : decode cX6_hasRoom 112 = .ok (.iconst 0, 1) := by decide +kernel
theorem dX6_hasRoom_113 : decode cX6_hasRoom 113 = .ok (.istore_n 1, 1) := by decide +kernel
theorem dX6_hasRoom_114 : decode cX6_hasRoom 114 = .ok (.iinc 2 1, 3) := by decide +kernel
theorem dX6_hasRoom_117 : decode cX6_hasRoom 117 = .ok (.goto (-113), 3) := by decide +kernel
theorem dX6_hasRoom_120 : decode cX6_hasRoom 120 = .ok (.iload_n 1, 1) := by decide +kernel
theorem dX6_hasRoom_121 : decode cX6_hasRoom 121 = .ok (.ireturn, 1) := by decide +kernel
set_option maxRecDepth 20000 in
theorem ggX6_count_X6_in : GoodIn wsX6_count wsX6_in := goodIn_r _ [7] (by decide +kernel) (by decide +kernel)
set_option maxRecDepth 20000 in
theorem gX6_count_X6_in : GoodIn wsX6_count (va_wsS RX6 48 yX6_in wsX6_in) := goodIn_app (goodIn_of _ (by decide +kernel)) ggX6_count_X6_in
set_option maxRecDepth 20000 in
theorem ggX6_count_X6_hasRoom : GoodIn wsX6_count wsX6_hasRoom := goodIn_r _ [11, 12, 1, 13, 3, 14, 15, 16, 6, 17, 18, 19, 20, 21, 22, 23, 24, 25, 26, 27, 28, 29, 30, 31, 32, 33, 34, 4, 5, 7, 35, 36, 37, 38, 39, 40, 41, 42, 43, 44, 45, 46, 47, 48, 49, 50, 51, 52, 53, 54, 55, 56, 57, 58] (by decide +kernel) (by decide +kernel)
set_option maxRecDepth 20000 in
theorem gX6_count_X6_hasRoom : GoodIn wsX6_count (wsV RX6 213 RX6 yX6_hasRoom wsX6_hasRoom) := goodIn_app (goodIn_of _ (by decide +kernel)) ggX6_count_X6_hasRoom
theorem dX6_count_0 : decode cX6_count 0 = .ok (.iload_n 1, 1) := by decide +kernel
theorem dX6_count_1 : decode cX6_count 1 = .ok (.i2l, 1) := by decide +kernel
theorem dX6_count_2 : decode cX6_count 2 = .ok (.lconst 0, 1) := by decide +kernel
theorem dX6_count_3 : decode cX6_count 3 = .ok (.aload_n 0, 1) := by decide +kernel
theorem dX6_count_4 : decode cX6_count 4 = .ok (.getfield 198, 3) := by decide +kernel
theorem dX6_count_7 : decode cX6_count 7 = .ok (.iconst 1, 1) := by decide +kernel
theorem dX6_count_8 : decode cX6_count 8 = .ok (.isub, 1) := by decide +kernel
theorem dX6_count_9 : decode cX6_count 9 = .ok (.i2l, 1) := by decide +kernel
theorem dX6_count_10 : decode cX6_count 10 = .ok (.invokestatic 48, 3) := by decide +kernel
theorem dX6_count_13 : decode cX6_count 13 = .ok (.ifCond .ne 6, 3) := by decide +kernel
theorem dX6_count_16 : decode cX6_count 16 = .ok (.bipush (-2), 2) := by decide +kernel
theorem dX6_count_18 : decode cX6_count 18 = .ok (.ireturn, 1) := by decide +kernel
theorem dX6_count_19 : decode cX6_count 19 = .ok (.iload_n 2, 1) := by decide +kernel
theorem dX6_count_20 : decode cX6_count 20 = .ok (.i2l, 1) := by decide +kernel
theorem dX6_count_21 : decode cX6_count 21 = .ok (.lconst 0, 1) := by decide +kernel
theorem dX6_count_22 : decode cX6_count 22 = .ok (.ldc2_w 211, 3) := by decide +kernel
theorem dX6_count_25 : decode cX6_count 25 = .ok (.invokestatic 48, 3) := by decide +kernel
theorem dX6_count_28 : decode cX6_count 28 = .ok (.ifCond .ne 6, 3) := by decide +kernel
theorem dX6_count_31 : decode cX6_count 31 = .ok (.bipush (-3), 2) := by decide +kernel
theorem dX6_count_33 : decode cX6_count 33 = .ok (.ireturn, 1) := by decide +kernel
theorem dX6_count_34 : decode cX6_count 34 = .ok (.aload_n 0, 1) := by decide +kernel
theorem dX6_count_35 : decode cX6_count 35 = .ok (.getfield 30, 3) := by decide +kernel
theorem dX6_count_38 : decode cX6_count 38 = .ok (.iload_n 1, 1) := by decide +kernel
theorem dX6_count_39 : decode cX6_count 39 = .ok (.iaload, 1) := by decide +kernel
theorem dX6_count_40 : decode cX6_count 40 = .ok (.istore_n 3, 1) := by decide +kernel
theorem dX6_count_41 : decode cX6_count 41 = .ok (.aload_n 0, 1) := by decide +kernel
theorem dX6_count_42 : decode cX6_count 42 = .ok (.getfield 30, 3) := by decide +kernel
theorem dX6_count_45 : decode cX6_count 45 = .ok (.iload_n 1, 1) := by decide +kernel
theorem dX6_count_46 : decode cX6_count 46 = .ok (.iload_n 2, 1) := by decide +kernel
theorem dX6_count_47 : decode cX6_count 47 = .ok (.iastore, 1) := by decide +kernel
theorem dX6_count_48 : decode cX6_count 48 = .ok (.aload_n 0, 1) := by decide +kernel
theorem dX6_count_49 : decode cX6_count 49 = .ok (.invokevirtual 213, 3) := by decide +kernel
theorem dX6_count_52 : decode cX6_count 52 = .ok (.ifCond .ne 13, 3) := by decide +kernel
theorem dX6_count_55 : decode cX6_count 55 = .ok (.aload_n 0, 1) := by decide +kernel
theorem dX6_count_56 : decode cX6_count 56 = .ok (.getfield 30, 3) := by decide +kernel
theorem dX6_count_59 : decode cX6_count 59 = .ok (.iload_n 1, 1) := by decide +kernel
theorem dX6_count_60 : decode cX6_count 60 = .ok (.iload_n 3, 1) := by decide +kernel
theorem dX6_count_61 : decode cX6_count 61 = .ok (.iastore, 1) := by decide +kernel
theorem dX6_count_62 : decode cX6_count 62 = .ok (.bipush (-16), 2) := by decide +kernel
theorem dX6_count_64 : decode cX6_count 64 = .ok (.ireturn, 1) := by decide +kernel
theorem dX6_count_65 : decode cX6_count 65 = .ok (.iload_n 3, 1) := by decide +kernel
theorem dX6_count_66 : decode cX6_count 66 = .ok (.ireturn, 1) := by decide +kernel
set_option maxRecDepth 20000 in
theorem ggX6_weight_X6_in : GoodIn wsX6_weight wsX6_in := goodIn_r _ [8] (by decide +kernel) (by decide +kernel)
set_option maxRecDepth 20000 in
theorem gX6_weight_X6_in : GoodIn wsX6_weight (va_wsS RX6 48 yX6_in wsX6_in) := goodIn_app (goodIn_of _ (by decide +kernel)) ggX6_weight_X6_in
set_option maxRecDepth 20000 in
theorem ggX6_weight_X6_isNumber : GoodIn wsX6_weight wsX6_isNumber := goodIn_r _ [12, 13, 5, 6, 7, 8, 54, 55, 56, 57, 58, 59, 60, 61, 62, 63, 64, 65, 66, 67, 68, 69, 70, 71, 72, 73, 74, 75, 76, 77] (by decide +kernel) (by decide +kernel)
set_option maxRecDepth 20000 in
theorem gX6_weight_X6_isNumber : GoodIn wsX6_weight (wsV RX6 68 RX6 yX6_isNumber wsX6_isNumber) := goodIn_app (goodIn_of _ (by decide +kernel)) ggX6_weight_X6_isNumber
set_option maxRecDepth 20000 in
theorem ggX6_weight_X6_isNothing : GoodIn wsX6_weight wsX6_isNothing := goodIn_r _ [17, 18, 54, 55, 56, 57, 58, 59, 60, 61, 62, 63, 64, 65, 66, 67, 68, 69, 70, 71, 72, 73, 74, 75, 76, 77] (by decide +kernel) (by decide +kernel)
set_option maxRecDepth 20000 in
theorem gX6_weight_X6_isNothing : GoodIn wsX6_weight (wsV RX6 72 RX6 yX6_isNothing wsX6_isNothing) := goodIn_app (goodIn_of _ (by decide +kernel)) ggX6_weight_X6_isNothing
set_option maxRecDepth 20000 in
theorem ggX6_weight_X6_isLikePlan : GoodIn wsX6_weight wsX6_isLikePlan := goodIn_r _ [22, 18, 23, 24, 25, 26, 27, 54, 55, 56, 57, 58, 59, 60, 61, 62, 63, 64, 65, 66, 67, 68, 69, 70, 71, 72, 73, 74, 75, 76, 77] (by decide +kernel) (by decide +kernel)
set_option maxRecDepth 20000 in
theorem gX6_weight_X6_isLikePlan : GoodIn wsX6_weight (wsV RX6 204 RX6 yX6_isLikePlan wsX6_isLikePlan) := goodIn_app (goodIn_of _ (by decide +kernel)) ggX6_weight_X6_isLikePlan
set_option maxRecDepth 20000 in
theorem ggX6_weight_X6_hasRoom : GoodIn wsX6_weight wsX6_hasRoom := goodIn_r _ [31, 27, 1, 3, 32, 33, 34, 35, 7, 36, 37, 38, 39, 40, 41, 42, 43, 44, 45, 46, 47, 48, 49, 50, 51, 52, 53, 5, 6, 8, 54, 55, 56, 57, 58, 59, 60, 61, 62, 63, 64, 65, 66, 67, 68, 69, 70, 71, 72, 73, 74, 75, 76, 77] (by decide +kernel) (by decide +kernel)
set_option maxRecDepth 20000 in
theorem gX6_weight_X6_hasRoom : GoodIn wsX6_weight (wsV RX6 213 RX6 yX6_hasRoom wsX6_hasRoom) := goodIn_app (goodIn_of _ (by decide +kernel)) ggX6_weight_X6_hasRoom
theorem dX6_weight_0 : decode cX6_weight 0 = .ok (.iload_n 1, 1) := by decide +kernel
theorem dX6_weight_1 : decode cX6_weight 1 = .ok (.i2l, 1) := by decide +kernel
theorem dX6_weight_2 : decode cX6_weight 2 = .ok (.lconst 0, 1) := by decide +kernel
theorem dX6_weight_3 : decode cX6_weight 3 = .ok (.aload_n 0, 1) := by decide +kernel
theorem dX6_weight_4 : decode cX6_weight 4 = .ok (.getfield 198, 3) := by decide +kernel
theorem dX6_weight_7 : decode cX6_weight 7 = .ok (.iconst 1, 1) := by decide +kernel
theorem dX6_weight_8 : decode cX6_weight 8 = .ok (.isub, 1) := by decide +kernel
theorem dX6_weight_9 : decode cX6_weight 9 = .ok (.i2l, 1) := by decide +kernel
theorem dX6_weight_10 : decode cX6_weight 10 = .ok (.invokestatic 48, 3) := by decide +kernel
theorem dX6_weight_13 : decode cX6_weight 13 = .ok (.ifCond .eq 11, 3) := by decide +kernel
theorem dX6_weight_16 : decode cX6_weight 16 = .ok (.aload_n 0, 1) := by decide +kernel
theorem dX6_weight_17 : decode cX6_weight 17 = .ok (.iload_n 2, 1) := by decide +kernel
theorem dX6_weight_18 : decode cX6_weight 18 = .ok (.invokevirtual 68, 3) := by decide +kernel
theorem dX6_weight_21 : decode cX6_weight 21 = .ok (.ifCond .ne 6, 3) := by decide +kernel
theorem dX6_weight_24 : decode cX6_weight 24 = .ok (.bipush (-2), 2) := by decide +kernel
theorem dX6_weight_26 : decode cX6_weight 26 = .ok (.ireturn, 1) := by decide +kernel
theorem dX6_weight_27 : decode cX6_weight 27 = .ok (.aload_n 0, 1) := by decide +kernel
theorem dX6_weight_28 : decode cX6_weight 28 = .ok (.iload_n 2, 1) := by decide +kernel
theorem dX6_weight_29 : decode cX6_weight 29 = .ok (.invokevirtual 72, 3) := by decide +kernel
theorem dX6_weight_32 : decode cX6_weight 32 = .ok (.ifCond .eq 6, 3) := by decide +kernel
theorem dX6_weight_35 : decode cX6_weight 35 = .ok (.bipush (-11), 2) := by decide +kernel
theorem dX6_weight_37 : decode cX6_weight 37 = .ok (.ireturn, 1) := by decide +kernel
theorem dX6_weight_38 : decode cX6_weight 38 = .ok (.aload_n 0, 1) := by decide +kernel
theorem dX6_weight_39 : decode cX6_weight 39 = .ok (.iload_n 2, 1) := by decide +kernel
theorem dX6_weight_40 : decode cX6_weight 40 = .ok (.invokevirtual 204, 3) := by decide +kernel
theorem dX6_weight_43 : decode cX6_weight 43 = .ok (.ifCond .ne 6, 3) := by decide +kernel
theorem dX6_weight_46 : decode cX6_weight 46 = .ok (.bipush (-12), 2) := by decide +kernel
theorem dX6_weight_48 : decode cX6_weight 48 = .ok (.ireturn, 1) := by decide +kernel
theorem dX6_weight_49 : decode cX6_weight 49 = .ok (.iconst 0, 1) := by decide +kernel
theorem dX6_weight_50 : decode cX6_weight 50 = .ok (.istore_n 3, 1) := by decide +kernel
theorem dX6_weight_51 : decode cX6_weight 51 = .ok (.iload_n 3, 1) := by decide +kernel
theorem dX6_weight_52 : decode cX6_weight 52 = .ok (.bipush 12, 2) := by decide +kernel
theorem dX6_weight_54 : decode cX6_weight 54 = .ok (.if_icmp .ge 48, 3) := by decide +kernel
theorem dX6_weight_57 : decode cX6_weight 57 = .ok (.aload_n 0, 1) := by decide +kernel
theorem dX6_weight_58 : decode cX6_weight 58 = .ok (.getfield 42, 3) := by decide +kernel
theorem dX6_weight_61 : decode cX6_weight 61 = .ok (.iload_n 3, 1) := by decide +kernel
theorem dX6_weight_62 : decode cX6_weight 62 = .ok (.aload_n 0, 1) := by decide +kernel
theorem dX6_weight_63 : decode cX6_weight 63 = .ok (.getfield 27, 3) := by decide +kernel
theorem dX6_weight_66 : decode cX6_weight 66 = .ok (.bipush 12, 2) := by decide +kernel
theorem dX6_weight_68 : decode cX6_weight 68 = .ok (.iload_n 1, 1) := by decide +kernel
theorem dX6_weight_69 : decode cX6_weight 69 = .ok (.imul, 1) := by decide +kernel
theorem dX6_weight_70 : decode cX6_weight 70 = .ok (.iload_n 3, 1) := by decide +kernel
theorem dX6_weight_71 : decode cX6_weight 71 = .ok (.iadd, 1) := by decide +kernel
theorem dX6_weight_72 : decode cX6_weight 72 = .ok (.laload, 1) := by decide +kernel
theorem dX6_weight_73 : decode cX6_weight 73 = .ok (.lastore, 1) := by decide +kernel
theorem dX6_weight_74 : decode cX6_weight 74 = .ok (.aload_n 0, 1) := by decide +kernel
theorem dX6_weight_75 : decode cX6_weight 75 = .ok (.getfield 27, 3) := by decide +kernel
theorem dX6_weight_78 : decode cX6_weight 78 = .ok (.bipush 12, 2) := by decide +kernel
theorem dX6_weight_80 : decode cX6_weight 80 = .ok (.iload_n 1, 1) := by decide +kernel
theorem dX6_weight_81 : decode cX6_weight 81 = .ok (.imul, 1) := by decide +kernel
theorem dX6_weight_82 : decode cX6_weight 82 = .ok (.iload_n 3, 1) := by decide +kernel
theorem dX6_weight_83 : decode cX6_weight 83 = .ok (.iadd, 1) := by decide +kernel
theorem dX6_weight_84 : decode cX6_weight 84 = .ok (.aload_n 0, 1) := by decide +kernel
theorem dX6_weight_85 : decode cX6_weight 85 = .ok (.getfield 19, 3) := by decide +kernel
theorem dX6_weight_88 : decode cX6_weight 88 = .ok (.bipush 12, 2) := by decide +kernel
theorem dX6_weight_90 : decode cX6_weight 90 = .ok (.iload_n 2, 1) := by decide +kernel
theorem dX6_weight_91 : decode cX6_weight 91 = .ok (.imul, 1) := by decide +kernel
theorem dX6_weight_92 : decode cX6_weight 92 = .ok (.iload_n 3, 1) := by decide +kernel
theorem dX6_weight_93 : decode cX6_weight 93 = .ok (.iadd, 1) := by decide +kernel
theorem dX6_weight_94 : decode cX6_weight 94 = .ok (.laload, 1) := by decide +kernel
theorem dX6_weight_95 : decode cX6_weight 95 = .ok (.lastore, 1) := by decide +kernel
theorem dX6_weight_96 : decode cX6_weight 96 = .ok (.iinc 3 1, 3) := by decide +kernel
theorem dX6_weight_99 : decode cX6_weight 99 = .ok (.goto (-48), 3) := by decide +kernel
theorem dX6_weight_102 : decode cX6_weight 102 = .ok (.aload_n 0, 1) := by decide +kernel
theorem dX6_weight_103 : decode cX6_weight 103 = .ok (.invokevirtual 213, 3) := by decide +kernel
theorem dX6_weight_106 : decode cX6_weight 106 = .ok (.ifCond .eq 5, 3) := by decide +kernel
theorem dX6_weight_109 : decode cX6_weight 109 = .ok (.iconst 1, 1) := by decide +kernel
theorem dX6_weight_110 : decode cX6_weight 110 = .ok (.ireturn, 1) := by decide +kernel
theorem dX6_weight_111 : decode cX6_weight 111 = .ok (.iconst 0, 1) := by decide +kernel
theorem dX6_weight_112 : decode cX6_weight 112 = .ok (.istore_n 3, 1) := by decide +kernel
theorem dX6_weight_113 : decode cX6_weight 113 = .ok (.iload_n 3, 1) := by decide +kernel
theorem dX6_weight_114 : decode cX6_weight 114 = .ok (.bipush 12, 2) := by decide +kernel
theorem dX6_weight_116 : decode cX6_weight 116 = .ok (.if_icmp .ge 26, 3) := by decide +kernel
theorem dX6_weight_119 : decode cX6_weight 119 = .ok (.aload_n 0, 1) := by decide +kernel
theorem dX6_weight_120 : decode cX6_weight 120 = .ok (.getfield 27, 3) := by decide +kernel
theorem dX6_weight_123 : decode cX6_weight 123 = .ok (.bipush 12, 2) := by decide +kernel
theorem dX6_weight_125 : decode cX6_weight 125 = .ok (.iload_n 1, 1) := by decide +kernel
theorem dX6_weight_126 : decode cX6_weight 126 = .ok (.imul, 1) := by decide +kernel
theorem dX6_weight_127 : decode cX6_weight 127 = .ok (.iload_n 3, 1) := by decide +kernel
theorem dX6_weight_128 : decode cX6_weight 128 = .ok (.iadd, 1) := by decide +kernel
theorem dX6_weight_129 : decode cX6_weight 129 = .ok (.aload_n 0, 1) := by decide +kernel
theorem dX6_weight_130 : decode cX6_weight 130 = .ok (.getfield 42, 3) := by decide +kernel
theorem dX6_weight_133 : decode cX6_weight 133 = .ok (.iload_n 3, 1) := by decide +kernel
theorem dX6_weight_134 : decode cX6_weight 134 = .ok (.laload, 1) := by decide +kernel
theorem dX6_weight_135 : decode cX6_weight 135 = .ok (.lastore, 1) := by decide +kernel
theorem dX6_weight_136 : decode cX6_weight 136 = .ok (.iinc 3 1, 3) := by decide +kernel
theorem dX6_weight_139 : decode cX6_weight 139 = .ok (.goto (-26), 3) := by decide +kernel
theorem dX6_weight_142 : decode cX6_weight 142 = .ok (.bipush (-16), 2) := by decide +kernel
theorem dX6_weight_144 : decode cX6_weight 144 = .ok (.ireturn, 1) := by decide +kernel
set_option maxRecDepth 20000 in
theorem ggX6_total_X6_in : GoodIn wsX6_total wsX6_in := goodIn_r _ [13] (by decide +kernel) (by decide +kernel)
set_option maxRecDepth 20000 in
theorem gX6_total_X6_in : GoodIn wsX6_total (va_wsS RX6 48 yX6_in wsX6_in) := goodIn_app (goodIn_of _ (by decide +kernel)) ggX6_total_X6_in
set_option maxRecDepth 20000 in
theorem ggX6_total_X6_lay : GoodIn wsX6_total wsX6_lay := goodIn_r _ [17, 18, 3, 19, 20, 9, 40, 41, 42, 43, 44, 45, 46, 47, 48, 49, 50, 51, 52, 53, 54, 55, 56, 57, 58, 59, 60, 61, 62, 63] (by decide +kernel) (by decide +kernel)
set_option maxRecDepth 20000 in
theorem gX6_total_X6_lay : GoodIn wsX6_total (wsV RX6 60 RX6 yX6_lay wsX6_lay) := goodIn_app (goodIn_of _ (by decide +kernel)) ggX6_total_X6_lay
set_option maxRecDepth 20000 in
theorem ggX6_total_X6_zero : GoodIn wsX6_total wsX6_zero := goodIn_r _ [24, 25, 26, 40, 41, 42, 43, 44, 45, 46, 47, 48, 49, 50, 51, 52, 53, 54, 55, 56, 57, 58, 59, 60, 61, 62, 63] (by decide +kernel) (by decide +kernel)
set_option maxRecDepth 20000 in
theorem gX6_total_X6_zero : GoodIn wsX6_total (wsV RX6 105 RX6 yX6_zero wsX6_zero) := goodIn_app (goodIn_of _ (by decide +kernel)) ggX6_total_X6_zero
set_option maxRecDepth 20000 in
theorem ggX6_total_X6_add : GoodIn wsX6_total wsX6_add := goodIn_r _ [30, 25, 26, 31, 40, 41, 42, 43, 44, 45, 46, 47, 48, 49, 50, 51, 52, 53, 54, 55, 56, 57, 58, 59, 60, 61, 62, 63] (by decide +kernel) (by decide +kernel)
set_option maxRecDepth 20000 in
theorem gX6_total_X6_add : GoodIn wsX6_total (wsV RX6 108 RX6 yX6_add wsX6_add) := goodIn_app (goodIn_of _ (by decide +kernel)) ggX6_total_X6_add
set_option maxRecDepth 20000 in
theorem ggX6_total_X6_number : GoodIn wsX6_total wsX6_number := goodIn_r _ [35, 25, 26, 40, 41, 42, 43, 44, 45, 46, 47, 48, 49, 50, 51, 52, 53, 54, 55, 56, 57, 58, 59, 60, 61, 62, 63] (by decide +kernel) (by decide +kernel)
set_option maxRecDepth 20000 in
theorem gX6_total_X6_number : GoodIn wsX6_total (wsV RX6 118 RX6 yX6_number wsX6_number) := goodIn_app (goodIn_of _ (by decide +kernel)) ggX6_total_X6_number
set_option maxRecDepth 20000 in
theorem ggX6_total_X6_keepScore : GoodIn wsX6_total wsX6_keepScore := goodIn_r _ [39, 3, 40, 41, 42, 43, 44, 45, 46, 47, 48, 49, 50, 51, 52, 53, 54, 55, 56, 57, 58, 59, 60, 61, 62, 63] (by decide +kernel) (by decide +kernel)
set_option maxRecDepth 20000 in
theorem gX6_total_X6_keepScore : GoodIn wsX6_total (wsV RX6 64 RX6 yX6_keepScore wsX6_keepScore) := goodIn_app (goodIn_of _ (by decide +kernel)) ggX6_total_X6_keepScore
theorem dX6_total_0 : decode cX6_total 0 = .ok (.iload_n 1, 1) := by decide +kernel
theorem dX6_total_1 : decode cX6_total 1 = .ok (.i2l, 1) := by decide +kernel
theorem dX6_total_2 : decode cX6_total 2 = .ok (.ldc2_w 112, 3) := by decide +kernel
theorem dX6_total_5 : decode cX6_total 5 = .ok (.aload_n 0, 1) := by decide +kernel
theorem dX6_total_6 : decode cX6_total 6 = .ok (.getfield 198, 3) := by decide +kernel
theorem dX6_total_9 : decode cX6_total 9 = .ok (.iconst 1, 1) := by decide +kernel
theorem dX6_total_10 : decode cX6_total 10 = .ok (.isub, 1) := by decide +kernel
theorem dX6_total_11 : decode cX6_total 11 = .ok (.i2l, 1) := by decide +kernel
theorem dX6_total_12 : decode cX6_total 12 = .ok (.invokestatic 48, 3) := by decide +kernel
theorem dX6_total_15 : decode cX6_total 15 = .ok (.ifCond .ne 6, 3) := by decide +kernel
theorem dX6_total_18 : decode cX6_total 18 = .ok (.bipush (-2), 2) := by decide +kernel
theorem dX6_total_20 : decode cX6_total 20 = .ok (.ireturn, 1) := by decide +kernel
theorem dX6_total_21 : decode cX6_total 21 = .ok (.aload_n 0, 1) := by decide +kernel
theorem dX6_total_22 : decode cX6_total 22 = .ok (.getfield 45, 3) := by decide +kernel
theorem dX6_total_25 : decode cX6_total 25 = .ok (.bipush 60, 2) := by decide +kernel
theorem dX6_total_27 : decode cX6_total 27 = .ok (.if_icmp .ne 6, 3) := by decide +kernel
theorem dX6_total_30 : decode cX6_total 30 = .ok (.bipush (-4), 2) := by decide +kernel
theorem dX6_total_32 : decode cX6_total 32 = .ok (.ireturn, 1) := by decide +kernel
theorem dX6_total_33 : decode cX6_total 33 = .ok (.aload_n 0, 1) := by decide +kernel
theorem dX6_total_34 : decode cX6_total 34 = .ok (.aload_n 0, 1) := by decide +kernel
theorem dX6_total_35 : decode cX6_total 35 = .ok (.getfield 52, 3) := by decide +kernel
theorem dX6_total_38 : decode cX6_total 38 = .ok (.aload_n 0, 1) := by decide +kernel
theorem dX6_total_39 : decode cX6_total 39 = .ok (.getfield 55, 3) := by decide +kernel
theorem dX6_total_42 : decode cX6_total 42 = .ok (.aload_n 0, 1) := by decide +kernel
theorem dX6_total_43 : decode cX6_total 43 = .ok (.getfield 23, 3) := by decide +kernel
theorem dX6_total_46 : decode cX6_total 46 = .ok (.invokevirtual 60, 3) := by decide +kernel
theorem dX6_total_49 : decode cX6_total 49 = .ok (.iconst 0, 1) := by decide +kernel
theorem dX6_total_50 : decode cX6_total 50 = .ok (.istore_n 2, 1) := by decide +kernel
theorem dX6_total_51 : decode cX6_total 51 = .ok (.iload_n 2, 1) := by decide +kernel
theorem dX6_total_52 : decode cX6_total 52 = .ok (.aload_n 0, 1) := by decide +kernel
theorem dX6_total_53 : decode cX6_total 53 = .ok (.getfield 23, 3) := by decide +kernel
theorem dX6_total_56 : decode cX6_total 56 = .ok (.if_icmp .ge 79, 3) := by decide +kernel
theorem dX6_total_59 : decode cX6_total 59 = .ok (.aload_n 0, 1) := by decide +kernel
theorem dX6_total_60 : decode cX6_total 60 = .ok (.invokevirtual 105, 3) := by decide +kernel
theorem dX6_total_63 : decode cX6_total 63 = .ok (.iconst 0, 1) := by decide +kernel
theorem dX6_total_64 : decode cX6_total 64 = .ok (.istore_n 3, 1) := by decide +kernel
theorem dX6_total_65 : decode cX6_total 65 = .ok (.iload_n 3, 1) := by decide +kernel
theorem dX6_total_66 : decode cX6_total 66 = .ok (.aload_n 0, 1) := by decide +kernel
theorem dX6_total_67 : decode cX6_total 67 = .ok (.getfield 198, 3) := by decide +kernel
theorem dX6_total_70 : decode cX6_total 70 = .ok (.if_icmp .ge 41, 3) := by decide +kernel
theorem dX6_total_73 : decode cX6_total 73 = .ok (.iload_n 1, 1) := by decide +kernel
theorem dX6_total_74 : decode cX6_total 74 = .ok (.iconst (-1), 1) := by decide +kernel
theorem dX6_total_75 : decode cX6_total 75 = .ok (.if_icmp .eq 8, 3) := by decide +kernel
theorem dX6_total_78 : decode cX6_total 78 = .ok (.iload_n 1, 1) := by decide +kernel
theorem dX6_total_79 : decode cX6_total 79 = .ok (.iload_n 3, 1) := by decide +kernel
theorem dX6_total_80 : decode cX6_total 80 = .ok (.if_icmp .ne 25, 3) := by decide +kernel
theorem dX6_total_83 : decode cX6_total 83 = .ok (.aload_n 0, 1) := by decide +kernel
theorem dX6_total_84 : decode cX6_total 84 = .ok (.aload_n 0, 1) := by decide +kernel
theorem dX6_total_85 : decode cX6_total 85 = .ok (.getfield 27, 3) := by decide +kernel
theorem dX6_total_88 : decode cX6_total 88 = .ok (.bipush 12, 2) := by decide +kernel
theorem dX6_total_90 : decode cX6_total 90 = .ok (.iload_n 3, 1) := by decide +kernel
theorem dX6_total_91 : decode cX6_total 91 = .ok (.imul, 1) := by decide +kernel
theorem dX6_total_92 : decode cX6_total 92 = .ok (.iload_n 2, 1) := by decide +kernel
theorem dX6_total_93 : decode cX6_total 93 = .ok (.iadd, 1) := by decide +kernel
theorem dX6_total_94 : decode cX6_total 94 = .ok (.laload, 1) := by decide +kernel
theorem dX6_total_95 : decode cX6_total 95 = .ok (.aload_n 0, 1) := by decide +kernel
theorem dX6_total_96 : decode cX6_total 96 = .ok (.getfield 30, 3) := by decide +kernel
theorem dX6_total_99 : decode cX6_total 99 = .ok (.iload_n 3, 1) := by decide +kernel
theorem dX6_total_100 : decode cX6_total 100 = .ok (.iaload, 1) := by decide +kernel
theorem dX6_total_101 : decode cX6_total 101 = .ok (.i2l, 1) := by decide +kernel
theorem dX6_total_102 : decode cX6_total 102 = .ok (.invokevirtual 108, 3) := by decide +kernel
theorem dX6_total_105 : decode cX6_total 105 = .ok (.iinc 3 1, 3) := by decide +kernel
theorem dX6_total_108 : decode cX6_total 108 = .ok (.goto (-43), 3) := by decide +kernel
theorem dX6_total_111 : decode cX6_total 111 = .ok (.aload_n 0, 1) := by decide +kernel
theorem dX6_total_112 : decode cX6_total 112 = .ok (.getfield 19, 3) := by decide +kernel
theorem dX6_total_115 : decode cX6_total 115 = .ok (.bipush 12, 2) := by decide +kernel
theorem dX6_total_117 : decode cX6_total 117 = .ok (.aload_n 0, 1) := by decide +kernel
theorem dX6_total_118 : decode cX6_total 118 = .ok (.getfield 45, 3) := by decide +kernel
theorem dX6_total_121 : decode cX6_total 121 = .ok (.imul, 1) := by decide +kernel
theorem dX6_total_122 : decode cX6_total 122 = .ok (.iload_n 2, 1) := by decide +kernel
theorem dX6_total_123 : decode cX6_total 123 = .ok (.iadd, 1) := by decide +kernel
theorem dX6_total_124 : decode cX6_total 124 = .ok (.aload_n 0, 1) := by decide +kernel
theorem dX6_total_125 : decode cX6_total 125 = .ok (.invokevirtual 118, 3) := by decide +kernel
theorem dX6_total_128 : decode cX6_total 128 = .ok (.lastore, 1) := by decide +kernel
theorem dX6_total_129 : decode cX6_total 129 = .ok (.iinc 2 1, 3) := by decide +kernel
theorem dX6_total_132 : decode cX6_total 132 = .ok (.goto (-81), 3) := by decide +kernel
theorem dX6_total_135 : decode cX6_total 135 = .ok (.aload_n 0, 1) := by decide +kernel
theorem dX6_total_136 : decode cX6_total 136 = .ok (.invokevirtual 64, 3) := by decide +kernel
theorem dX6_total_139 : decode cX6_total 139 = .ok (.ireturn, 1) := by decide +kernel
set_option maxRecDepth 20000 in
theorem ggX6_safe_X6_in : GoodIn wsX6_safe wsX6_in := goodIn_r _ [8] (by decide +kernel) (by decide +kernel)
set_option maxRecDepth 20000 in
theorem gX6_safe_X6_in : GoodIn wsX6_safe (va_wsS RX6 48 yX6_in wsX6_in) := goodIn_app (goodIn_of _ (by decide +kernel)) ggX6_safe_X6_in
set_option maxRecDepth 20000 in
theorem ggX6_safe_X6_zero : GoodIn wsX6_safe wsX6_zero := goodIn_r _ [12, 13, 14, 26, 27, 28, 29, 30, 31, 32, 33, 34, 35, 36, 37, 38, 39, 40, 41, 42, 43, 44, 45, 46, 47, 48, 49] (by decide +kernel) (by decide +kernel)
set_option maxRecDepth 20000 in
theorem gX6_safe_X6_zero : GoodIn wsX6_safe (wsV RX6 105 RX6 yX6_zero wsX6_zero) := goodIn_app (goodIn_of _ (by decide +kernel)) ggX6_safe_X6_zero
set_option maxRecDepth 20000 in
theorem ggX6_safe_X6_add : GoodIn wsX6_safe wsX6_add := goodIn_r _ [18, 13, 14, 19, 26, 27, 28, 29, 30, 31, 32, 33, 34, 35, 36, 37, 38, 39, 40, 41, 42, 43, 44, 45, 46, 47, 48, 49] (by decide +kernel) (by decide +kernel)
set_option maxRecDepth 20000 in
theorem gX6_safe_X6_add : GoodIn wsX6_safe (wsV RX6 108 RX6 yX6_add wsX6_add) := goodIn_app (goodIn_of _ (by decide +kernel)) ggX6_safe_X6_add
set_option maxRecDepth 20000 in
theorem ggX6_safe_X6_fits : GoodIn wsX6_safe wsX6_fits := goodIn_r _ [23, 13, 24, 25, 5, 6, 7, 8, 26, 27, 28, 29, 30, 31, 32, 33, 34, 35, 36, 37, 38, 39, 40, 41, 42, 43, 44, 45, 46, 47, 48, 49] (by decide +kernel) (by decide +kernel)
set_option maxRecDepth 20000 in
theorem gX6_safe_X6_fits : GoodIn wsX6_safe (wsV RX6 114 RX6 yX6_fits wsX6_fits) := goodIn_app (goodIn_of _ (by decide +kernel)) ggX6_safe_X6_fits
theorem dX6_safe_0 : decode cX6_safe 0 = .ok (.iload_n 1, 1) := by decide +kernel
theorem dX6_safe_1 : decode cX6_safe 1 = .ok (.i2l, 1) := by decide +kernel
theorem dX6_safe_2 : decode cX6_safe 2 = .ok (.lconst 0, 1) := by decide +kernel
theorem dX6_safe_3 : decode cX6_safe 3 = .ok (.ldc2_w 211, 3) := by decide +kernel
theorem dX6_safe_6 : decode cX6_safe 6 = .ok (.invokestatic 48, 3) := by decide +kernel
theorem dX6_safe_9 : decode cX6_safe 9 = .ok (.ifCond .ne 6, 3) := by decide +kernel
theorem dX6_safe_12 : decode cX6_safe 12 = .ok (.bipush (-3), 2) := by decide +kernel
theorem dX6_safe_14 : decode cX6_safe 14 = .ok (.ireturn, 1) := by decide +kernel
theorem dX6_safe_15 : decode cX6_safe 15 = .ok (.iconst 1, 1) := by decide +kernel
theorem dX6_safe_16 : decode cX6_safe 16 = .ok (.istore_n 2, 1) := by decide +kernel
theorem dX6_safe_17 : decode cX6_safe 17 = .ok (.iconst 0, 1) := by decide +kernel
theorem dX6_safe_18 : decode cX6_safe 18 = .ok (.istore_n 3, 1) := by decide +kernel
theorem dX6_safe_19 : decode cX6_safe 19 = .ok (.iload_n 3, 1) := by decide +kernel
theorem dX6_safe_20 : decode cX6_safe 20 = .ok (.aload_n 0, 1) := by decide +kernel
theorem dX6_safe_21 : decode cX6_safe 21 = .ok (.getfield 23, 3) := by decide +kernel
theorem dX6_safe_24 : decode cX6_safe 24 = .ok (.if_icmp .ge 114, 3) := by decide +kernel
theorem dX6_safe_27 : decode cX6_safe 27 = .ok (.iconst 0, 1) := by decide +kernel
theorem dX6_safe_28 : decode cX6_safe 28 = .ok (.istore 4, 2) := by decide +kernel
theorem dX6_safe_30 : decode cX6_safe 30 = .ok (.iload 4, 2) := by decide +kernel
theorem dX6_safe_32 : decode cX6_safe 32 = .ok (.iconst 2, 1) := by decide +kernel
theorem dX6_safe_33 : decode cX6_safe 33 = .ok (.if_icmp .ge 99, 3) := by decide +kernel
theorem dX6_safe_36 : decode cX6_safe 36 = .ok (.aload_n 0, 1) := by decide +kernel
theorem dX6_safe_37 : decode cX6_safe 37 = .ok (.invokevirtual 105, 3) := by decide +kernel
theorem dX6_safe_40 : decode cX6_safe 40 = .ok (.iconst 0, 1) := by decide +kernel
theorem dX6_safe_41 : decode cX6_safe 41 = .ok (.istore 5, 2) := by decide +kernel
theorem dX6_safe_43 : decode cX6_safe 43 = .ok (.iload 5, 2) := by decide +kernel
theorem dX6_safe_45 : decode cX6_safe 45 = .ok (.aload_n 0, 1) := by decide +kernel
theorem dX6_safe_46 : decode cX6_safe 46 = .ok (.getfield 198, 3) := by decide +kernel
theorem dX6_safe_49 : decode cX6_safe 49 = .ok (.if_icmp .ge 60, 3) := by decide +kernel
theorem dX6_safe_52 : decode cX6_safe 52 = .ok (.aload_n 0, 1) := by decide +kernel
theorem dX6_safe_53 : decode cX6_safe 53 = .ok (.getfield 27, 3) := by decide +kernel
theorem dX6_safe_56 : decode cX6_safe 56 = .ok (.bipush 12, 2) := by decide +kernel
theorem dX6_safe_58 : decode cX6_safe 58 = .ok (.iload 5, 2) := by decide +kernel
theorem dX6_safe_60 : decode cX6_safe 60 = .ok (.imul, 1) := by decide +kernel
theorem dX6_safe_61 : decode cX6_safe 61 = .ok (.iload_n 3, 1) := by decide +kernel
theorem dX6_safe_62 : decode cX6_safe 62 = .ok (.iadd, 1) := by decide +kernel
theorem dX6_safe_63 : decode cX6_safe 63 = .ok (.laload, 1) := by decide +kernel
theorem dX6_safe_64 : decode cX6_safe 64 = .ok (.lstore 6, 2) := by decide +kernel
theorem dX6_safe_66 : decode cX6_safe 66 = .ok (.aload_n 0, 1) := by decide +kernel
theorem dX6_safe_67 : decode cX6_safe 67 = .ok (.iload 4, 2) := by decide +kernel
theorem dX6_safe_69 : decode cX6_safe 69 = .ok (.ifCond .ne 7, 3) := by decide +kernel
theorem dX6_safe_72 : decode cX6_safe 72 = .ok (.iconst 1, 1) := by decide +kernel
theorem dX6_safe_73 : decode cX6_safe 73 = .ok (.goto 4, 3) := by decide +kernel
theorem dX6_safe_76 : decode cX6_safe 76 = .ok (.iconst 0, 1) := by decide +kernel
theorem dX6_safe_77 : decode cX6_safe 77 = .ok (.lload 6, 2) := by decide +kernel
theorem dX6_safe_79 : decode cX6_safe 79 = .ok (.lconst 0, 1) := by decide +kernel
theorem dX6_safe_80 : decode cX6_safe 80 = .ok (.lcmp, 1) := by decide +kernel
theorem dX6_safe_81 : decode cX6_safe 81 = .ok (.ifCond .le 7, 3) := by decide +kernel
theorem dX6_safe_84 : decode cX6_safe 84 = .ok (.iconst 1, 1) := by decide +kernel
theorem dX6_safe_85 : decode cX6_safe 85 = .ok (.goto 4, 3) := by decide +kernel
theorem dX6_safe_88 : decode cX6_safe 88 = .ok (.iconst 0, 1) := by decide +kernel
theorem dX6_safe_89 : decode cX6_safe 89 = .ok (.if_icmp .ne 8, 3) := by decide +kernel
theorem dX6_safe_92 : decode cX6_safe 92 = .ok (.lload 6, 2) := by decide +kernel
theorem dX6_safe_94 : decode cX6_safe 94 = .ok (.goto 4, 3) := by decide +kernel
theorem dX6_safe_97 : decode cX6_safe 97 = .ok (.lconst 0, 1) := by decide +kernel
theorem dX6_safe_98 : decode cX6_safe 98 = .ok (.iload_n 1, 1) := by decide +kernel
theorem dX6_safe_99 : decode cX6_safe 99 = .ok (.i2l, 1) := by decide +kernel
theorem dX6_safe_100 : decode cX6_safe 100 = .ok (.invokevirtual 108, 3) := by decide +kernel
theorem dX6_safe_103 : decode cX6_safe 103 = .ok (.iinc 5 1, 3) := by decide +kernel
theorem dX6_safe_106 : decode cX6_safe 106 = .ok (.goto (-63), 3) := by decide +kernel
theorem dX6_safe_109 : decode cX6_safe 109 = .ok (.iload_n 2, 1) := by decide +kernel
theorem dX6_safe_110 : decode cX6_safe 110 = .ok (.ifCond .eq 14, 3) := by decide +kernel
theorem dX6_safe_113 : decode cX6_safe 113 = .ok (.aload_n 0, 1) := by decide +kernel
theorem dX6_safe_114 : decode cX6_safe 114 = .ok (.invokevirtual 114, 3) := by decide +kernel
theorem dX6_safe_117 : decode cX6_safe 117 = .ok (.ifCond .eq 7, 3) := by decide +kernel
theorem dX6_safe_120 : decode cX6_safe 120 = .ok (.iconst 1, 1) := by decide +kernel
theorem dX6_safe_121 : decode cX6_safe 121 = .ok (.goto 4, 3) := by decide +kernel
theorem dX6_safe_124 : decode cX6_safe 124 = .ok (.iconst 0, 1) := by decide +kernel
theorem dX6_safe_125 : decode cX6_safe 125 = .ok (.istore_n 2, 1) := by decide +kernel
theorem dX6_safe_126 : decode cX6_safe 126 = .ok (.iinc 4 1, 3) := by decide +kernel
theorem dX6_safe_129 : decode cX6_safe 129 = .ok (.goto (-99), 3) := by decide +kernel
theorem dX6_safe_132 : decode cX6_safe 132 = .ok (.iinc 3 1, 3) := by decide +kernel
theorem dX6_safe_135 : decode cX6_safe 135 = .ok (.goto (-116), 3) := by decide +kernel
theorem dX6_safe_138 : decode cX6_safe 138 = .ok (.iload_n 2, 1) := by decide +kernel
theorem dX6_safe_139 : decode cX6_safe 139 = .ok (.ifCond .eq 7, 3) := by decide +kernel
theorem dX6_safe_142 : decode cX6_safe 142 = .ok (.iconst 1, 1) := by decide +kernel
theorem dX6_safe_143 : decode cX6_safe 143 = .ok (.goto 4, 3) := by decide +kernel
theorem dX6_safe_146 : decode cX6_safe 146 = .ok (.iconst 0, 1) := by decide +kernel
theorem dX6_safe_147 : decode cX6_safe 147 = .ok (.ireturn, 1) := by decide +kernel
set_option maxRecDepth 20000 in
theorem ggX6_keep_X6_isNumber : GoodIn wsX6_keep wsX6_isNumber := goodIn_r _ [9, 10, 11, 12, 8, 13, 31, 32, 33, 34, 35, 36, 37, 38, 39, 40, 41, 42, 43, 44, 45, 46, 47, 48, 49, 50, 51, 52, 53, 54] (by decide +kernel) (by decide +kernel)
set_option maxRecDepth 20000 in
theorem gX6_keep_X6_isNumber : GoodIn wsX6_keep (wsV RX6 68 RX6 yX6_isNumber wsX6_isNumber) := goodIn_app (goodIn_of _ (by decide +kernel)) ggX6_keep_X6_isNumber
set_option maxRecDepth 20000 in
theorem ggX6_keep_X6_isNothing : GoodIn wsX6_keep wsX6_isNothing := goodIn_r _ [17, 18, 31, 32, 33, 34, 35, 36, 37, 38, 39, 40, 41, 42, 43, 44, 45, 46, 47, 48, 49, 50, 51, 52, 53, 54] (by decide +kernel) (by decide +kernel)
set_option maxRecDepth 20000 in
theorem gX6_keep_X6_isNothing : GoodIn wsX6_keep (wsV RX6 72 RX6 yX6_isNothing wsX6_isNothing) := goodIn_app (goodIn_of _ (by decide +kernel)) ggX6_keep_X6_isNothing
set_option maxRecDepth 20000 in
theorem ggX6_keep_X6_isLikePlan : GoodIn wsX6_keep wsX6_isLikePlan := goodIn_r _ [22, 18, 23, 24, 25, 26, 4, 31, 32, 33, 34, 35, 36, 37, 38, 39, 40, 41, 42, 43, 44, 45, 46, 47, 48, 49, 50, 51, 52, 53, 54] (by decide +kernel) (by decide +kernel)
set_option maxRecDepth 20000 in
theorem gX6_keep_X6_isLikePlan : GoodIn wsX6_keep (wsV RX6 204 RX6 yX6_isLikePlan wsX6_isLikePlan) := goodIn_app (goodIn_of _ (by decide +kernel)) ggX6_keep_X6_isLikePlan
set_option maxRecDepth 20000 in
theorem ggX6_keep_X6_compare : GoodIn wsX6_keep wsX6_compare := goodIn_r _ [30] (by decide +kernel) (by decide +kernel)
set_option maxRecDepth 20000 in
theorem gX6_keep_X6_compare : GoodIn wsX6_keep (wsV RX6 101 RX6 yX6_compare wsX6_compare) := goodIn_app (goodIn_of _ (by decide +kernel)) ggX6_keep_X6_compare
theorem dX6_keep_0 : decode cX6_keep 0 = .ok (.aload_n 0, 1) := by decide +kernel
theorem dX6_keep_1 : decode cX6_keep 1 = .ok (.iload_n 1, 1) := by decide +kernel
theorem dX6_keep_2 : decode cX6_keep 2 = .ok (.invokevirtual 68, 3) := by decide +kernel
theorem dX6_keep_5 : decode cX6_keep 5 = .ok (.ifCond .ne 6, 3) := by decide +kernel
theorem dX6_keep_8 : decode cX6_keep 8 = .ok (.bipush (-2), 2) := by decide +kernel
theorem dX6_keep_10 : decode cX6_keep 10 = .ok (.ireturn, 1) := by decide +kernel
theorem dX6_keep_11 : decode cX6_keep 11 = .ok (.aload_n 0, 1) := by decide +kernel
theorem dX6_keep_12 : decode cX6_keep 12 = .ok (.iload_n 1, 1) := by decide +kernel
theorem dX6_keep_13 : decode cX6_keep 13 = .ok (.invokevirtual 72, 3) := by decide +kernel
theorem dX6_keep_16 : decode cX6_keep 16 = .ok (.ifCond .eq 6, 3) := by decide +kernel
theorem dX6_keep_19 : decode cX6_keep 19 = .ok (.bipush (-11), 2) := by decide +kernel
theorem dX6_keep_21 : decode cX6_keep 21 = .ok (.ireturn, 1) := by decide +kernel
theorem dX6_keep_22 : decode cX6_keep 22 = .ok (.aload_n 0, 1) := by decide +kernel
theorem dX6_keep_23 : decode cX6_keep 23 = .ok (.iload_n 1, 1) := by decide +kernel
theorem dX6_keep_24 : decode cX6_keep 24 = .ok (.invokevirtual 204, 3) := by decide +kernel
theorem dX6_keep_27 : decode cX6_keep 27 = .ok (.ifCond .ne 6, 3) := by decide +kernel
theorem dX6_keep_30 : decode cX6_keep 30 = .ok (.bipush (-12), 2) := by decide +kernel
theorem dX6_keep_32 : decode cX6_keep 32 = .ok (.ireturn, 1) := by decide +kernel
theorem dX6_keep_33 : decode cX6_keep 33 = .ok (.iconst 0, 1) := by decide +kernel
theorem dX6_keep_34 : decode cX6_keep 34 = .ok (.istore_n 2, 1) := by decide +kernel
theorem dX6_keep_35 : decode cX6_keep 35 = .ok (.iload_n 2, 1) := by decide +kernel
theorem dX6_keep_36 : decode cX6_keep 36 = .ok (.aload_n 0, 1) := by decide +kernel
theorem dX6_keep_37 : decode cX6_keep 37 = .ok (.getfield 201, 3) := by decide +kernel
theorem dX6_keep_40 : decode cX6_keep 40 = .ok (.if_icmp .ge 36, 3) := by decide +kernel
theorem dX6_keep_43 : decode cX6_keep 43 = .ok (.aload_n 0, 1) := by decide +kernel
theorem dX6_keep_44 : decode cX6_keep 44 = .ok (.aload_n 0, 1) := by decide +kernel
theorem dX6_keep_45 : decode cX6_keep 45 = .ok (.getfield 33, 3) := by decide +kernel
theorem dX6_keep_48 : decode cX6_keep 48 = .ok (.bipush 12, 2) := by decide +kernel
theorem dX6_keep_50 : decode cX6_keep 50 = .ok (.iload_n 2, 1) := by decide +kernel
theorem dX6_keep_51 : decode cX6_keep 51 = .ok (.imul, 1) := by decide +kernel
theorem dX6_keep_52 : decode cX6_keep 52 = .ok (.aload_n 0, 1) := by decide +kernel
theorem dX6_keep_53 : decode cX6_keep 53 = .ok (.getfield 19, 3) := by decide +kernel
theorem dX6_keep_56 : decode cX6_keep 56 = .ok (.bipush 12, 2) := by decide +kernel
theorem dX6_keep_58 : decode cX6_keep 58 = .ok (.iload_n 1, 1) := by decide +kernel
theorem dX6_keep_59 : decode cX6_keep 59 = .ok (.imul, 1) := by decide +kernel
theorem dX6_keep_60 : decode cX6_keep 60 = .ok (.aload_n 0, 1) := by decide +kernel
theorem dX6_keep_61 : decode cX6_keep 61 = .ok (.getfield 23, 3) := by decide +kernel
theorem dX6_keep_64 : decode cX6_keep 64 = .ok (.invokevirtual 101, 3) := by decide +kernel
theorem dX6_keep_67 : decode cX6_keep 67 = .ok (.ifCond .lt 9, 3) := by decide +kernel
theorem dX6_keep_70 : decode cX6_keep 70 = .ok (.iinc 2 1, 3) := by decide +kernel
theorem dX6_keep_73 : decode cX6_keep 73 = .ok (.goto (-38), 3) := by decide +kernel
theorem dX6_keep_76 : decode cX6_keep 76 = .ok (.iload_n 2, 1) := by decide +kernel
theorem dX6_keep_77 : decode cX6_keep 77 = .ok (.iconst 5, 1) := by decide +kernel
theorem dX6_keep_78 : decode cX6_keep 78 = .ok (.if_icmp .ne 5, 3) := by decide +kernel
theorem dX6_keep_81 : decode cX6_keep 81 = .ok (.iconst (-1), 1) := by decide +kernel
theorem dX6_keep_82 : decode cX6_keep 82 = .ok (.ireturn, 1) := by decide +kernel
theorem dX6_keep_83 : decode cX6_keep 83 = .ok (.aload_n 0, 1) := by decide +kernel
theorem dX6_keep_84 : decode cX6_keep 84 = .ok (.aload_n 0, 1) := by decide +kernel
theorem dX6_keep_85 : decode cX6_keep 85 = .ok (.getfield 201, 3) := by decide +kernel
theorem dX6_keep_88 : decode cX6_keep 88 = .ok (.iconst 5, 1) := by decide +kernel
theorem dX6_keep_89 : decode cX6_keep 89 = .ok (.if_icmp .ge 12, 3) := by decide +kernel
theorem dX6_keep_92 : decode cX6_keep 92 = .ok (.aload_n 0, 1) := by decide +kernel
theorem dX6_keep_93 : decode cX6_keep 93 = .ok (.getfield 201, 3) := by decide +kernel
theorem dX6_keep_96 : decode cX6_keep 96 = .ok (.iconst 1, 1) := by decide +kernel
theorem dX6_keep_97 : decode cX6_keep 97 = .ok (.iadd, 1) := by decide +kernel
theorem dX6_keep_98 : decode cX6_keep 98 = .ok (.goto 4, 3) := by decide +kernel
theorem dX6_keep_101 : decode cX6_keep 101 = .ok (.iconst 5, 1) := by decide +kernel
theorem dX6_keep_102 : decode cX6_keep 102 = .ok (.putfield 201, 3) := by decide +kernel
theorem dX6_keep_105 : decode cX6_keep 105 = .ok (.bipush 12, 2) := by decide +kernel
theorem dX6_keep_107 : decode cX6_keep 107 = .ok (.aload_n 0, 1) := by decide +kernel
theorem dX6_keep_108 : decode cX6_keep 108 = .ok (.getfield 201, 3) := by decide +kernel
theorem dX6_keep_111 : decode cX6_keep 111 = .ok (.imul, 1) := by decide +kernel
theorem dX6_keep_112 : decode cX6_keep 112 = .ok (.iconst 1, 1) := by decide +kernel
theorem dX6_keep_113 : decode cX6_keep 113 = .ok (.isub, 1) := by decide +kernel
theorem dX6_keep_114 : decode cX6_keep 114 = .ok (.istore_n 3, 1) := by decide +kernel
theorem dX6_keep_115 : decode cX6_keep 115 = .ok (.iload_n 3, 1) := by decide +kernel
theorem dX6_keep_116 : decode cX6_keep 116 = .ok (.bipush 12, 2) := by decide +kernel
theorem dX6_keep_118 : decode cX6_keep 118 = .ok (.iload_n 2, 1) := by decide +kernel
theorem dX6_keep_119 : decode cX6_keep 119 = .ok (.iconst 1, 1) := by decide +kernel
theorem dX6_keep_120 : decode cX6_keep 120 = .ok (.iadd, 1) := by decide +kernel
theorem dX6_keep_121 : decode cX6_keep 121 = .ok (.imul, 1) := by decide +kernel
theorem dX6_keep_122 : decode cX6_keep 122 = .ok (.if_icmp .lt 24, 3) := by decide +kernel
theorem dX6_keep_125 : decode cX6_keep 125 = .ok (.aload_n 0, 1) := by decide +kernel
theorem dX6_keep_126 : decode cX6_keep 126 = .ok (.getfield 33, 3) := by decide +kernel
theorem dX6_keep_129 : decode cX6_keep 129 = .ok (.iload_n 3, 1) := by decide +kernel
theorem dX6_keep_130 : decode cX6_keep 130 = .ok (.aload_n 0, 1) := by decide +kernel
theorem dX6_keep_131 : decode cX6_keep 131 = .ok (.getfield 33, 3) := by decide +kernel
theorem dX6_keep_134 : decode cX6_keep 134 = .ok (.iload_n 3, 1) := by decide +kernel
theorem dX6_keep_135 : decode cX6_keep 135 = .ok (.bipush 12, 2) := by decide +kernel
theorem dX6_keep_137 : decode cX6_keep 137 = .ok (.isub, 1) := by decide +kernel
theorem dX6_keep_138 : decode cX6_keep 138 = .ok (.laload, 1) := by decide +kernel
theorem dX6_keep_139 : decode cX6_keep 139 = .ok (.lastore, 1) := by decide +kernel
theorem dX6_keep_140 : decode cX6_keep 140 = .ok (.iinc 3 (-1), 3) := by decide +kernel
theorem dX6_keep_143 : decode cX6_keep 143 = .ok (.goto (-28), 3) := by decide +kernel
theorem dX6_keep_146 : decode cX6_keep 146 = .ok (.iconst 0, 1) := by decide +kernel
theorem dX6_keep_147 : decode cX6_keep 147 = .ok (.istore_n 3, 1) := by decide +kernel
theorem dX6_keep_148 : decode cX6_keep 148 = .ok (.iload_n 3, 1) := by decide +kernel
theorem dX6_keep_149 : decode cX6_keep 149 = .ok (.bipush 12, 2) := by decide +kernel
theorem dX6_keep_151 : decode cX6_keep 151 = .ok (.if_icmp .ge 31, 3) := by decide +kernel
theorem dX6_keep_154 : decode cX6_keep 154 = .ok (.aload_n 0, 1) := by decide +kernel
theorem dX6_keep_155 : decode cX6_keep 155 = .ok (.getfield 33, 3) := by decide +kernel
theorem dX6_keep_158 : decode cX6_keep 158 = .ok (.bipush 12, 2) := by decide +kernel
theorem dX6_keep_160 : decode cX6_keep 160 = .ok (.iload_n 2, 1) := by decide +kernel
theorem dX6_keep_161 : decode cX6_keep 161 = .ok (.imul, 1) := by decide +kernel
theorem dX6_keep_162 : decode cX6_keep 162 = .ok (.iload_n 3, 1) := by decide +kernel
theorem dX6_keep_163 : decode cX6_keep 163 = .ok (.iadd, 1) := by decide +kernel
theorem dX6_keep_164 : decode cX6_keep 164 = .ok (.aload_n 0, 1) := by decide +kernel
theorem dX6_keep_165 : decode cX6_keep 165 = .ok (.getfield 19, 3) := by decide +kernel
theorem dX6_keep_168 : decode cX6_keep 168 = .ok (.bipush 12, 2) := by decide +kernel
theorem dX6_keep_170 : decode cX6_keep 170 = .ok (.iload_n 1, 1) := by decide +kernel
theorem dX6_keep_171 : decode cX6_keep 171 = .ok (.imul, 1) := by decide +kernel
theorem dX6_keep_172 : decode cX6_keep 172 = .ok (.iload_n 3, 1) := by decide +kernel
theorem dX6_keep_173 : decode cX6_keep 173 = .ok (.iadd, 1) := by decide +kernel
theorem dX6_keep_174 : decode cX6_keep 174 = .ok (.laload, 1) := by decide +kernel
theorem dX6_keep_175 : decode cX6_keep 175 = .ok (.lastore, 1) := by decide +kernel
theorem dX6_keep_176 : decode cX6_keep 176 = .ok (.iinc 3 1, 3) := by decide +kernel
theorem dX6_keep_179 : decode cX6_keep 179 = .ok (.goto (-31), 3) := by decide +kernel
theorem dX6_keep_182 : decode cX6_keep 182 = .ok (.iload_n 2, 1) := by decide +kernel
theorem dX6_keep_183 : decode cX6_keep 183 = .ok (.ireturn, 1) := by decide +kernel
set_option maxRecDepth 20000 in
theorem ggX6_kept_X6_in : GoodIn wsX6_kept wsX6_in := goodIn_r _ [11] (by decide +kernel) (by decide +kernel)
set_option maxRecDepth 20000 in
theorem gX6_kept_X6_in : GoodIn wsX6_kept (va_wsS RX6 48 yX6_in wsX6_in) := goodIn_app (goodIn_of _ (by decide +kernel)) ggX6_kept_X6_in
set_option maxRecDepth 20000 in
theorem ggX6_kept_X6_lay : GoodIn wsX6_kept wsX6_lay := goodIn_r _ [15, 16, 2, 17, 18, 6, 23, 24, 25, 26, 27, 28, 29, 30, 31, 32, 33, 34, 35, 36, 37, 38, 39, 40, 41, 42, 43, 44, 45, 46] (by decide +kernel) (by decide +kernel)
set_option maxRecDepth 20000 in
theorem gX6_kept_X6_lay : GoodIn wsX6_kept (wsV RX6 60 RX6 yX6_lay wsX6_lay) := goodIn_app (goodIn_of _ (by decide +kernel)) ggX6_kept_X6_lay
set_option maxRecDepth 20000 in
theorem ggX6_kept_X6_keepScore : GoodIn wsX6_kept wsX6_keepScore := goodIn_r _ [22, 2, 23, 24, 25, 26, 27, 28, 29, 30, 31, 32, 33, 34, 35, 36, 37, 38, 39, 40, 41, 42, 43, 44, 45, 46] (by decide +kernel) (by decide +kernel)
set_option maxRecDepth 20000 in
theorem gX6_kept_X6_keepScore : GoodIn wsX6_kept (wsV RX6 64 RX6 yX6_keepScore wsX6_keepScore) := goodIn_app (goodIn_of _ (by decide +kernel)) ggX6_kept_X6_keepScore
theorem dX6_kept_0 : decode cX6_kept 0 = .ok (.iload_n 1, 1) := by decide +kernel
theorem dX6_kept_1 : decode cX6_kept 1 = .ok (.i2l, 1) := by decide +kernel
theorem dX6_kept_2 : decode cX6_kept 2 = .ok (.lconst 0, 1) := by decide +kernel
theorem dX6_kept_3 : decode cX6_kept 3 = .ok (.aload_n 0, 1) := by decide +kernel
theorem dX6_kept_4 : decode cX6_kept 4 = .ok (.getfield 201, 3) := by decide +kernel
theorem dX6_kept_7 : decode cX6_kept 7 = .ok (.iconst 1, 1) := by decide +kernel
theorem dX6_kept_8 : decode cX6_kept 8 = .ok (.isub, 1) := by decide +kernel
theorem dX6_kept_9 : decode cX6_kept 9 = .ok (.i2l, 1) := by decide +kernel
theorem dX6_kept_10 : decode cX6_kept 10 = .ok (.invokestatic 48, 3) := by decide +kernel
theorem dX6_kept_13 : decode cX6_kept 13 = .ok (.ifCond .ne 6, 3) := by decide +kernel
theorem dX6_kept_16 : decode cX6_kept 16 = .ok (.bipush (-2), 2) := by decide +kernel
theorem dX6_kept_18 : decode cX6_kept 18 = .ok (.ireturn, 1) := by decide +kernel
theorem dX6_kept_19 : decode cX6_kept 19 = .ok (.aload_n 0, 1) := by decide +kernel
theorem dX6_kept_20 : decode cX6_kept 20 = .ok (.getfield 45, 3) := by decide +kernel
theorem dX6_kept_23 : decode cX6_kept 23 = .ok (.bipush 60, 2) := by decide +kernel
theorem dX6_kept_25 : decode cX6_kept 25 = .ok (.if_icmp .ne 6, 3) := by decide +kernel
theorem dX6_kept_28 : decode cX6_kept 28 = .ok (.bipush (-4), 2) := by decide +kernel
theorem dX6_kept_30 : decode cX6_kept 30 = .ok (.ireturn, 1) := by decide +kernel
theorem dX6_kept_31 : decode cX6_kept 31 = .ok (.aload_n 0, 1) := by decide +kernel
theorem dX6_kept_32 : decode cX6_kept 32 = .ok (.aload_n 0, 1) := by decide +kernel
theorem dX6_kept_33 : decode cX6_kept 33 = .ok (.getfield 52, 3) := by decide +kernel
theorem dX6_kept_36 : decode cX6_kept 36 = .ok (.aload_n 0, 1) := by decide +kernel
theorem dX6_kept_37 : decode cX6_kept 37 = .ok (.getfield 55, 3) := by decide +kernel
theorem dX6_kept_40 : decode cX6_kept 40 = .ok (.aload_n 0, 1) := by decide +kernel
theorem dX6_kept_41 : decode cX6_kept 41 = .ok (.getfield 23, 3) := by decide +kernel
theorem dX6_kept_44 : decode cX6_kept 44 = .ok (.invokevirtual 60, 3) := by decide +kernel
theorem dX6_kept_47 : decode cX6_kept 47 = .ok (.iconst 0, 1) := by decide +kernel
theorem dX6_kept_48 : decode cX6_kept 48 = .ok (.istore_n 2, 1) := by decide +kernel
theorem dX6_kept_49 : decode cX6_kept 49 = .ok (.iload_n 2, 1) := by decide +kernel
theorem dX6_kept_50 : decode cX6_kept 50 = .ok (.bipush 12, 2) := by decide +kernel
theorem dX6_kept_52 : decode cX6_kept 52 = .ok (.if_icmp .ge 34, 3) := by decide +kernel
theorem dX6_kept_55 : decode cX6_kept 55 = .ok (.aload_n 0, 1) := by decide +kernel
theorem dX6_kept_56 : decode cX6_kept 56 = .ok (.getfield 19, 3) := by decide +kernel
theorem dX6_kept_59 : decode cX6_kept 59 = .ok (.bipush 12, 2) := by decide +kernel
theorem dX6_kept_61 : decode cX6_kept 61 = .ok (.aload_n 0, 1) := by decide +kernel
theorem dX6_kept_62 : decode cX6_kept 62 = .ok (.getfield 45, 3) := by decide +kernel
theorem dX6_kept_65 : decode cX6_kept 65 = .ok (.imul, 1) := by decide +kernel
theorem dX6_kept_66 : decode cX6_kept 66 = .ok (.iload_n 2, 1) := by decide +kernel
theorem dX6_kept_67 : decode cX6_kept 67 = .ok (.iadd, 1) := by decide +kernel
theorem dX6_kept_68 : decode cX6_kept 68 = .ok (.aload_n 0, 1) := by decide +kernel
theorem dX6_kept_69 : decode cX6_kept 69 = .ok (.getfield 33, 3) := by decide +kernel
theorem dX6_kept_72 : decode cX6_kept 72 = .ok (.bipush 12, 2) := by decide +kernel
theorem dX6_kept_74 : decode cX6_kept 74 = .ok (.iload_n 1, 1) := by decide +kernel
theorem dX6_kept_75 : decode cX6_kept 75 = .ok (.imul, 1) := by decide +kernel
theorem dX6_kept_76 : decode cX6_kept 76 = .ok (.iload_n 2, 1) := by decide +kernel
theorem dX6_kept_77 : decode cX6_kept 77 = .ok (.iadd, 1) := by decide +kernel
theorem dX6_kept_78 : decode cX6_kept 78 = .ok (.laload, 1) := by decide +kernel
theorem dX6_kept_79 : decode cX6_kept 79 = .ok (.lastore, 1) := by decide +kernel
theorem dX6_kept_80 : decode cX6_kept 80 = .ok (.iinc 2 1, 3) := by decide +kernel
theorem dX6_kept_83 : decode cX6_kept 83 = .ok (.goto (-34), 3) := by decide +kernel
theorem dX6_kept_86 : decode cX6_kept 86 = .ok (.aload_n 0, 1) := by decide +kernel
theorem dX6_kept_87 : decode cX6_kept 87 = .ok (.invokevirtual 64, 3) := by decide +kernel
theorem dX6_kept_90 : decode cX6_kept 90 = .ok (.ireturn, 1) := by decide +kernel
theorem dX6_many_0 : decode cX6_many 0 = .ok (.iload_n 1, 1) := by decide +kernel
theorem dX6_many_1 : decode cX6_many 1 = .ok (.tableswitch 60 0 4 #[35, 40, 45, 50, 55], 35) := by decide +kernel
theorem dX6_many_36 : decode cX6_many 36 = .ok (.aload_n 0, 1) := by decide +kernel
theorem dX6_many_37 : decode cX6_many 37 = .ok (.getfield 45, 3) := by decide +kernel
theorem dX6_many_40 : decode cX6_many 40 = .ok (.ireturn, 1) := by decide +kernel
theorem dX6_many_41 : decode cX6_many 41 = .ok (.aload_n 0, 1) := by decide +kernel
theorem dX6_many_42 : decode cX6_many 42 = .ok (.getfield 198, 3) := by decide +kernel
theorem dX6_many_45 : decode cX6_many 45 = .ok (.ireturn, 1) := by decide +kernel
theorem dX6_many_46 : decode cX6_many 46 = .ok (.aload_n 0, 1) := by decide +kernel
theorem dX6_many_47 : decode cX6_many 47 = .ok (.getfield 201, 3) := by decide +kernel
theorem dX6_many_50 : decode cX6_many 50 = .ok (.ireturn, 1) := by decide +kernel
theorem dX6_many_51 : decode cX6_many 51 = .ok (.aload_n 0, 1) := by decide +kernel
theorem dX6_many_52 : decode cX6_many 52 = .ok (.getfield 124, 3) := by decide +kernel
theorem dX6_many_55 : decode cX6_many 55 = .ok (.ireturn, 1) := by decide +kernel
theorem dX6_many_56 : decode cX6_many 56 = .ok (.aload_n 0, 1) := by decide +kernel
theorem dX6_many_57 : decode cX6_many 57 = .ok (.getfield 178, 3) := by decide +kernel
theorem dX6_many_60 : decode cX6_many 60 = .ok (.ireturn, 1) := by decide +kernel
theorem dX6_many_61 : decode cX6_many 61 = .ok (.bipush (-3), 2) := by decide +kernel
theorem dX6_many_63 : decode cX6_many 63 = .ok (.ireturn, 1) := by decide +kernel
theorem dX6_drop_0 : decode cX6_drop 0 = .ok (.aload_n 0, 1) := by decide +kernel
theorem dX6_drop_1 : decode cX6_drop 1 = .ok (.getfield 45, 3) := by decide +kernel
theorem dX6_drop_4 : decode cX6_drop 4 = .ok (.ifCond .ne 6, 3) := by decide +kernel
theorem dX6_drop_7 : decode cX6_drop 7 = .ok (.bipush (-2), 2) := by decide +kernel
theorem dX6_drop_9 : decode cX6_drop 9 = .ok (.ireturn, 1) := by decide +kernel
theorem dX6_drop_10 : decode cX6_drop 10 = .ok (.aload_n 0, 1) := by decide +kernel
theorem dX6_drop_11 : decode cX6_drop 11 = .ok (.dup, 1) := by decide +kernel
theorem dX6_drop_12 : decode cX6_drop 12 = .ok (.getfield 45, 3) := by decide +kernel
theorem dX6_drop_15 : decode cX6_drop 15 = .ok (.iconst 1, 1) := by decide +kernel
theorem dX6_drop_16 : decode cX6_drop 16 = .ok (.isub, 1) := by decide +kernel
theorem dX6_drop_17 : decode cX6_drop 17 = .ok (.putfield 45, 3) := by decide +kernel
theorem dX6_drop_20 : decode cX6_drop 20 = .ok (.aload_n 0, 1) := by decide +kernel
theorem dX6_drop_21 : decode cX6_drop 21 = .ok (.getfield 45, 3) := by decide +kernel
theorem dX6_drop_24 : decode cX6_drop 24 = .ok (.ireturn, 1) := by decide +kernel
