theorem dX6_init_0 : decode cX6_init 0 = .ok (.aload_n 0, 1) := by decide +kernel
theorem dX6_init_1 : decode cX6_init 1 = .ok (.invokespecial 1, 3) := by decide +kernel
theorem dX6_init_4 : decode cX6_init 4 = .ok (.aload_n 0, 1) := by decide +kernel
theorem dX6_init_5 : decode cX6_init 5 = .ok (.bipush 61, 2) := by decide +kernel
theorem dX6_init_7 : decode cX6_init 7 = .ok (.newarray .int, 2) := by decide +kernel
theorem dX6_init_9 : decode cX6_init 9 = .ok (.putfield 7, 3) := by decide +kernel
theorem dX6_init_12 : decode cX6_init 12 = .ok (.aload_n 0, 1) := by decide +kernel
theorem dX6_init_13 : decode cX6_init 13 = .ok (.bipush 61, 2) := by decide +kernel
theorem dX6_init_15 : decode cX6_init 15 = .ok (.newarray .int, 2) := by decide +kernel
theorem dX6_init_17 : decode cX6_init 17 = .ok (.putfield 13, 3) := by decide +kernel
theorem dX6_init_20 : decode cX6_init 20 = .ok (.aload_n 0, 1) := by decide +kernel
theorem dX6_init_21 : decode cX6_init 21 = .ok (.bipush 61, 2) := by decide +kernel
theorem dX6_init_23 : decode cX6_init 23 = .ok (.newarray .int, 2) := by decide +kernel
theorem dX6_init_25 : decode cX6_init 25 = .ok (.putfield 16, 3) := by decide +kernel
theorem dX6_init_28 : decode cX6_init 28 = .ok (.aload_n 0, 1) := by decide +kernel
theorem dX6_init_29 : decode cX6_init 29 = .ok (.sipush 732, 3) := by decide +kernel
theorem dX6_init_32 : decode cX6_init 32 = .ok (.newarray .long, 2) := by decide +kernel
theorem dX6_init_34 : decode cX6_init 34 = .ok (.putfield 19, 3) := by decide +kernel
theorem dX6_init_37 : decode cX6_init 37 = .ok (.aload_n 0, 1) := by decide +kernel
theorem dX6_init_38 : decode cX6_init 38 = .ok (.iconst 1, 1) := by decide +kernel
theorem dX6_init_39 : decode cX6_init 39 = .ok (.putfield 23, 3) := by decide +kernel
theorem dX6_init_42 : decode cX6_init 42 = .ok (.aload_n 0, 1) := by decide +kernel
theorem dX6_init_43 : decode cX6_init 43 = .ok (.sipush 144, 3) := by decide +kernel
theorem dX6_init_46 : decode cX6_init 46 = .ok (.newarray .long, 2) := by decide +kernel
theorem dX6_init_48 : decode cX6_init 48 = .ok (.putfield 27, 3) := by decide +kernel
theorem dX6_init_51 : decode cX6_init 51 = .ok (.aload_n 0, 1) := by decide +kernel
theorem dX6_init_52 : decode cX6_init 52 = .ok (.bipush 12, 2) := by decide +kernel
theorem dX6_init_54 : decode cX6_init 54 = .ok (.newarray .int, 2) := by decide +kernel
theorem dX6_init_56 : decode cX6_init 56 = .ok (.putfield 30, 3) := by decide +kernel
theorem dX6_init_59 : decode cX6_init 59 = .ok (.aload_n 0, 1) := by decide +kernel
theorem dX6_init_60 : decode cX6_init 60 = .ok (.bipush 72, 2) := by decide +kernel
theorem dX6_init_62 : decode cX6_init 62 = .ok (.newarray .long, 2) := by decide +kernel
theorem dX6_init_64 : decode cX6_init 64 = .ok (.putfield 33, 3) := by decide +kernel
theorem dX6_init_67 : decode cX6_init 67 = .ok (.aload_n 0, 1) := by decide +kernel
theorem dX6_init_68 : decode cX6_init 68 = .ok (.sipush 300, 3) := by decide +kernel
theorem dX6_init_71 : decode cX6_init 71 = .ok (.newarray .int, 2) := by decide +kernel
theorem dX6_init_73 : decode cX6_init 73 = .ok (.putfield 36, 3) := by decide +kernel
theorem dX6_init_76 : decode cX6_init 76 = .ok (.aload_n 0, 1) := by decide +kernel
theorem dX6_init_77 : decode cX6_init 77 = .ok (.sipush 400, 3) := by decide +kernel
theorem dX6_init_80 : decode cX6_init 80 = .ok (.newarray .int, 2) := by decide +kernel
theorem dX6_init_82 : decode cX6_init 82 = .ok (.putfield 39, 3) := by decide +kernel
theorem dX6_init_85 : decode cX6_init 85 = .ok (.aload_n 0, 1) := by decide +kernel
theorem dX6_init_86 : decode cX6_init 86 = .ok (.bipush 12, 2) := by decide +kernel
theorem dX6_init_88 : decode cX6_init 88 = .ok (.newarray .long, 2) := by decide +kernel
theorem dX6_init_90 : decode cX6_init 90 = .ok (.putfield 42, 3) := by decide +kernel
theorem dX6_init_93 : decode cX6_init 93 = .ok (.return_, 1) := by decide +kernel
theorem dX6_in_0 : decode cX6_in 0 = .ok (.lload_n 0, 1) := by decide +kernel
theorem dX6_in_1 : decode cX6_in 1 = .ok (.lload_n 2, 1) := by decide +kernel
theorem dX6_in_2 : decode cX6_in 2 = .ok (.lcmp, 1) := by decide +kernel
theorem dX6_in_3 : decode cX6_in 3 = .ok (.ifCond .lt 14, 3) := by decide +kernel
theorem dX6_in_6 : decode cX6_in 6 = .ok (.lload_n 0, 1) := by decide +kernel
theorem dX6_in_7 : decode cX6_in 7 = .ok (.lload 4, 2) := by decide +kernel
theorem dX6_in_9 : decode cX6_in 9 = .ok (.lcmp, 1) := by decide +kernel
theorem dX6_in_10 : decode cX6_in 10 = .ok (.ifCond .gt 7, 3) := by decide +kernel
theorem dX6_in_13 : decode cX6_in 13 = .ok (.iconst 1, 1) := by decide +kernel
theorem dX6_in_14 : decode cX6_in 14 = .ok (.goto 4, 3) := by decide +kernel
theorem dX6_in_17 : decode cX6_in 17 = .ok (.iconst 0, 1) := by decide +kernel
theorem dX6_in_18 : decode cX6_in 18 = .ok (.ireturn, 1) := by decide +kernel
set_option maxRecDepth 20000 in
theorem ggX6_isNumber_X6_in : GoodIn wsX6_isNumber wsX6_in := goodIn_r _ [5] (by decide +kernel) (by decide +kernel)
set_option maxRecDepth 20000 in
theorem gX6_isNumber_X6_in : GoodIn wsX6_isNumber (va_wsS RX6 48 yX6_in wsX6_in) := goodIn_app (goodIn_of _ (by decide +kernel)) ggX6_isNumber_X6_in
theorem dX6_isNumber_0 : decode cX6_isNumber 0 = .ok (.iload_n 1, 1) := by decide +kernel
theorem dX6_isNumber_1 : decode cX6_isNumber 1 = .ok (.i2l, 1) := by decide +kernel
theorem dX6_isNumber_2 : decode cX6_isNumber 2 = .ok (.lconst 0, 1) := by decide +kernel
theorem dX6_isNumber_3 : decode cX6_isNumber 3 = .ok (.aload_n 0, 1) := by decide +kernel
theorem dX6_isNumber_4 : decode cX6_isNumber 4 = .ok (.getfield 45, 3) := by decide +kernel
theorem dX6_isNumber_7 : decode cX6_isNumber 7 = .ok (.iconst 1, 1) := by decide +kernel
theorem dX6_isNumber_8 : decode cX6_isNumber 8 = .ok (.isub, 1) := by decide +kernel
theorem dX6_isNumber_9 : decode cX6_isNumber 9 = .ok (.i2l, 1) := by decide +kernel
theorem dX6_isNumber_10 : decode cX6_isNumber 10 = .ok (.invokestatic 48, 3) := by decide +kernel
theorem dX6_isNumber_13 : decode cX6_isNumber 13 = .ok (.ireturn, 1) := by decide +kernel
theorem dX6_isNothing_0 : decode cX6_isNothing 0 = .ok (.aload_n 0, 1) := by decide +kernel
theorem dX6_isNothing_1 : decode cX6_isNothing 1 = .ok (.getfield 7, 3) := by decide +kernel
theorem dX6_isNothing_4 : decode cX6_isNothing 4 = .ok (.iload_n 1, 1) := by decide +kernel
theorem dX6_isNothing_5 : decode cX6_isNothing 5 = .ok (.iaload, 1) := by decide +kernel
theorem dX6_isNothing_6 : decode cX6_isNothing 6 = .ok (.iconst (-1), 1) := by decide +kernel
theorem dX6_isNothing_7 : decode cX6_isNothing 7 = .ok (.if_icmp .ne 7, 3) := by decide +kernel
theorem dX6_isNothing_10 : decode cX6_isNothing 10 = .ok (.iconst 1, 1) := by decide +kernel
theorem dX6_isNothing_11 : decode cX6_isNothing 11 = .ok (.goto 4, 3) := by decide +kernel
theorem dX6_isNothing_14 : decode cX6_isNothing 14 = .ok (.iconst 0, 1) := by decide +kernel
theorem dX6_isNothing_15 : decode cX6_isNothing 15 = .ok (.ireturn, 1) := by decide +kernel
theorem dX6_areLike_0 : decode cX6_areLike 0 = .ok (.aload_n 0, 1) := by decide +kernel
theorem dX6_areLike_1 : decode cX6_areLike 1 = .ok (.getfield 7, 3) := by decide +kernel
theorem dX6_areLike_4 : decode cX6_areLike 4 = .ok (.iload_n 1, 1) := by decide +kernel
theorem dX6_areLike_5 : decode cX6_areLike 5 = .ok (.iaload, 1) := by decide +kernel
theorem dX6_areLike_6 : decode cX6_areLike 6 = .ok (.aload_n 0, 1) := by decide +kernel
theorem dX6_areLike_7 : decode cX6_areLike 7 = .ok (.getfield 7, 3) := by decide +kernel
theorem dX6_areLike_10 : decode cX6_areLike 10 = .ok (.iload_n 2, 1) := by decide +kernel
theorem dX6_areLike_11 : decode cX6_areLike 11 = .ok (.iaload, 1) := by decide +kernel
theorem dX6_areLike_12 : decode cX6_areLike 12 = .ok (.if_icmp .ne 37, 3) := by decide +kernel
theorem dX6_areLike_15 : decode cX6_areLike 15 = .ok (.aload_n 0, 1) := by decide +kernel
theorem dX6_areLike_16 : decode cX6_areLike 16 = .ok (.getfield 13, 3) := by decide +kernel
theorem dX6_areLike_19 : decode cX6_areLike 19 = .ok (.iload_n 1, 1) := by decide +kernel
theorem dX6_areLike_20 : decode cX6_areLike 20 = .ok (.iaload, 1) := by decide +kernel
theorem dX6_areLike_21 : decode cX6_areLike 21 = .ok (.aload_n 0, 1) := by decide +kernel
theorem dX6_areLike_22 : decode cX6_areLike 22 = .ok (.getfield 13, 3) := by decide +kernel
theorem dX6_areLike_25 : decode cX6_areLike 25 = .ok (.iload_n 2, 1) := by decide +kernel
theorem dX6_areLike_26 : decode cX6_areLike 26 = .ok (.iaload, 1) := by decide +kernel
theorem dX6_areLike_27 : decode cX6_areLike 27 = .ok (.if_icmp .ne 22, 3) := by decide +kernel
theorem dX6_areLike_30 : decode cX6_areLike 30 = .ok (.aload_n 0, 1) := by decide +kernel
theorem dX6_areLike_31 : decode cX6_areLike 31 = .ok (.getfield 16, 3) := by decide +kernel
theorem dX6_areLike_34 : decode cX6_areLike 34 = .ok (.iload_n 1, 1) := by decide +kernel
theorem dX6_areLike_35 : decode cX6_areLike 35 = .ok (.iaload, 1) := by decide +kernel
theorem dX6_areLike_36 : decode cX6_areLike 36 = .ok (.aload_n 0, 1) := by decide +kernel
theorem dX6_areLike_37 : decode cX6_areLike 37 = .ok (.getfield 16, 3) := by decide +kernel
theorem dX6_areLike_40 : decode cX6_areLike 40 = .ok (.iload_n 2, 1) := by decide +kernel
theorem dX6_areLike_41 : decode cX6_areLike 41 = .ok (.iaload, 1) := by decide +kernel
theorem dX6_areLike_42 : decode cX6_areLike 42 = .ok (.if_icmp .ne 7, 3) := by decide +kernel
theorem dX6_areLike_45 : decode cX6_areLike 45 = .ok (.iconst 1, 1) := by decide +kernel
theorem dX6_areLike_46 : decode cX6_areLike 46 = .ok (.goto 4, 3) := by decide +kernel
theorem dX6_areLike_49 : decode cX6_areLike 49 = .ok (.iconst 0, 1) := by decide +kernel
theorem dX6_areLike_50 : decode cX6_areLike 50 = .ok (.ireturn, 1) := by decide +kernel
theorem dX6_isLikePlan_0 : decode cX6_isLikePlan 0 = .ok (.aload_n 0, 1) := by decide +kernel
theorem dX6_isLikePlan_1 : decode cX6_isLikePlan 1 = .ok (.getfield 7, 3) := by decide +kernel
theorem dX6_isLikePlan_4 : decode cX6_isLikePlan 4 = .ok (.iload_n 1, 1) := by decide +kernel
theorem dX6_isLikePlan_5 : decode cX6_isLikePlan 5 = .ok (.iaload, 1) := by decide +kernel
theorem dX6_isLikePlan_6 : decode cX6_isLikePlan 6 = .ok (.aload_n 0, 1) := by decide +kernel
theorem dX6_isLikePlan_7 : decode cX6_isLikePlan 7 = .ok (.getfield 52, 3) := by decide +kernel
theorem dX6_isLikePlan_10 : decode cX6_isLikePlan 10 = .ok (.if_icmp .ne 33, 3) := by decide +kernel
theorem dX6_isLikePlan_13 : decode cX6_isLikePlan 13 = .ok (.aload_n 0, 1) := by decide +kernel
theorem dX6_isLikePlan_14 : decode cX6_isLikePlan 14 = .ok (.getfield 13, 3) := by decide +kernel
theorem dX6_isLikePlan_17 : decode cX6_isLikePlan 17 = .ok (.iload_n 1, 1) := by decide +kernel
theorem dX6_isLikePlan_18 : decode cX6_isLikePlan 18 = .ok (.iaload, 1) := by decide +kernel
theorem dX6_isLikePlan_19 : decode cX6_isLikePlan 19 = .ok (.aload_n 0, 1) := by decide +kernel
theorem dX6_isLikePlan_20 : decode cX6_isLikePlan 20 = .ok (.getfield 55, 3) := by decide +kernel
theorem dX6_isLikePlan_23 : decode cX6_isLikePlan 23 = .ok (.if_icmp .ne 20, 3) := by decide +kernel
theorem dX6_isLikePlan_26 : decode cX6_isLikePlan 26 = .ok (.aload_n 0, 1) := by decide +kernel
theorem dX6_isLikePlan_27 : decode cX6_isLikePlan 27 = .ok (.getfield 16, 3) := by decide +kernel
theorem dX6_isLikePlan_30 : decode cX6_isLikePlan 30 = .ok (.iload_n 1, 1) := by decide +kernel
theorem dX6_isLikePlan_31 : decode cX6_isLikePlan 31 = .ok (.iaload, 1) := by decide +kernel
theorem dX6_isLikePlan_32 : decode cX6_isLikePlan 32 = .ok (.aload_n 0, 1) := by decide +kernel
theorem dX6_isLikePlan_33 : decode cX6_isLikePlan 33 = .ok (.getfield 23, 3) := by decide +kernel
theorem dX6_isLikePlan_36 : decode cX6_isLikePlan 36 = .ok (.if_icmp .ne 7, 3) := by decide +kernel
theorem dX6_isLikePlan_39 : decode cX6_isLikePlan 39 = .ok (.iconst 1, 1) := by decide +kernel
theorem dX6_isLikePlan_40 : decode cX6_isLikePlan 40 = .ok (.goto 4, 3) := by decide +kernel
theorem dX6_isLikePlan_43 : decode cX6_isLikePlan 43 = .ok (.iconst 0, 1) := by decide +kernel
theorem dX6_isLikePlan_44 : decode cX6_isLikePlan 44 = .ok (.ireturn, 1) := by decide +kernel
theorem dX6_lay_0 : decode cX6_lay 0 = .ok (.aload_n 0, 1) := by decide +kernel
theorem dX6_lay_1 : decode cX6_lay 1 = .ok (.getfield 7, 3) := by decide +kernel
theorem dX6_lay_4 : decode cX6_lay 4 = .ok (.aload_n 0, 1) := by decide +kernel
theorem dX6_lay_5 : decode cX6_lay 5 = .ok (.getfield 45, 3) := by decide +kernel
theorem dX6_lay_8 : decode cX6_lay 8 = .ok (.iload_n 1, 1) := by decide +kernel
theorem dX6_lay_9 : decode cX6_lay 9 = .ok (.iastore, 1) := by decide +kernel
theorem dX6_lay_10 : decode cX6_lay 10 = .ok (.aload_n 0, 1) := by decide +kernel
theorem dX6_lay_11 : decode cX6_lay 11 = .ok (.getfield 13, 3) := by decide +kernel
theorem dX6_lay_14 : decode cX6_lay 14 = .ok (.aload_n 0, 1) := by decide +kernel
theorem dX6_lay_15 : decode cX6_lay 15 = .ok (.getfield 45, 3) := by decide +kernel
theorem dX6_lay_18 : decode cX6_lay 18 = .ok (.iload_n 2, 1) := by decide +kernel
theorem dX6_lay_19 : decode cX6_lay 19 = .ok (.iastore, 1) := by decide +kernel
theorem dX6_lay_20 : decode cX6_lay 20 = .ok (.aload_n 0, 1) := by decide +kernel
theorem dX6_lay_21 : decode cX6_lay 21 = .ok (.getfield 16, 3) := by decide +kernel
theorem dX6_lay_24 : decode cX6_lay 24 = .ok (.aload_n 0, 1) := by decide +kernel
theorem dX6_lay_25 : decode cX6_lay 25 = .ok (.getfield 45, 3) := by decide +kernel
theorem dX6_lay_28 : decode cX6_lay 28 = .ok (.iload_n 3, 1) := by decide +kernel
theorem dX6_lay_29 : decode cX6_lay 29 = .ok (.iastore, 1) := by decide +kernel
theorem dX6_lay_30 : decode cX6_lay 30 = .ok (.iconst 0, 1) := by decide +kernel
theorem dX6_lay_31 : decode cX6_lay 31 = .ok (.istore 4, 2) := by decide +kernel
theorem dX6_lay_33 : decode cX6_lay 33 = .ok (.iload 4, 2) := by decide +kernel
theorem dX6_lay_35 : decode cX6_lay 35 = .ok (.bipush 12, 2) := by decide +kernel
theorem dX6_lay_37 : decode cX6_lay 37 = .ok (.if_icmp .ge 25, 3) := by decide +kernel
theorem dX6_lay_40 : decode cX6_lay 40 = .ok (.aload_n 0, 1) := by decide +kernel
theorem dX6_lay_41 : decode cX6_lay 41 = .ok (.getfield 19, 3) := by decide +kernel
theorem dX6_lay_44 : decode cX6_lay 44 = .ok (.bipush 12, 2) := by decide +kernel
theorem dX6_lay_46 : decode cX6_lay 46 = .ok (.aload_n 0, 1) := by decide +kernel
theorem dX6_lay_47 : decode cX6_lay 47 = .ok (.getfield 45, 3) := by decide +kernel
theorem dX6_lay_50 : decode cX6_lay 50 = .ok (.imul, 1) := by decide +kernel
theorem dX6_lay_51 : decode cX6_lay 51 = .ok (.iload 4, 2) := by decide +kernel
theorem dX6_lay_53 : decode cX6_lay 53 = .ok (.iadd, 1) := by decide +kernel
theorem dX6_lay_54 : decode cX6_lay 54 = .ok (.lconst 0, 1) := by decide +kernel
theorem dX6_lay_55 : decode cX6_lay 55 = .ok (.lastore, 1) := by decide +kernel
theorem dX6_lay_56 : decode cX6_lay 56 = .ok (.iinc 4 1, 3) := by decide +kernel
theorem dX6_lay_59 : decode cX6_lay 59 = .ok (.goto (-26), 3) := by decide +kernel
theorem dX6_lay_62 : decode cX6_lay 62 = .ok (.return_, 1) := by decide +kernel
theorem dX6_keepScore_0 : decode cX6_keepScore 0 = .ok (.aload_n 0, 1) := by decide +kernel
theorem dX6_keepScore_1 : decode cX6_keepScore 1 = .ok (.dup, 1) := by decide +kernel
theorem dX6_keepScore_2 : decode cX6_keepScore 2 = .ok (.getfield 45, 3) := by decide +kernel
theorem dX6_keepScore_5 : decode cX6_keepScore 5 = .ok (.iconst 1, 1) := by decide +kernel
theorem dX6_keepScore_6 : decode cX6_keepScore 6 = .ok (.iadd, 1) := by decide +kernel
theorem dX6_keepScore_7 : decode cX6_keepScore 7 = .ok (.putfield 45, 3) := by decide +kernel
theorem dX6_keepScore_10 : decode cX6_keepScore 10 = .ok (.aload_n 0, 1) := by decide +kernel
theorem dX6_keepScore_11 : decode cX6_keepScore 11 = .ok (.getfield 45, 3) := by decide +kernel
theorem dX6_keepScore_14 : decode cX6_keepScore 14 = .ok (.iconst 1, 1) := by decide +kernel
theorem dX6_keepScore_15 : decode cX6_keepScore 15 = .ok (.isub, 1) := by decide +kernel
theorem dX6_keepScore_16 : decode cX6_keepScore 16 = .ok (.ireturn, 1) := by decide +kernel
set_option maxRecDepth 20000 in
theorem ggX6_make_X6_in : GoodIn wsX6_make wsX6_in := goodIn_r _ [6] (by decide +kernel) (by decide +kernel)
set_option maxRecDepth 20000 in
theorem gX6_make_X6_in : GoodIn wsX6_make (va_wsS RX6 48 yX6_in wsX6_in) := goodIn_app (goodIn_of _ (by decide +kernel)) ggX6_make_X6_in
set_option maxRecDepth 20000 in
theorem ggX6_make_X6_lay : GoodIn wsX6_make wsX6_lay := goodIn_r _ [10, 11, 2, 12, 13, 14, 19, 20, 21, 22, 23, 24, 25, 26, 27, 28, 29, 30, 31, 32, 33, 34, 35, 36, 37, 38, 39, 40, 41, 42] (by decide +kernel) (by decide +kernel)
set_option maxRecDepth 20000 in
theorem gX6_make_X6_lay : GoodIn wsX6_make (wsV RX6 60 RX6 yX6_lay wsX6_lay) := goodIn_app (goodIn_of _ (by decide +kernel)) ggX6_make_X6_lay
set_option maxRecDepth 20000 in
theorem ggX6_make_X6_keepScore : GoodIn wsX6_make wsX6_keepScore := goodIn_r _ [18, 2, 19, 20, 21, 22, 23, 24, 25, 26, 27, 28, 29, 30, 31, 32, 33, 34, 35, 36, 37, 38, 39, 40, 41, 42] (by decide +kernel) (by decide +kernel)
set_option maxRecDepth 20000 in
theorem gX6_make_X6_keepScore : GoodIn wsX6_make (wsV RX6 64 RX6 yX6_keepScore wsX6_keepScore) := goodIn_app (goodIn_of _ (by decide +kernel)) ggX6_make_X6_keepScore
theorem dX6_make_0 : decode cX6_make 0 = .ok (.iload_n 1, 1) := by decide +kernel
theorem dX6_make_1 : decode cX6_make 1 = .ok (.i2l, 1) := by decide +kernel
theorem dX6_make_2 : decode cX6_make 2 = .ok (.lconst 0, 1) := by decide +kernel
theorem dX6_make_3 : decode cX6_make 3 = .ok (.ldc2_w 58, 3) := by decide +kernel
theorem dX6_make_6 : decode cX6_make 6 = .ok (.invokestatic 48, 3) := by decide +kernel
theorem dX6_make_9 : decode cX6_make 9 = .ok (.ifCond .eq 28, 3) := by decide +kernel
theorem dX6_make_12 : decode cX6_make 12 = .ok (.iload_n 1, 1) := by decide +kernel
theorem dX6_make_13 : decode cX6_make 13 = .ok (.iconst 3, 1) := by decide +kernel
theorem dX6_make_14 : decode cX6_make 14 = .ok (.if_icmp .ne 26, 3) := by decide +kernel
theorem dX6_make_17 : decode cX6_make 17 = .ok (.iload_n 2, 1) := by decide +kernel
theorem dX6_make_18 : decode cX6_make 18 = .ok (.bipush 6, 2) := by decide +kernel
theorem dX6_make_20 : decode cX6_make 20 = .ok (.if_icmp .gt 17, 3) := by decide +kernel
theorem dX6_make_23 : decode cX6_make 23 = .ok (.iload_n 3, 1) := by decide +kernel
theorem dX6_make_24 : decode cX6_make 24 = .ok (.bipush 6, 2) := by decide +kernel
theorem dX6_make_26 : decode cX6_make 26 = .ok (.if_icmp .gt 11, 3) := by decide +kernel
theorem dX6_make_29 : decode cX6_make 29 = .ok (.iload_n 2, 1) := by decide +kernel
theorem dX6_make_30 : decode cX6_make 30 = .ok (.ifCond .ne 10, 3) := by decide +kernel
theorem dX6_make_33 : decode cX6_make 33 = .ok (.iload_n 3, 1) := by decide +kernel
theorem dX6_make_34 : decode cX6_make 34 = .ok (.ifCond .ne 6, 3) := by decide +kernel
theorem dX6_make_37 : decode cX6_make 37 = .ok (.bipush (-3), 2) := by decide +kernel
theorem dX6_make_39 : decode cX6_make 39 = .ok (.ireturn, 1) := by decide +kernel
theorem dX6_make_40 : decode cX6_make 40 = .ok (.aload_n 0, 1) := by decide +kernel
theorem dX6_make_41 : decode cX6_make 41 = .ok (.getfield 45, 3) := by decide +kernel
theorem dX6_make_44 : decode cX6_make 44 = .ok (.bipush 60, 2) := by decide +kernel
theorem dX6_make_46 : decode cX6_make 46 = .ok (.if_icmp .ne 6, 3) := by decide +kernel
theorem dX6_make_49 : decode cX6_make 49 = .ok (.bipush (-4), 2) := by decide +kernel
theorem dX6_make_51 : decode cX6_make 51 = .ok (.ireturn, 1) := by decide +kernel
theorem dX6_make_52 : decode cX6_make 52 = .ok (.iload_n 1, 1) := by decide +kernel
theorem dX6_make_53 : decode cX6_make 53 = .ok (.iconst 3, 1) := by decide +kernel
theorem dX6_make_54 : decode cX6_make 54 = .ok (.if_icmp .ne 14, 3) := by decide +kernel
theorem dX6_make_57 : decode cX6_make 57 = .ok (.iload_n 2, 1) := by decide +kernel
theorem dX6_make_58 : decode cX6_make 58 = .ok (.ifCond .lt 7, 3) := by decide +kernel
theorem dX6_make_61 : decode cX6_make 61 = .ok (.iload_n 3, 1) := by decide +kernel
theorem dX6_make_62 : decode cX6_make 62 = .ok (.ifCond .ge 6, 3) := by decide +kernel
theorem dX6_make_65 : decode cX6_make 65 = .ok (.bipush (-14), 2) := by decide +kernel
theorem dX6_make_67 : decode cX6_make 67 = .ok (.ireturn, 1) := by decide +kernel
theorem dX6_make_68 : decode cX6_make 68 = .ok (.aload_n 0, 1) := by decide +kernel
theorem dX6_make_69 : decode cX6_make 69 = .ok (.iload_n 1, 1) := by decide +kernel
theorem dX6_make_70 : decode cX6_make 70 = .ok (.iload_n 1, 1) := by decide +kernel
theorem dX6_make_71 : decode cX6_make 71 = .ok (.ifCond .ne 7, 3) := by decide +kernel
theorem dX6_make_74 : decode cX6_make 74 = .ok (.iconst 0, 1) := by decide +kernel
theorem dX6_make_75 : decode cX6_make 75 = .ok (.goto 13, 3) := by decide +kernel
theorem dX6_make_78 : decode cX6_make 78 = .ok (.iload_n 1, 1) := by decide +kernel
theorem dX6_make_79 : decode cX6_make 79 = .ok (.iconst 3, 1) := by decide +kernel
theorem dX6_make_80 : decode cX6_make 80 = .ok (.if_icmp .ge 7, 3) := by decide +kernel
theorem dX6_make_83 : decode cX6_make 83 = .ok (.iconst 1, 1) := by decide +kernel
theorem dX6_make_84 : decode cX6_make 84 = .ok (.goto 4, 3) := by decide +kernel
theorem dX6_make_87 : decode cX6_make 87 = .ok (.iload_n 2, 1) := by decide +kernel
theorem dX6_make_88 : decode cX6_make 88 = .ok (.iload_n 1, 1) := by decide +kernel
theorem dX6_make_89 : decode cX6_make 89 = .ok (.iconst 3, 1) := by decide +kernel
theorem dX6_make_90 : decode cX6_make 90 = .ok (.if_icmp .ge 9, 3) := by decide +kernel
theorem dX6_make_93 : decode cX6_make 93 = .ok (.iload_n 1, 1) := by decide +kernel
theorem dX6_make_94 : decode cX6_make 94 = .ok (.iconst 1, 1) := by decide +kernel
theorem dX6_make_95 : decode cX6_make 95 = .ok (.iadd, 1) := by decide +kernel
theorem dX6_make_96 : decode cX6_make 96 = .ok (.goto 6, 3) := by decide +kernel
theorem dX6_make_99 : decode cX6_make 99 = .ok (.iload_n 2, 1) := by decide +kernel
theorem dX6_make_100 : decode cX6_make 100 = .ok (.iload_n 3, 1) := by decide +kernel
theorem dX6_make_101 : decode cX6_make 101 = .ok (.iadd, 1) := by decide +kernel
theorem dX6_make_102 : decode cX6_make 102 = .ok (.invokevirtual 60, 3) := by decide +kernel
theorem dX6_make_105 : decode cX6_make 105 = .ok (.aload_n 0, 1) := by decide +kernel
theorem dX6_make_106 : decode cX6_make 106 = .ok (.invokevirtual 64, 3) := by decide +kernel
theorem dX6_make_109 : decode cX6_make 109 = .ok (.ireturn, 1) := by decide +kernel
set_option maxRecDepth 20000 in
theorem ggX6_nothing_X6_lay : GoodIn wsX6_nothing wsX6_lay := goodIn_r _ [6, 7, 1, 8, 9, 10, 15, 16, 17, 18, 19, 20, 21, 22, 23, 24, 25, 26, 27, 28, 29, 30, 31, 32, 33, 34, 35, 36, 37, 38] (by decide +kernel) (by decide +kernel)
set_option maxRecDepth 20000 in
theorem gX6_nothing_X6_lay : GoodIn wsX6_nothing (wsV RX6 60 RX6 yX6_lay wsX6_lay) := goodIn_app (goodIn_of _ (by decide +kernel)) ggX6_nothing_X6_lay
set_option maxRecDepth 20000 in
theorem ggX6_nothing_X6_keepScore : GoodIn wsX6_nothing wsX6_keepScore := goodIn_r _ [14, 1, 15, 16, 17, 18, 19, 20, 21, 22, 23, 24, 25, 26, 27, 28, 29, 30, 31, 32, 33, 34, 35, 36, 37, 38] (by decide +kernel) (by decide +kernel)
set_option maxRecDepth 20000 in
theorem gX6_nothing_X6_keepScore : GoodIn wsX6_nothing (wsV RX6 64 RX6 yX6_keepScore wsX6_keepScore) := goodIn_app (goodIn_of _ (by decide +kernel)) ggX6_nothing_X6_keepScore
theorem dX6_nothing_0 : decode cX6_nothing 0 = .ok (.aload_n 0, 1) := by decide +kernel
theorem dX6_nothing_1 : decode cX6_nothing 1 = .ok (.getfield 45, 3) := by decide +kernel
theorem dX6_nothing_4 : decode cX6_nothing 4 = .ok (.bipush 60, 2) := by decide +kernel
theorem dX6_nothing_6 : decode cX6_nothing 6 = .ok (.if_icmp .ne 6, 3) := by decide +kernel
theorem dX6_nothing_9 : decode cX6_nothing 9 = .ok (.bipush (-4), 2) := by decide +kernel
theorem dX6_nothing_11 : decode cX6_nothing 11 = .ok (.ireturn, 1) := by decide +kernel
theorem dX6_nothing_12 : decode cX6_nothing 12 = .ok (.aload_n 0, 1) := by decide +kernel
theorem dX6_nothing_13 : decode cX6_nothing 13 = .ok (.iconst (-1), 1) := by decide +kernel
theorem dX6_nothing_14 : decode cX6_nothing 14 = .ok (.iconst 0, 1) := by decide +kernel
theorem dX6_nothing_15 : decode cX6_nothing 15 = .ok (.iconst 0, 1) := by decide +kernel
theorem dX6_nothing_16 : decode cX6_nothing 16 = .ok (.invokevirtual 60, 3) := by decide +kernel
theorem dX6_nothing_19 : decode cX6_nothing 19 = .ok (.aload_n 0, 1) := by decide +kernel
theorem dX6_nothing_20 : decode cX6_nothing 20 = .ok (.invokevirtual 64, 3) := by decide +kernel
theorem dX6_nothing_23 : decode cX6_nothing 23 = .ok (.ireturn, 1) := by decide +kernel
set_option maxRecDepth 20000 in
theorem ggX6_set_X6_isNumber : GoodIn wsX6_set wsX6_isNumber := goodIn_r _ [7, 8, 9, 10, 6, 11, 17, 18, 19, 20, 21, 22, 23, 24, 25, 26, 27, 28, 29, 30, 31, 32, 33, 34, 35, 36, 37, 38, 39, 40] (by decide +kernel) (by decide +kernel)
set_option maxRecDepth 20000 in
theorem gX6_set_X6_isNumber : GoodIn wsX6_set (wsV RX6 68 RX6 yX6_isNumber wsX6_isNumber) := goodIn_app (goodIn_of _ (by decide +kernel)) ggX6_set_X6_isNumber
set_option maxRecDepth 20000 in
theorem ggX6_set_X6_isNothing : GoodIn wsX6_set wsX6_isNothing := goodIn_r _ [15, 16, 17, 18, 19, 20, 21, 22, 23, 24, 25, 26, 27, 28, 29, 30, 31, 32, 33, 34, 35, 36, 37, 38, 39, 40] (by decide +kernel) (by decide +kernel)
set_option maxRecDepth 20000 in
theorem gX6_set_X6_isNothing : GoodIn wsX6_set (wsV RX6 72 RX6 yX6_isNothing wsX6_isNothing) := goodIn_app (goodIn_of _ (by decide +kernel)) ggX6_set_X6_isNothing
set_option maxRecDepth 20000 in
theorem ggX6_set_X6_in : GoodIn wsX6_set wsX6_in := goodIn_r _ [11] (by decide +kernel) (by decide +kernel)
set_option maxRecDepth 20000 in
theorem gX6_set_X6_in : GoodIn wsX6_set (va_wsS RX6 48 yX6_in wsX6_in) := goodIn_app (goodIn_of _ (by decide +kernel)) ggX6_set_X6_in
theorem dX6_set_0 : decode cX6_set 0 = .ok (.aload_n 0, 1) := by decide +kernel
theorem dX6_set_1 : decode cX6_set 1 = .ok (.iload_n 1, 1) := by decide +kernel
theorem dX6_set_2 : decode cX6_set 2 = .ok (.invokevirtual 68, 3) := by decide +kernel
theorem dX6_set_5 : decode cX6_set 5 = .ok (.ifCond .ne 6, 3) := by decide +kernel
theorem dX6_set_8 : decode cX6_set 8 = .ok (.bipush (-2), 2) := by decide +kernel
theorem dX6_set_10 : decode cX6_set 10 = .ok (.ireturn, 1) := by decide +kernel
theorem dX6_set_11 : decode cX6_set 11 = .ok (.aload_n 0, 1) := by decide +kernel
theorem dX6_set_12 : decode cX6_set 12 = .ok (.iload_n 1, 1) := by decide +kernel
theorem dX6_set_13 : decode cX6_set 13 = .ok (.invokevirtual 72, 3) := by decide +kernel
theorem dX6_set_16 : decode cX6_set 16 = .ok (.ifCond .eq 6, 3) := by decide +kernel
theorem dX6_set_19 : decode cX6_set 19 = .ok (.bipush (-11), 2) := by decide +kernel
theorem dX6_set_21 : decode cX6_set 21 = .ok (.ireturn, 1) := by decide +kernel
theorem dX6_set_22 : decode cX6_set 22 = .ok (.iload_n 2, 1) := by decide +kernel
theorem dX6_set_23 : decode cX6_set 23 = .ok (.i2l, 1) := by decide +kernel
theorem dX6_set_24 : decode cX6_set 24 = .ok (.lconst 0, 1) := by decide +kernel
theorem dX6_set_25 : decode cX6_set 25 = .ok (.aload_n 0, 1) := by decide +kernel
theorem dX6_set_26 : decode cX6_set 26 = .ok (.getfield 16, 3) := by decide +kernel
theorem dX6_set_29 : decode cX6_set 29 = .ok (.iload_n 1, 1) := by decide +kernel
theorem dX6_set_30 : decode cX6_set 30 = .ok (.iaload, 1) := by decide +kernel
theorem dX6_set_31 : decode cX6_set 31 = .ok (.iconst 1, 1) := by decide +kernel
theorem dX6_set_32 : decode cX6_set 32 = .ok (.isub, 1) := by decide +kernel
theorem dX6_set_33 : decode cX6_set 33 = .ok (.i2l, 1) := by decide +kernel
theorem dX6_set_34 : decode cX6_set 34 = .ok (.invokestatic 48, 3) := by decide +kernel
theorem dX6_set_37 : decode cX6_set 37 = .ok (.ifCond .ne 6, 3) := by decide +kernel
theorem dX6_set_40 : decode cX6_set 40 = .ok (.bipush (-13), 2) := by decide +kernel
theorem dX6_set_42 : decode cX6_set 42 = .ok (.ireturn, 1) := by decide +kernel
theorem dX6_set_43 : decode cX6_set 43 = .ok (.aload_n 0, 1) := by decide +kernel
theorem dX6_set_44 : decode cX6_set 44 = .ok (.getfield 19, 3) := by decide +kernel
theorem dX6_set_47 : decode cX6_set 47 = .ok (.bipush 12, 2) := by decide +kernel
theorem dX6_set_49 : decode cX6_set 49 = .ok (.iload_n 1, 1) := by decide +kernel
theorem dX6_set_50 : decode cX6_set 50 = .ok (.imul, 1) := by decide +kernel
theorem dX6_set_51 : decode cX6_set 51 = .ok (.iload_n 2, 1) := by decide +kernel
theorem dX6_set_52 : decode cX6_set 52 = .ok (.iadd, 1) := by decide +kernel
theorem dX6_set_53 : decode cX6_set 53 = .ok (.lload_n 3, 1) := by decide +kernel
theorem dX6_set_54 : decode cX6_set 54 = .ok (.lastore, 1) := by decide +kernel
theorem dX6_set_55 : decode cX6_set 55 = .ok (.iconst 1, 1) := by decide +kernel
theorem dX6_set_56 : decode cX6_set 56 = .ok (.ireturn, 1) := by decide +kernel
theorem dX6_thrown_0 : decode cX6_thrown 0 = .ok (.aload_n 0, 1) := by decide +kernel
theorem dX6_thrown_1 : decode cX6_thrown 1 = .ok (.getfield 75, 3) := by decide +kernel
theorem dX6_thrown_4 : decode cX6_thrown 4 = .ok (.ireturn, 1) := by decide +kernel
set_option maxRecDepth 20000 in
theorem ggX6_at_X6_isNumber : GoodIn wsX6_at wsX6_isNumber := goodIn_r _ [8, 9, 10, 11, 7, 12, 18, 19, 20, 21, 22, 23, 24, 25, 26, 27, 28, 29, 30, 31, 32, 33, 34, 35, 36, 37, 38, 39, 40, 41] (by decide +kernel) (by decide +kernel)
set_option maxRecDepth 20000 in
theorem gX6_at_X6_isNumber : GoodIn wsX6_at (wsV RX6 68 RX6 yX6_isNumber wsX6_isNumber) := goodIn_app (goodIn_of _ (by decide +kernel)) ggX6_at_X6_isNumber
set_option maxRecDepth 20000 in
theorem ggX6_at_X6_isNothing : GoodIn wsX6_at wsX6_isNothing := goodIn_r _ [16, 17, 18, 19, 20, 21, 22, 23, 24, 25, 26, 27, 28, 29, 30, 31, 32, 33, 34, 35, 36, 37, 38, 39, 40, 41] (by decide +kernel) (by decide +kernel)
set_option maxRecDepth 20000 in
theorem gX6_at_X6_isNothing : GoodIn wsX6_at (wsV RX6 72 RX6 yX6_isNothing wsX6_isNothing) := goodIn_app (goodIn_of _ (by decide +kernel)) ggX6_at_X6_isNothing
set_option maxRecDepth 20000 in
theorem ggX6_at_X6_in : GoodIn wsX6_at wsX6_in := goodIn_r _ [12] (by decide +kernel) (by decide +kernel)
set_option maxRecDepth 20000 in
theorem gX6_at_X6_in : GoodIn wsX6_at (va_wsS RX6 48 yX6_in wsX6_in) := goodIn_app (goodIn_of _ (by decide +kernel)) ggX6_at_X6_in
theorem dX6_at_0 : decode cX6_at 0 = .ok (.aload_n 0, 1) := by decide +kernel
theorem dX6_at_1 : decode cX6_at 1 = .ok (.aload_n 0, 1) := by decide +kernel
theorem dX6_at_2 : decode cX6_at 2 = .ok (.iload_n 1, 1) := by decide +kernel
theorem dX6_at_3 : decode cX6_at 3 = .ok (.invokevirtual 68, 3) := by decide +kernel
theorem dX6_at_6 : decode cX6_at 6 = .ok (.ifCond .ne 7, 3) := by decide +kernel
theorem dX6_at_9 : decode cX6_at 9 = .ok (.iconst 1, 1) := by decide +kernel
theorem dX6_at_10 : decode cX6_at 10 = .ok (.goto 38, 3) := by decide +kernel
theorem dX6_at_13 : decode cX6_at 13 = .ok (.aload_n 0, 1) := by decide +kernel
theorem dX6_at_14 : decode cX6_at 14 = .ok (.iload_n 1, 1) := by decide +kernel
theorem dX6_at_15 : decode cX6_at 15 = .ok (.invokevirtual 72, 3) := by decide +kernel
theorem dX6_at_18 : decode cX6_at 18 = .ok (.ifCond .eq 7, 3) := by decide +kernel
theorem dX6_at_21 : decode cX6_at 21 = .ok (.iconst 2, 1) := by decide +kernel
theorem dX6_at_22 : decode cX6_at 22 = .ok (.goto 26, 3) := by decide +kernel
theorem dX6_at_25 : decode cX6_at 25 = .ok (.iload_n 2, 1) := by decide +kernel
theorem dX6_at_26 : decode cX6_at 26 = .ok (.i2l, 1) := by decide +kernel
theorem dX6_at_27 : decode cX6_at 27 = .ok (.lconst 0, 1) := by decide +kernel
theorem dX6_at_28 : decode cX6_at 28 = .ok (.aload_n 0, 1) := by decide +kernel
theorem dX6_at_29 : decode cX6_at 29 = .ok (.getfield 16, 3) := by decide +kernel
theorem dX6_at_32 : decode cX6_at 32 = .ok (.iload_n 1, 1) := by decide +kernel
theorem dX6_at_33 : decode cX6_at 33 = .ok (.iaload, 1) := by decide +kernel
theorem dX6_at_34 : decode cX6_at 34 = .ok (.iconst 1, 1) := by decide +kernel
theorem dX6_at_35 : decode cX6_at 35 = .ok (.isub, 1) := by decide +kernel
theorem dX6_at_36 : decode cX6_at 36 = .ok (.i2l, 1) := by decide +kernel
theorem dX6_at_37 : decode cX6_at 37 = .ok (.invokestatic 48, 3) := by decide +kernel
theorem dX6_at_40 : decode cX6_at 40 = .ok (.ifCond .ne 7, 3) := by decide +kernel
theorem dX6_at_43 : decode cX6_at 43 = .ok (.iconst 1, 1) := by decide +kernel
theorem dX6_at_44 : decode cX6_at 44 = .ok (.goto 4, 3) := by decide +kernel
theorem dX6_at_47 : decode cX6_at 47 = .ok (.iconst 0, 1) := by decide +kernel
theorem dX6_at_48 : decode cX6_at 48 = .ok (.putfield 75, 3) := by decide +kernel
theorem dX6_at_51 : decode cX6_at 51 = .ok (.aload_n 0, 1) := by decide +kernel
theorem dX6_at_52 : decode cX6_at 52 = .ok (.getfield 75, 3) := by decide +kernel
theorem dX6_at_55 : decode cX6_at 55 = .ok (.ifCond .le 7, 3) := by decide +kernel
theorem dX6_at_58 : decode cX6_at 58 = .ok (.lconst 0, 1) := by decide +kernel
theorem dX6_at_59 : decode cX6_at 59 = .ok (.goto 14, 3) := by decide +kernel
theorem dX6_at_62 : decode cX6_at 62 = .ok (.aload_n 0, 1) := by decide +kernel
theorem dX6_at_63 : decode cX6_at 63 = .ok (.getfield 19, 3) := by decide +kernel
theorem dX6_at_66 : decode cX6_at 66 = .ok (.bipush 12, 2) := by decide +kernel
theorem dX6_at_68 : decode cX6_at 68 = .ok (.iload_n 1, 1) := by decide +kernel
theorem dX6_at_69 : decode cX6_at 69 = .ok (.imul, 1) := by decide +kernel
theorem dX6_at_70 : decode cX6_at 70 = .ok (.iload_n 2, 1) := by decide +kernel
theorem dX6_at_71 : decode cX6_at 71 = .ok (.iadd, 1) := by decide +kernel
theorem dX6_at_72 : decode cX6_at 72 = .ok (.laload, 1) := by decide +kernel
theorem dX6_at_73 : decode cX6_at 73 = .ok (.lreturn, 1) := by decide +kernel
set_option maxRecDepth 20000 in
theorem ggX6_told_X6_isNumber : GoodIn wsX6_told wsX6_isNumber := goodIn_r _ [10, 11, 12, 13, 9, 14, 19, 20, 21, 22, 23, 24, 25, 26, 27, 28, 29, 30, 31, 32, 33, 34, 35, 36, 37, 38, 39, 40, 41, 42] (by decide +kernel) (by decide +kernel)
set_option maxRecDepth 20000 in
theorem gX6_told_X6_isNumber : GoodIn wsX6_told (wsV RX6 68 RX6 yX6_isNumber wsX6_isNumber) := goodIn_app (goodIn_of _ (by decide +kernel)) ggX6_told_X6_isNumber
set_option maxRecDepth 20000 in
theorem ggX6_told_X6_in : GoodIn wsX6_told wsX6_in := goodIn_r _ [14] (by decide +kernel) (by decide +kernel)
set_option maxRecDepth 20000 in
theorem gX6_told_X6_in : GoodIn wsX6_told (va_wsS RX6 48 yX6_in wsX6_in) := goodIn_app (goodIn_of _ (by decide +kernel)) ggX6_told_X6_in
set_option maxRecDepth 20000 in
theorem ggX6_told_X6_isNothing : GoodIn wsX6_told wsX6_isNothing := goodIn_r _ [18, 4, 19, 20, 21, 22, 23, 24, 25, 26, 27, 28, 29, 30, 31, 32, 33, 34, 35, 36, 37, 38, 39, 40, 41, 42] (by decide +kernel) (by decide +kernel)
set_option maxRecDepth 20000 in
theorem gX6_told_X6_isNothing : GoodIn wsX6_told (wsV RX6 72 RX6 yX6_isNothing wsX6_isNothing) := goodIn_app (goodIn_of _ (by decide +kernel)) ggX6_told_X6_isNothing
theorem dX6_told_0 : decode cX6_told 0 = .ok (.aload_n 0, 1) := by decide +kernel
theorem dX6_told_1 : decode cX6_told 1 = .ok (.iload_n 1, 1) := by decide +kernel
theorem dX6_told_2 : decode cX6_told 2 = .ok (.invokevirtual 68, 3) := by decide +kernel
theorem dX6_told_5 : decode cX6_told 5 = .ok (.ifCond .ne 6, 3) := by decide +kernel
theorem dX6_told_8 : decode cX6_told 8 = .ok (.bipush (-2), 2) := by decide +kernel
theorem dX6_told_10 : decode cX6_told 10 = .ok (.ireturn, 1) := by decide +kernel
theorem dX6_told_11 : decode cX6_told 11 = .ok (.iload_n 2, 1) := by decide +kernel
theorem dX6_told_12 : decode cX6_told 12 = .ok (.i2l, 1) := by decide +kernel
theorem dX6_told_13 : decode cX6_told 13 = .ok (.lconst 0, 1) := by decide +kernel
theorem dX6_told_14 : decode cX6_told 14 = .ok (.ldc2_w 58, 3) := by decide +kernel
theorem dX6_told_17 : decode cX6_told 17 = .ok (.invokestatic 48, 3) := by decide +kernel
theorem dX6_told_20 : decode cX6_told 20 = .ok (.ifCond .ne 6, 3) := by decide +kernel
theorem dX6_told_23 : decode cX6_told 23 = .ok (.bipush (-3), 2) := by decide +kernel
theorem dX6_told_25 : decode cX6_told 25 = .ok (.ireturn, 1) := by decide +kernel
theorem dX6_told_26 : decode cX6_told 26 = .ok (.aload_n 0, 1) := by decide +kernel
theorem dX6_told_27 : decode cX6_told 27 = .ok (.iload_n 1, 1) := by decide +kernel
theorem dX6_told_28 : decode cX6_told 28 = .ok (.invokevirtual 72, 3) := by decide +kernel
theorem dX6_told_31 : decode cX6_told 31 = .ok (.ifCond .eq 6, 3) := by decide +kernel
theorem dX6_told_34 : decode cX6_told 34 = .ok (.bipush (-11), 2) := by decide +kernel
theorem dX6_told_36 : decode cX6_told 36 = .ok (.ireturn, 1) := by decide +kernel
theorem dX6_told_37 : decode cX6_told 37 = .ok (.iconst 1, 1) := by decide +kernel
theorem dX6_told_38 : decode cX6_told 38 = .ok (.istore_n 3, 1) := by decide +kernel
theorem dX6_told_39 : decode cX6_told 39 = .ok (.iconst 0, 1) := by decide +kernel
theorem dX6_told_40 : decode cX6_told 40 = .ok (.istore 4, 2) := by decide +kernel
theorem dX6_told_42 : decode cX6_told 42 = .ok (.iload 4, 2) := by decide +kernel
theorem dX6_told_44 : decode cX6_told 44 = .ok (.aload_n 0, 1) := by decide +kernel
theorem dX6_told_45 : decode cX6_told 45 = .ok (.getfield 13, 3) := by decide +kernel
theorem dX6_told_48 : decode cX6_told 48 = .ok (.iload_n 1, 1) := by decide +kernel
theorem dX6_told_49 : decode cX6_told 49 = .ok (.iaload, 1) := by decide +kernel
theorem dX6_told_50 : decode cX6_told 50 = .ok (.if_icmp .ge 36, 3) := by decide +kernel
theorem dX6_told_53 : decode cX6_told 53 = .ok (.iload_n 3, 1) := by decide +kernel
theorem dX6_told_54 : decode cX6_told 54 = .ok (.ifCond .eq 24, 3) := by decide +kernel
theorem dX6_told_57 : decode cX6_told 57 = .ok (.aload_n 0, 1) := by decide +kernel
theorem dX6_told_58 : decode cX6_told 58 = .ok (.getfield 19, 3) := by decide +kernel
theorem dX6_told_61 : decode cX6_told 61 = .ok (.bipush 12, 2) := by decide +kernel
theorem dX6_told_63 : decode cX6_told 63 = .ok (.iload_n 1, 1) := by decide +kernel
theorem dX6_told_64 : decode cX6_told 64 = .ok (.imul, 1) := by decide +kernel
theorem dX6_told_65 : decode cX6_told 65 = .ok (.iload 4, 2) := by decide +kernel
theorem dX6_told_67 : decode cX6_told 67 = .ok (.iadd, 1) := by decide +kernel
theorem dX6_told_68 : decode cX6_told 68 = .ok (.laload, 1) := by decide +kernel
theorem dX6_told_69 : decode cX6_told 69 = .ok (.lconst 0, 1) := by decide +kernel
theorem dX6_told_70 : decode cX6_told 70 = .ok (.lcmp, 1) := by decide +kernel
theorem dX6_told_71 : decode cX6_told 71 = .ok (.ifCond .lt 7, 3) := by decide +kernel
theorem dX6_told_74 : decode cX6_told 74 = .ok (.iconst 1, 1) := by decide +kernel
theorem dX6_told_75 : decode cX6_told 75 = .ok (.goto 4, 3) := by decide +kernel
theorem dX6_told_78 : decode cX6_told 78 = .ok (.iconst 0, 1) := by decide +kernel
theorem dX6_told_79 : decode cX6_told 79 = .ok (.istore_n 3, 1) := by decide +kernel
theorem dX6_told_80 : decode cX6_told 80 = .ok (.iinc 4 1, 3) := by decide +kernel
theorem dX6_told_83 : decode cX6_told 83 = .ok (.goto (-41), 3) := by decide +kernel
theorem dX6_told_86 : decode cX6_told 86 = .ok (.iload_n 2, 1) := by decide +kernel
theorem dX6_told_87 : decode cX6_told 87 = .ok (.ifCond .ne 12, 3) := by decide +kernel
theorem dX6_told_90 : decode cX6_told 90 = .ok (.aload_n 0, 1) := by decide +kernel
theorem dX6_told_91 : decode cX6_told 91 = .ok (.getfield 7, 3) := by decide +kernel
theorem dX6_told_94 : decode cX6_told 94 = .ok (.iload_n 1, 1) := by decide +kernel
theorem dX6_told_95 : decode cX6_told 95 = .ok (.iaload, 1) := by decide +kernel
theorem dX6_told_96 : decode cX6_told 96 = .ok (.goto 40, 3) := by decide +kernel
theorem dX6_told_99 : decode cX6_told 99 = .ok (.iload_n 2, 1) := by decide +kernel
theorem dX6_told_100 : decode cX6_told 100 = .ok (.iconst 1, 1) := by decide +kernel
theorem dX6_told_101 : decode cX6_told 101 = .ok (.if_icmp .ne 12, 3) := by decide +kernel
theorem dX6_told_104 : decode cX6_told 104 = .ok (.aload_n 0, 1) := by decide +kernel
theorem dX6_told_105 : decode cX6_told 105 = .ok (.getfield 13, 3) := by decide +kernel
theorem dX6_told_108 : decode cX6_told 108 = .ok (.iload_n 1, 1) := by decide +kernel
theorem dX6_told_109 : decode cX6_told 109 = .ok (.iaload, 1) := by decide +kernel
theorem dX6_told_110 : decode cX6_told 110 = .ok (.goto 26, 3) := by decide +kernel
theorem dX6_told_113 : decode cX6_told 113 = .ok (.iload_n 2, 1) := by decide +kernel
theorem dX6_told_114 : decode cX6_told 114 = .ok (.iconst 2, 1) := by decide +kernel
theorem dX6_told_115 : decode cX6_told 115 = .ok (.if_icmp .ne 12, 3) := by decide +kernel
theorem dX6_told_118 : decode cX6_told 118 = .ok (.aload_n 0, 1) := by decide +kernel
theorem dX6_told_119 : decode cX6_told 119 = .ok (.getfield 16, 3) := by decide +kernel
theorem dX6_told_122 : decode cX6_told 122 = .ok (.iload_n 1, 1) := by decide +kernel
theorem dX6_told_123 : decode cX6_told 123 = .ok (.iaload, 1) := by decide +kernel
theorem dX6_told_124 : decode cX6_told 124 = .ok (.goto 12, 3) := by decide +kernel
theorem dX6_told_127 : decode cX6_told 127 = .ok (.iload_n 3, 1) := by decide +kernel
theorem dX6_told_128 : decode cX6_told 128 = .ok (.ifCond .eq 7, 3) := by decide +kernel
theorem dX6_told_131 : decode cX6_told 131 = .ok (.iconst 1, 1) := by decide +kernel
theorem dX6_told_132 : decode cX6_told 132 = .ok (.goto 4, 3) := by decide +kernel
theorem dX6_told_135 : decode cX6_told 135 = .ok (.iconst 0, 1) := by decide +kernel
theorem dX6_told_136 : decode cX6_told 136 = .ok (.ireturn, 1) := by decide +kernel
theorem dX6_zero_0 : decode cX6_zero 0 = .ok (.aload_n 0, 1) := by decide +kernel
theorem dX6_zero_1 : decode cX6_zero 1 = .ok (.lconst 0, 1) := by decide +kernel
theorem dX6_zero_2 : decode cX6_zero 2 = .ok (.putfield 78, 3) := by decide +kernel
theorem dX6_zero_5 : decode cX6_zero 5 = .ok (.aload_n 0, 1) := by decide +kernel
theorem dX6_zero_6 : decode cX6_zero 6 = .ok (.lconst 0, 1) := by decide +kernel
theorem dX6_zero_7 : decode cX6_zero 7 = .ok (.putfield 82, 3) := by decide +kernel
theorem dX6_zero_10 : decode cX6_zero 10 = .ok (.return_, 1) := by decide +kernel
theorem dX6_add_0 : decode cX6_add 0 = .ok (.aload_n 0, 1) := by decide +kernel
theorem dX6_add_1 : decode cX6_add 1 = .ok (.dup, 1) := by decide +kernel
theorem dX6_add_2 : decode cX6_add 2 = .ok (.getfield 78, 3) := by decide +kernel
theorem dX6_add_5 : decode cX6_add 5 = .ok (.lload_n 1, 1) := by decide +kernel
theorem dX6_add_6 : decode cX6_add 6 = .ok (.bipush 32, 2) := by decide +kernel
theorem dX6_add_8 : decode cX6_add 8 = .ok (.lshr, 1) := by decide +kernel
theorem dX6_add_9 : decode cX6_add 9 = .ok (.lload_n 3, 1) := by decide +kernel
theorem dX6_add_10 : decode cX6_add 10 = .ok (.lmul, 1) := by decide +kernel
theorem dX6_add_11 : decode cX6_add 11 = .ok (.ladd, 1) := by decide +kernel
theorem dX6_add_12 : decode cX6_add 12 = .ok (.putfield 78, 3) := by decide +kernel
theorem dX6_add_15 : decode cX6_add 15 = .ok (.aload_n 0, 1) := by decide +kernel
theorem dX6_add_16 : decode cX6_add 16 = .ok (.dup, 1) := by decide +kernel
theorem dX6_add_17 : decode cX6_add 17 = .ok (.getfield 82, 3) := by decide +kernel
theorem dX6_add_20 : decode cX6_add 20 = .ok (.lload_n 1, 1) := by decide +kernel
theorem dX6_add_21 : decode cX6_add 21 = .ok (.ldc2_w 85, 3) := by decide +kernel
theorem dX6_add_24 : decode cX6_add 24 = .ok (.land, 1) := by decide +kernel
theorem dX6_add_25 : decode cX6_add 25 = .ok (.lload_n 3, 1) := by decide +kernel
theorem dX6_add_26 : decode cX6_add 26 = .ok (.lmul, 1) := by decide +kernel
theorem dX6_add_27 : decode cX6_add 27 = .ok (.ladd, 1) := by decide +kernel
theorem dX6_add_28 : decode cX6_add 28 = .ok (.putfield 82, 3) := by decide +kernel
theorem dX6_add_31 : decode cX6_add 31 = .ok (.aload_n 0, 1) := by decide +kernel
theorem dX6_add_32 : decode cX6_add 32 = .ok (.dup, 1) := by decide +kernel
theorem dX6_add_33 : decode cX6_add 33 = .ok (.getfield 78, 3) := by decide +kernel
theorem dX6_add_36 : decode cX6_add 36 = .ok (.aload_n 0, 1) := by decide +kernel
theorem dX6_add_37 : decode cX6_add 37 = .ok (.getfield 82, 3) := by decide +kernel
theorem dX6_add_40 : decode cX6_add 40 = .ok (.bipush 32, 2) := by decide +kernel
theorem dX6_add_42 : decode cX6_add 42 = .ok (.lshr, 1) := by decide +kernel
theorem dX6_add_43 : decode cX6_add 43 = .ok (.ladd, 1) := by decide +kernel
theorem dX6_add_44 : decode cX6_add 44 = .ok (.putfield 78, 3) := by decide +kernel
theorem dX6_add_47 : decode cX6_add 47 = .ok (.aload_n 0, 1) := by decide +kernel
theorem dX6_add_48 : decode cX6_add 48 = .ok (.aload_n 0, 1) := by decide +kernel
theorem dX6_add_49 : decode cX6_add 49 = .ok (.getfield 82, 3) := by decide +kernel
theorem dX6_add_52 : decode cX6_add 52 = .ok (.ldc2_w 85, 3) := by decide +kernel
theorem dX6_add_55 : decode cX6_add 55 = .ok (.land, 1) := by decide +kernel
theorem dX6_add_56 : decode cX6_add 56 = .ok (.putfield 82, 3) := by decide +kernel
theorem dX6_add_59 : decode cX6_add 59 = .ok (.return_, 1) := by decide +kernel
set_option maxRecDepth 20000 in
theorem ggX6_fits_X6_in : GoodIn wsX6_fits wsX6_in := goodIn_r _ [7] (by decide +kernel) (by decide +kernel)
set_option maxRecDepth 20000 in
theorem gX6_fits_X6_in : GoodIn wsX6_fits (va_wsS RX6 48 yX6_in wsX6_in) := goodIn_app (goodIn_of _ (by decide +kernel)) ggX6_fits_X6_in
theorem dX6_fits_0 : decode cX6_fits 0 = .ok (.aload_n 0, 1) := by decide +kernel
theorem dX6_fits_1 : decode cX6_fits 1 = .ok (.getfield 78, 3) := by decide +kernel
theorem dX6_fits_4 : decode cX6_fits 4 = .ok (.ldc2_w 87, 3) := by decide +kernel
theorem dX6_fits_7 : decode cX6_fits 7 = .ok (.ldc2_w 89, 3) := by decide +kernel
theorem dX6_fits_10 : decode cX6_fits 10 = .ok (.invokestatic 48, 3) := by decide +kernel
theorem dX6_fits_13 : decode cX6_fits 13 = .ok (.ireturn, 1) := by decide +kernel
theorem dX6_number_0 : decode cX6_number 0 = .ok (.aload_n 0, 1) := by decide +kernel
theorem dX6_number_1 : decode cX6_number 1 = .ok (.getfield 78, 3) := by decide +kernel
theorem dX6_number_4 : decode cX6_number 4 = .ok (.bipush 32, 2) := by decide +kernel
theorem dX6_number_6 : decode cX6_number 6 = .ok (.lshl, 1) := by decide +kernel
theorem dX6_number_7 : decode cX6_number 7 = .ok (.aload_n 0, 1) := by decide +kernel
theorem dX6_number_8 : decode cX6_number 8 = .ok (.getfield 82, 3) := by decide +kernel
theorem dX6_number_11 : decode cX6_number 11 = .ok (.ladd, 1) := by decide +kernel
theorem dX6_number_12 : decode cX6_number 12 = .ok (.lreturn, 1) := by decide +kernel
theorem dX6_compare_0 : decode cX6_compare 0 = .ok (.iconst 0, 1) := by decide +kernel
theorem dX6_compare_1 : decode cX6_compare 1 = .ok (.istore 6, 2) := by decide +kernel
theorem dX6_compare_3 : decode cX6_compare 3 = .ok (.iload 6, 2) := by decide +kernel
theorem dX6_compare_5 : decode cX6_compare 5 = .ok (.iload 5, 2) := by decide +kernel
theorem dX6_compare_7 : decode cX6_compare 7 = .ok (.if_icmp .ge 49, 3) := by decide +kernel
theorem dX6_compare_10 : decode cX6_compare 10 = .ok (.aload_n 1, 1) := by decide +kernel
theorem dX6_compare_11 : decode cX6_compare 11 = .ok (.iload_n 2, 1) := by decide +kernel
theorem dX6_compare_12 : decode cX6_compare 12 = .ok (.iload 6, 2) := by decide +kernel
theorem dX6_compare_14 : decode cX6_compare 14 = .ok (.iadd, 1) := by decide +kernel
theorem dX6_compare_15 : decode cX6_compare 15 = .ok (.laload, 1) := by decide +kernel
theorem dX6_compare_16 : decode cX6_compare 16 = .ok (.aload_n 3, 1) := by decide +kernel
theorem dX6_compare_17 : decode cX6_compare 17 = .ok (.iload 4, 2) := by decide +kernel
theorem dX6_compare_19 : decode cX6_compare 19 = .ok (.iload 6, 2) := by decide +kernel
theorem dX6_compare_21 : decode cX6_compare 21 = .ok (.iadd, 1) := by decide +kernel
theorem dX6_compare_22 : decode cX6_compare 22 = .ok (.laload, 1) := by decide +kernel
theorem dX6_compare_23 : decode cX6_compare 23 = .ok (.lcmp, 1) := by decide +kernel
theorem dX6_compare_24 : decode cX6_compare 24 = .ok (.ifCond .eq 26, 3) := by decide +kernel
theorem dX6_compare_27 : decode cX6_compare 27 = .ok (.aload_n 1, 1) := by decide +kernel
theorem dX6_compare_28 : decode cX6_compare 28 = .ok (.iload_n 2, 1) := by decide +kernel
theorem dX6_compare_29 : decode cX6_compare 29 = .ok (.iload 6, 2) := by decide +kernel
theorem dX6_compare_31 : decode cX6_compare 31 = .ok (.iadd, 1) := by decide +kernel
theorem dX6_compare_32 : decode cX6_compare 32 = .ok (.laload, 1) := by decide +kernel
theorem dX6_compare_33 : decode cX6_compare 33 = .ok (.aload_n 3, 1) := by decide +kernel
theorem dX6_compare_34 : decode cX6_compare 34 = .ok (.iload 4, 2) := by decide +kernel
theorem dX6_compare_36 : decode cX6_compare 36 = .ok (.iload 6, 2) := by decide +kernel
theorem dX6_compare_38 : decode cX6_compare 38 = .ok (.iadd, 1) := by decide +kernel
theorem dX6_compare_39 : decode cX6_compare 39 = .ok (.laload, 1) := by decide +kernel
theorem dX6_compare_40 : decode cX6_compare 40 = .ok (.lcmp, 1) := by decide +kernel
theorem dX6_compare_41 : decode cX6_compare 41 = .ok (.ifCond .ge 7, 3) := by decide +kernel
theorem dX6_compare_44 : decode cX6_compare 44 = .ok (.iconst (-1), 1) := by decide +kernel
theorem dX6_compare_45 : decode cX6_compare 45 = .ok (.goto 4, 3) := by decide +kernel
theorem dX6_compare_48 : decode cX6_compare 48 = .ok (.iconst 1, 1) := by decide +kernel
theorem dX6_compare_49 : decode cX6_compare 49 = .ok (.ireturn, 1) := by decide +kernel
theorem dX6_compare_50 : decode cX6_compare 50 = .ok (.iinc 6 1, 3) := by decide +kernel
theorem dX6_compare_53 : decode cX6_compare 53 = .ok (.goto (-50), 3) := by decide +kernel
theorem dX6_compare_56 : decode cX6_compare 56 = .ok (.iconst 0, 1) := by decide +kernel
theorem dX6_compare_57 : decode cX6_compare 57 = .ok (.ireturn, 1) := by decide +kernel
set_option maxRecDepth 20000 in
theorem ggX6_refusal_X6_isNothing : GoodIn wsX6_refusal wsX6_isNothing := goodIn_r _ [5, 6, 13, 14, 15, 16, 17, 18, 19, 20, 21, 22, 23, 24, 25, 26, 27, 28, 29, 30, 31, 32, 33, 34, 35, 36] (by decide +kernel) (by decide +kernel)
set_option maxRecDepth 20000 in
theorem gX6_refusal_X6_isNothing : GoodIn wsX6_refusal (wsV RX6 72 RX6 yX6_isNothing wsX6_isNothing) := goodIn_app (goodIn_of _ (by decide +kernel)) ggX6_refusal_X6_isNothing
set_option maxRecDepth 20000 in
theorem ggX6_refusal_X6_areLike : GoodIn wsX6_refusal wsX6_areLike := goodIn_r _ [10, 6, 11, 12, 13, 14, 15, 16, 17, 18, 19, 20, 21, 22, 23, 24, 25, 26, 27, 28, 29, 30, 31, 32, 33, 34, 35, 36] (by decide +kernel) (by decide +kernel)
set_option maxRecDepth 20000 in
theorem gX6_refusal_X6_areLike : GoodIn wsX6_refusal (wsV RX6 91 RX6 yX6_areLike wsX6_areLike) := goodIn_app (goodIn_of _ (by decide +kernel)) ggX6_refusal_X6_areLike
theorem dX6_refusal_0 : decode cX6_refusal 0 = .ok (.aload_n 0, 1) := by decide +kernel
theorem dX6_refusal_1 : decode cX6_refusal 1 = .ok (.iload_n 1, 1) := by decide +kernel
theorem dX6_refusal_2 : decode cX6_refusal 2 = .ok (.invokevirtual 72, 3) := by decide +kernel
theorem dX6_refusal_5 : decode cX6_refusal 5 = .ok (.ifCond .ne 11, 3) := by decide +kernel
theorem dX6_refusal_8 : decode cX6_refusal 8 = .ok (.aload_n 0, 1) := by decide +kernel
theorem dX6_refusal_9 : decode cX6_refusal 9 = .ok (.iload_n 2, 1) := by decide +kernel
theorem dX6_refusal_10 : decode cX6_refusal 10 = .ok (.invokevirtual 72, 3) := by decide +kernel
theorem dX6_refusal_13 : decode cX6_refusal 13 = .ok (.ifCond .eq 8, 3) := by decide +kernel
theorem dX6_refusal_16 : decode cX6_refusal 16 = .ok (.bipush (-11), 2) := by decide +kernel
theorem dX6_refusal_18 : decode cX6_refusal 18 = .ok (.goto 18, 3) := by decide +kernel
theorem dX6_refusal_21 : decode cX6_refusal 21 = .ok (.aload_n 0, 1) := by decide +kernel
theorem dX6_refusal_22 : decode cX6_refusal 22 = .ok (.iload_n 1, 1) := by decide +kernel
theorem dX6_refusal_23 : decode cX6_refusal 23 = .ok (.iload_n 2, 1) := by decide +kernel
theorem dX6_refusal_24 : decode cX6_refusal 24 = .ok (.invokevirtual 91, 3) := by decide +kernel
theorem dX6_refusal_27 : decode cX6_refusal 27 = .ok (.ifCond .eq 7, 3) := by decide +kernel
theorem dX6_refusal_30 : decode cX6_refusal 30 = .ok (.iconst 0, 1) := by decide +kernel
theorem dX6_refusal_31 : decode cX6_refusal 31 = .ok (.goto 5, 3) := by decide +kernel
theorem dX6_refusal_34 : decode cX6_refusal 34 = .ok (.bipush (-12), 2) := by decide +kernel
theorem dX6_refusal_36 : decode cX6_refusal 36 = .ok (.ireturn, 1) := by decide +kernel
set_option maxRecDepth 20000 in
theorem ggX6_act_X6_isNumber : GoodIn wsX6_act wsX6_isNumber := goodIn_r _ [12, 2, 13, 14, 11, 15, 61, 62, 63, 64, 65, 66, 67, 68, 69, 70, 71, 72, 73, 74, 75, 76, 77, 78, 79, 80, 81, 82, 83, 84] (by decide +kernel) (by decide +kernel)
set_option maxRecDepth 20000 in
theorem gX6_act_X6_isNumber : GoodIn wsX6_act (wsV RX6 68 RX6 yX6_isNumber wsX6_isNumber) := goodIn_app (goodIn_of _ (by decide +kernel)) ggX6_act_X6_isNumber
set_option maxRecDepth 20000 in
theorem ggX6_act_X6_in : GoodIn wsX6_act wsX6_in := goodIn_r _ [15] (by decide +kernel) (by decide +kernel)
set_option maxRecDepth 20000 in
theorem gX6_act_X6_in : GoodIn wsX6_act (va_wsS RX6 48 yX6_in wsX6_in) := goodIn_app (goodIn_of _ (by decide +kernel)) ggX6_act_X6_in
set_option maxRecDepth 20000 in
theorem ggX6_act_X6_refusal : GoodIn wsX6_act wsX6_refusal := goodIn_r _ [19, 20, 21, 22, 11, 23, 3, 24, 25, 26, 27, 4, 5, 61, 62, 63, 64, 65, 66, 67, 68, 69, 70, 71, 72, 73, 74, 75, 76, 77, 78, 79, 80, 81, 82, 83, 84] (by decide +kernel) (by decide +kernel)
set_option maxRecDepth 20000 in
theorem gX6_act_X6_refusal : GoodIn wsX6_act (wsV RX6 97 RX6 yX6_refusal wsX6_refusal) := goodIn_app (goodIn_of _ (by decide +kernel)) ggX6_act_X6_refusal
set_option maxRecDepth 20000 in
theorem ggX6_act_X6_lay : GoodIn wsX6_act wsX6_lay := goodIn_r _ [31, 3, 2, 4, 5, 6, 61, 62, 63, 64, 65, 66, 67, 68, 69, 70, 71, 72, 73, 74, 75, 76, 77, 78, 79, 80, 81, 82, 83, 84] (by decide +kernel) (by decide +kernel)
set_option maxRecDepth 20000 in
theorem gX6_act_X6_lay : GoodIn wsX6_act (wsV RX6 60 RX6 yX6_lay wsX6_lay) := goodIn_app (goodIn_of _ (by decide +kernel)) ggX6_act_X6_lay
set_option maxRecDepth 20000 in
theorem ggX6_act_X6_compare : GoodIn wsX6_act wsX6_compare := goodIn_r _ [35] (by decide +kernel) (by decide +kernel)
set_option maxRecDepth 20000 in
theorem gX6_act_X6_compare : GoodIn wsX6_act (wsV RX6 101 RX6 yX6_compare wsX6_compare) := goodIn_app (goodIn_of _ (by decide +kernel)) ggX6_act_X6_compare
set_option maxRecDepth 20000 in
theorem ggX6_act_X6_zero : GoodIn wsX6_act wsX6_zero := goodIn_r _ [39, 40, 41, 61, 62, 63, 64, 65, 66, 67, 68, 69, 70, 71, 72, 73, 74, 75, 76, 77, 78, 79, 80, 81, 82, 83, 84] (by decide +kernel) (by decide +kernel)
set_option maxRecDepth 20000 in
theorem gX6_act_X6_zero : GoodIn wsX6_act (wsV RX6 105 RX6 yX6_zero wsX6_zero) := goodIn_app (goodIn_of _ (by decide +kernel)) ggX6_act_X6_zero
set_option maxRecDepth 20000 in
theorem ggX6_act_X6_add : GoodIn wsX6_act wsX6_add := goodIn_r _ [45, 40, 41, 46, 61, 62, 63, 64, 65, 66, 67, 68, 69, 70, 71, 72, 73, 74, 75, 76, 77, 78, 79, 80, 81, 82, 83, 84] (by decide +kernel) (by decide +kernel)
set_option maxRecDepth 20000 in
theorem gX6_act_X6_add : GoodIn wsX6_act (wsV RX6 108 RX6 yX6_add wsX6_add) := goodIn_app (goodIn_of _ (by decide +kernel)) ggX6_act_X6_add
set_option maxRecDepth 20000 in
theorem ggX6_act_X6_fits : GoodIn wsX6_act wsX6_fits := goodIn_r _ [50, 40, 51, 52, 13, 14, 11, 15, 61, 62, 63, 64, 65, 66, 67, 68, 69, 70, 71, 72, 73, 74, 75, 76, 77, 78, 79, 80, 81, 82, 83, 84] (by decide +kernel) (by decide +kernel)
set_option maxRecDepth 20000 in
theorem gX6_act_X6_fits : GoodIn wsX6_act (wsV RX6 114 RX6 yX6_fits wsX6_fits) := goodIn_app (goodIn_of _ (by decide +kernel)) ggX6_act_X6_fits
set_option maxRecDepth 20000 in
theorem ggX6_act_X6_number : GoodIn wsX6_act wsX6_number := goodIn_r _ [56, 40, 41, 61, 62, 63, 64, 65, 66, 67, 68, 69, 70, 71, 72, 73, 74, 75, 76, 77, 78, 79, 80, 81, 82, 83, 84] (by decide +kernel) (by decide +kernel)
set_option maxRecDepth 20000 in
theorem gX6_act_X6_number : GoodIn wsX6_act (wsV RX6 118 RX6 yX6_number wsX6_number) := goodIn_app (goodIn_of _ (by decide +kernel)) ggX6_act_X6_number
set_option maxRecDepth 20000 in
theorem ggX6_act_X6_keepScore : GoodIn wsX6_act wsX6_keepScore := goodIn_r _ [60, 2, 61, 62, 63, 64, 65, 66, 67, 68, 69, 70, 71, 72, 73, 74, 75, 76, 77, 78, 79, 80, 81, 82, 83, 84] (by decide +kernel) (by decide +kernel)
set_option maxRecDepth 20000 in
theorem gX6_act_X6_keepScore : GoodIn wsX6_act (wsV RX6 64 RX6 yX6_keepScore wsX6_keepScore) := goodIn_app (goodIn_of _ (by decide +kernel)) ggX6_act_X6_keepScore
theorem dX6_act_0 : decode cX6_act 0 = .ok (.aload_n 0, 1) := by decide +kernel
theorem dX6_act_1 : decode cX6_act 1 = .ok (.iload_n 2, 1) := by decide +kernel
theorem dX6_act_2 : decode cX6_act 2 = .ok (.invokevirtual 68, 3) := by decide +kernel
theorem dX6_act_5 : decode cX6_act 5 = .ok (.ifCond .eq 11, 3) := by decide +kernel
theorem dX6_act_8 : decode cX6_act 8 = .ok (.aload_n 0, 1) := by decide +kernel
theorem dX6_act_9 : decode cX6_act 9 = .ok (.iload_n 3, 1) := by decide +kernel
theorem dX6_act_10 : decode cX6_act 10 = .ok (.invokevirtual 68, 3) := by decide +kernel
theorem dX6_act_13 : decode cX6_act 13 = .ok (.ifCond .ne 6, 3) := by decide +kernel
theorem dX6_act_16 : decode cX6_act 16 = .ok (.bipush (-2), 2) := by decide +kernel
theorem dX6_act_18 : decode cX6_act 18 = .ok (.ireturn, 1) := by decide +kernel
theorem dX6_act_19 : decode cX6_act 19 = .ok (.iload_n 1, 1) := by decide +kernel
theorem dX6_act_20 : decode cX6_act 20 = .ok (.i2l, 1) := by decide +kernel
theorem dX6_act_21 : decode cX6_act 21 = .ok (.lconst 0, 1) := by decide +kernel
theorem dX6_act_22 : decode cX6_act 22 = .ok (.ldc2_w 95, 3) := by decide +kernel
theorem dX6_act_25 : decode cX6_act 25 = .ok (.invokestatic 48, 3) := by decide +kernel
theorem dX6_act_28 : decode cX6_act 28 = .ok (.ifCond .ne 6, 3) := by decide +kernel
theorem dX6_act_31 : decode cX6_act 31 = .ok (.bipush (-3), 2) := by decide +kernel
theorem dX6_act_33 : decode cX6_act 33 = .ok (.ireturn, 1) := by decide +kernel
theorem dX6_act_34 : decode cX6_act 34 = .ok (.aload_n 0, 1) := by decide +kernel
theorem dX6_act_35 : decode cX6_act 35 = .ok (.getfield 45, 3) := by decide +kernel
theorem dX6_act_38 : decode cX6_act 38 = .ok (.bipush 60, 2) := by decide +kernel
theorem dX6_act_40 : decode cX6_act 40 = .ok (.if_icmp .ne 6, 3) := by decide +kernel
theorem dX6_act_43 : decode cX6_act 43 = .ok (.bipush (-4), 2) := by decide +kernel
theorem dX6_act_45 : decode cX6_act 45 = .ok (.ireturn, 1) := by decide +kernel
theorem dX6_act_46 : decode cX6_act 46 = .ok (.aload_n 0, 1) := by decide +kernel
theorem dX6_act_47 : decode cX6_act 47 = .ok (.iload_n 2, 1) := by decide +kernel
theorem dX6_act_48 : decode cX6_act 48 = .ok (.iload_n 3, 1) := by decide +kernel
theorem dX6_act_49 : decode cX6_act 49 = .ok (.invokevirtual 97, 3) := by decide +kernel
theorem dX6_act_52 : decode cX6_act 52 = .ok (.istore 4, 2) := by decide +kernel
theorem dX6_act_54 : decode cX6_act 54 = .ok (.iload 4, 2) := by decide +kernel
theorem dX6_act_56 : decode cX6_act 56 = .ok (.ifCond .ge 6, 3) := by decide +kernel
theorem dX6_act_59 : decode cX6_act 59 = .ok (.iload 4, 2) := by decide +kernel
theorem dX6_act_61 : decode cX6_act 61 = .ok (.ireturn, 1) := by decide +kernel
theorem dX6_act_62 : decode cX6_act 62 = .ok (.aload_n 0, 1) := by decide +kernel
theorem dX6_act_63 : decode cX6_act 63 = .ok (.aload_n 0, 1) := by decide +kernel
theorem dX6_act_64 : decode cX6_act 64 = .ok (.getfield 7, 3) := by decide +kernel
theorem dX6_act_67 : decode cX6_act 67 = .ok (.iload_n 2, 1) := by decide +kernel
theorem dX6_act_68 : decode cX6_act 68 = .ok (.iaload, 1) := by decide +kernel
theorem dX6_act_69 : decode cX6_act 69 = .ok (.aload_n 0, 1) := by decide +kernel
theorem dX6_act_70 : decode cX6_act 70 = .ok (.getfield 13, 3) := by decide +kernel
theorem dX6_act_73 : decode cX6_act 73 = .ok (.iload_n 2, 1) := by decide +kernel
theorem dX6_act_74 : decode cX6_act 74 = .ok (.iaload, 1) := by decide +kernel
theorem dX6_act_75 : decode cX6_act 75 = .ok (.aload_n 0, 1) := by decide +kernel
theorem dX6_act_76 : decode cX6_act 76 = .ok (.getfield 16, 3) := by decide +kernel
theorem dX6_act_79 : decode cX6_act 79 = .ok (.iload_n 2, 1) := by decide +kernel
theorem dX6_act_80 : decode cX6_act 80 = .ok (.iaload, 1) := by decide +kernel
theorem dX6_act_81 : decode cX6_act 81 = .ok (.invokevirtual 60, 3) := by decide +kernel
theorem dX6_act_84 : decode cX6_act 84 = .ok (.aload_n 0, 1) := by decide +kernel
theorem dX6_act_85 : decode cX6_act 85 = .ok (.aload_n 0, 1) := by decide +kernel
theorem dX6_act_86 : decode cX6_act 86 = .ok (.getfield 19, 3) := by decide +kernel
theorem dX6_act_89 : decode cX6_act 89 = .ok (.bipush 12, 2) := by decide +kernel
theorem dX6_act_91 : decode cX6_act 91 = .ok (.iload_n 2, 1) := by decide +kernel
theorem dX6_act_92 : decode cX6_act 92 = .ok (.imul, 1) := by decide +kernel
theorem dX6_act_93 : decode cX6_act 93 = .ok (.aload_n 0, 1) := by decide +kernel
theorem dX6_act_94 : decode cX6_act 94 = .ok (.getfield 19, 3) := by decide +kernel
theorem dX6_act_97 : decode cX6_act 97 = .ok (.bipush 12, 2) := by decide +kernel
theorem dX6_act_99 : decode cX6_act 99 = .ok (.iload_n 3, 1) := by decide +kernel
theorem dX6_act_100 : decode cX6_act 100 = .ok (.imul, 1) := by decide +kernel
theorem dX6_act_101 : decode cX6_act 101 = .ok (.aload_n 0, 1) := by decide +kernel
theorem dX6_act_102 : decode cX6_act 102 = .ok (.getfield 16, 3) := by decide +kernel
theorem dX6_act_105 : decode cX6_act 105 = .ok (.iload_n 2, 1) := by decide +kernel
theorem dX6_act_106 : decode cX6_act 106 = .ok (.iaload, 1) := by decide +kernel
theorem dX6_act_107 : decode cX6_act 107 = .ok (.invokevirtual 101, 3) := by decide +kernel
theorem dX6_act_110 : decode cX6_act 110 = .ok (.istore 5, 2) := by decide +kernel
theorem dX6_act_112 : decode cX6_act 112 = .ok (.iload_n 1, 1) := by decide +kernel
theorem dX6_act_113 : decode cX6_act 113 = .ok (.iconst 2, 1) := by decide +kernel
theorem dX6_act_114 : decode cX6_act 114 = .ok (.if_icmp .ne 16, 3) := by decide +kernel
theorem dX6_act_117 : decode cX6_act 117 = .ok (.iload 5, 2) := by decide +kernel
theorem dX6_act_119 : decode cX6_act 119 = .ok (.ifCond .lt 7, 3) := by decide +kernel
theorem dX6_act_122 : decode cX6_act 122 = .ok (.iconst 1, 1) := by decide +kernel
theorem dX6_act_123 : decode cX6_act 123 = .ok (.goto 17, 3) := by decide +kernel
theorem dX6_act_126 : decode cX6_act 126 = .ok (.iconst 0, 1) := by decide +kernel
