theorem dX2_init_0 : decode cX2_init 0 = .ok (.aload_n 0, 1) := by decide +kernel
theorem dX2_init_1 : decode cX2_init 1 = .ok (.invokespecial 3, 3) := by decide +kernel
theorem dX2_init_4 : decode cX2_init 4 = .ok (.aload_n 0, 1) := by decide +kernel
theorem dX2_init_5 : decode cX2_init 5 = .ok (.iconst (-1), 1) := by decide +kernel
theorem dX2_init_6 : decode cX2_init 6 = .ok (.putfield 9, 3) := by decide +kernel
theorem dX2_init_9 : decode cX2_init 9 = .ok (.aload_n 0, 1) := by decide +kernel
theorem dX2_init_10 : decode cX2_init 10 = .ok (.bipush 12, 2) := by decide +kernel
theorem dX2_init_12 : decode cX2_init 12 = .ok (.newarray .long, 2) := by decide +kernel
theorem dX2_init_14 : decode cX2_init 14 = .ok (.putfield 15, 3) := by decide +kernel
theorem dX2_init_17 : decode cX2_init 17 = .ok (.return_, 1) := by decide +kernel
theorem dX2_form_0 : decode cX2_form 0 = .ok (.aload_n 0, 1) := by decide +kernel
theorem dX2_form_1 : decode cX2_form 1 = .ok (.iload_n 1, 1) := by decide +kernel
theorem dX2_form_2 : decode cX2_form 2 = .ok (.putfield 9, 3) := by decide +kernel
theorem dX2_form_5 : decode cX2_form 5 = .ok (.aload_n 0, 1) := by decide +kernel
theorem dX2_form_6 : decode cX2_form 6 = .ok (.iload_n 2, 1) := by decide +kernel
theorem dX2_form_7 : decode cX2_form 7 = .ok (.putfield 19, 3) := by decide +kernel
theorem dX2_form_10 : decode cX2_form 10 = .ok (.aload_n 0, 1) := by decide +kernel
theorem dX2_form_11 : decode cX2_form 11 = .ok (.iload_n 3, 1) := by decide +kernel
theorem dX2_form_12 : decode cX2_form 12 = .ok (.putfield 22, 3) := by decide +kernel
theorem dX2_form_15 : decode cX2_form 15 = .ok (.return_, 1) := by decide +kernel
set_option maxRecDepth 20000 in
theorem ggX2_formLike_X2_form : GoodIn wsX2_formLike wsX2_form := goodIn_r _ [8, 1, 2, 3, 9, 10, 11, 12] (by decide +kernel) (by decide +kernel)
set_option maxRecDepth 20000 in
theorem gX2_formLike_X2_form : GoodIn wsX2_formLike (wsV RX2 25 RX2 yX2_form wsX2_form) := goodIn_app (goodIn_of _ (by decide +kernel)) ggX2_formLike_X2_form
theorem dX2_formLike_0 : decode cX2_formLike 0 = .ok (.aload_n 0, 1) := by decide +kernel
theorem dX2_formLike_1 : decode cX2_formLike 1 = .ok (.aload_n 1, 1) := by decide +kernel
theorem dX2_formLike_2 : decode cX2_formLike 2 = .ok (.getfield 9, 3) := by decide +kernel
theorem dX2_formLike_5 : decode cX2_formLike 5 = .ok (.aload_n 1, 1) := by decide +kernel
theorem dX2_formLike_6 : decode cX2_formLike 6 = .ok (.getfield 19, 3) := by decide +kernel
theorem dX2_formLike_9 : decode cX2_formLike 9 = .ok (.aload_n 1, 1) := by decide +kernel
theorem dX2_formLike_10 : decode cX2_formLike 10 = .ok (.getfield 22, 3) := by decide +kernel
theorem dX2_formLike_13 : decode cX2_formLike 13 = .ok (.invokevirtual 25, 3) := by decide +kernel
theorem dX2_formLike_16 : decode cX2_formLike 16 = .ok (.return_, 1) := by decide +kernel
theorem dX2_clear_0 : decode cX2_clear 0 = .ok (.iconst 0, 1) := by decide +kernel
theorem dX2_clear_1 : decode cX2_clear 1 = .ok (.istore_n 1, 1) := by decide +kernel
theorem dX2_clear_2 : decode cX2_clear 2 = .ok (.iload_n 1, 1) := by decide +kernel
theorem dX2_clear_3 : decode cX2_clear 3 = .ok (.aload_n 0, 1) := by decide +kernel
theorem dX2_clear_4 : decode cX2_clear 4 = .ok (.getfield 22, 3) := by decide +kernel
theorem dX2_clear_7 : decode cX2_clear 7 = .ok (.if_icmp .ge 16, 3) := by decide +kernel
theorem dX2_clear_10 : decode cX2_clear 10 = .ok (.aload_n 0, 1) := by decide +kernel
theorem dX2_clear_11 : decode cX2_clear 11 = .ok (.getfield 15, 3) := by decide +kernel
theorem dX2_clear_14 : decode cX2_clear 14 = .ok (.iload_n 1, 1) := by decide +kernel
theorem dX2_clear_15 : decode cX2_clear 15 = .ok (.lconst 0, 1) := by decide +kernel
theorem dX2_clear_16 : decode cX2_clear 16 = .ok (.lastore, 1) := by decide +kernel
theorem dX2_clear_17 : decode cX2_clear 17 = .ok (.iinc 1 1, 3) := by decide +kernel
theorem dX2_clear_20 : decode cX2_clear 20 = .ok (.goto (-18), 3) := by decide +kernel
theorem dX2_clear_23 : decode cX2_clear 23 = .ok (.return_, 1) := by decide +kernel
set_option maxRecDepth 20000 in
theorem ggX2_copy_X2_formLike : GoodIn wsX2_copy wsX2_formLike := goodIn_r _ [7, 8, 9, 1, 10, 11, 12, 6, 13, 14, 15, 16, 17] (by decide +kernel) (by decide +kernel)
set_option maxRecDepth 20000 in
theorem gX2_copy_X2_formLike : GoodIn wsX2_copy (wsV RX2 29 RX2 yX2_formLike wsX2_formLike) := goodIn_app (goodIn_of _ (by decide +kernel)) ggX2_copy_X2_formLike
theorem dX2_copy_0 : decode cX2_copy 0 = .ok (.aload_n 0, 1) := by decide +kernel
theorem dX2_copy_1 : decode cX2_copy 1 = .ok (.aload_n 1, 1) := by decide +kernel
theorem dX2_copy_2 : decode cX2_copy 2 = .ok (.invokevirtual 29, 3) := by decide +kernel
theorem dX2_copy_5 : decode cX2_copy 5 = .ok (.iconst 0, 1) := by decide +kernel
theorem dX2_copy_6 : decode cX2_copy 6 = .ok (.istore_n 2, 1) := by decide +kernel
theorem dX2_copy_7 : decode cX2_copy 7 = .ok (.iload_n 2, 1) := by decide +kernel
theorem dX2_copy_8 : decode cX2_copy 8 = .ok (.aload_n 0, 1) := by decide +kernel
theorem dX2_copy_9 : decode cX2_copy 9 = .ok (.getfield 22, 3) := by decide +kernel
theorem dX2_copy_12 : decode cX2_copy 12 = .ok (.if_icmp .ge 21, 3) := by decide +kernel
theorem dX2_copy_15 : decode cX2_copy 15 = .ok (.aload_n 0, 1) := by decide +kernel
theorem dX2_copy_16 : decode cX2_copy 16 = .ok (.getfield 15, 3) := by decide +kernel
theorem dX2_copy_19 : decode cX2_copy 19 = .ok (.iload_n 2, 1) := by decide +kernel
theorem dX2_copy_20 : decode cX2_copy 20 = .ok (.aload_n 1, 1) := by decide +kernel
theorem dX2_copy_21 : decode cX2_copy 21 = .ok (.getfield 15, 3) := by decide +kernel
theorem dX2_copy_24 : decode cX2_copy 24 = .ok (.iload_n 2, 1) := by decide +kernel
theorem dX2_copy_25 : decode cX2_copy 25 = .ok (.laload, 1) := by decide +kernel
theorem dX2_copy_26 : decode cX2_copy 26 = .ok (.lastore, 1) := by decide +kernel
theorem dX2_copy_27 : decode cX2_copy 27 = .ok (.iinc 2 1, 3) := by decide +kernel
theorem dX2_copy_30 : decode cX2_copy 30 = .ok (.goto (-23), 3) := by decide +kernel
theorem dX2_copy_33 : decode cX2_copy 33 = .ok (.return_, 1) := by decide +kernel
theorem dX2_isNothing_0 : decode cX2_isNothing 0 = .ok (.aload_n 0, 1) := by decide +kernel
theorem dX2_isNothing_1 : decode cX2_isNothing 1 = .ok (.getfield 9, 3) := by decide +kernel
theorem dX2_isNothing_4 : decode cX2_isNothing 4 = .ok (.iconst (-1), 1) := by decide +kernel
theorem dX2_isNothing_5 : decode cX2_isNothing 5 = .ok (.if_icmp .ne 7, 3) := by decide +kernel
theorem dX2_isNothing_8 : decode cX2_isNothing 8 = .ok (.iconst 1, 1) := by decide +kernel
theorem dX2_isNothing_9 : decode cX2_isNothing 9 = .ok (.goto 4, 3) := by decide +kernel
theorem dX2_isNothing_12 : decode cX2_isNothing 12 = .ok (.iconst 0, 1) := by decide +kernel
theorem dX2_isNothing_13 : decode cX2_isNothing 13 = .ok (.ireturn, 1) := by decide +kernel
theorem dX2_isLike_0 : decode cX2_isLike 0 = .ok (.aload_n 0, 1) := by decide +kernel
theorem dX2_isLike_1 : decode cX2_isLike 1 = .ok (.getfield 9, 3) := by decide +kernel
theorem dX2_isLike_4 : decode cX2_isLike 4 = .ok (.aload_n 1, 1) := by decide +kernel
theorem dX2_isLike_5 : decode cX2_isLike 5 = .ok (.getfield 9, 3) := by decide +kernel
theorem dX2_isLike_8 : decode cX2_isLike 8 = .ok (.if_icmp .ne 29, 3) := by decide +kernel
theorem dX2_isLike_11 : decode cX2_isLike 11 = .ok (.aload_n 0, 1) := by decide +kernel
theorem dX2_isLike_12 : decode cX2_isLike 12 = .ok (.getfield 19, 3) := by decide +kernel
theorem dX2_isLike_15 : decode cX2_isLike 15 = .ok (.aload_n 1, 1) := by decide +kernel
theorem dX2_isLike_16 : decode cX2_isLike 16 = .ok (.getfield 19, 3) := by decide +kernel
theorem dX2_isLike_19 : decode cX2_isLike 19 = .ok (.if_icmp .ne 18, 3) := by decide +kernel
theorem dX2_isLike_22 : decode cX2_isLike 22 = .ok (.aload_n 0, 1) := by decide +kernel
theorem dX2_isLike_23 : decode cX2_isLike 23 = .ok (.getfield 22, 3) := by decide +kernel
theorem dX2_isLike_26 : decode cX2_isLike 26 = .ok (.aload_n 1, 1) := by decide +kernel
theorem dX2_isLike_27 : decode cX2_isLike 27 = .ok (.getfield 22, 3) := by decide +kernel
theorem dX2_isLike_30 : decode cX2_isLike 30 = .ok (.if_icmp .ne 7, 3) := by decide +kernel
theorem dX2_isLike_33 : decode cX2_isLike 33 = .ok (.iconst 1, 1) := by decide +kernel
theorem dX2_isLike_34 : decode cX2_isLike 34 = .ok (.goto 4, 3) := by decide +kernel
theorem dX2_isLike_37 : decode cX2_isLike 37 = .ok (.iconst 0, 1) := by decide +kernel
theorem dX2_isLike_38 : decode cX2_isLike 38 = .ok (.ireturn, 1) := by decide +kernel
theorem dX2_hasLevel_0 : decode cX2_hasLevel 0 = .ok (.iload_n 1, 1) := by decide +kernel
theorem dX2_hasLevel_1 : decode cX2_hasLevel 1 = .ok (.ifCond .lt 15, 3) := by decide +kernel
theorem dX2_hasLevel_4 : decode cX2_hasLevel 4 = .ok (.iload_n 1, 1) := by decide +kernel
theorem dX2_hasLevel_5 : decode cX2_hasLevel 5 = .ok (.aload_n 0, 1) := by decide +kernel
theorem dX2_hasLevel_6 : decode cX2_hasLevel 6 = .ok (.getfield 22, 3) := by decide +kernel
theorem dX2_hasLevel_9 : decode cX2_hasLevel 9 = .ok (.if_icmp .ge 7, 3) := by decide +kernel
theorem dX2_hasLevel_12 : decode cX2_hasLevel 12 = .ok (.iconst 1, 1) := by decide +kernel
theorem dX2_hasLevel_13 : decode cX2_hasLevel 13 = .ok (.goto 4, 3) := by decide +kernel
theorem dX2_hasLevel_16 : decode cX2_hasLevel 16 = .ok (.iconst 0, 1) := by decide +kernel
theorem dX2_hasLevel_17 : decode cX2_hasLevel 17 = .ok (.ireturn, 1) := by decide +kernel
theorem dX2_isFeasible_0 : decode cX2_isFeasible 0 = .ok (.iconst 0, 1) := by decide +kernel
theorem dX2_isFeasible_1 : decode cX2_isFeasible 1 = .ok (.istore_n 1, 1) := by decide +kernel
theorem dX2_isFeasible_2 : decode cX2_isFeasible 2 = .ok (.iload_n 1, 1) := by decide +kernel
theorem dX2_isFeasible_3 : decode cX2_isFeasible 3 = .ok (.aload_n 0, 1) := by decide +kernel
theorem dX2_isFeasible_4 : decode cX2_isFeasible 4 = .ok (.getfield 19, 3) := by decide +kernel
theorem dX2_isFeasible_7 : decode cX2_isFeasible 7 = .ok (.if_icmp .ge 22, 3) := by decide +kernel
theorem dX2_isFeasible_10 : decode cX2_isFeasible 10 = .ok (.aload_n 0, 1) := by decide +kernel
theorem dX2_isFeasible_11 : decode cX2_isFeasible 11 = .ok (.getfield 15, 3) := by decide +kernel
theorem dX2_isFeasible_14 : decode cX2_isFeasible 14 = .ok (.iload_n 1, 1) := by decide +kernel
theorem dX2_isFeasible_15 : decode cX2_isFeasible 15 = .ok (.laload, 1) := by decide +kernel
theorem dX2_isFeasible_16 : decode cX2_isFeasible 16 = .ok (.lconst 0, 1) := by decide +kernel
theorem dX2_isFeasible_17 : decode cX2_isFeasible 17 = .ok (.lcmp, 1) := by decide +kernel
theorem dX2_isFeasible_18 : decode cX2_isFeasible 18 = .ok (.ifCond .ge 5, 3) := by decide +kernel
theorem dX2_isFeasible_21 : decode cX2_isFeasible 21 = .ok (.iconst 0, 1) := by decide +kernel
theorem dX2_isFeasible_22 : decode cX2_isFeasible 22 = .ok (.ireturn, 1) := by decide +kernel
theorem dX2_isFeasible_23 : decode cX2_isFeasible 23 = .ok (.iinc 1 1, 3) := by decide +kernel
theorem dX2_isFeasible_26 : decode cX2_isFeasible 26 = .ok (.goto (-24), 3) := by decide +kernel
theorem dX2_isFeasible_29 : decode cX2_isFeasible 29 = .ok (.iconst 1, 1) := by decide +kernel
theorem dX2_isFeasible_30 : decode cX2_isFeasible 30 = .ok (.ireturn, 1) := by decide +kernel
theorem dX2_compareWith_0 : decode cX2_compareWith 0 = .ok (.iconst 0, 1) := by decide +kernel
theorem dX2_compareWith_1 : decode cX2_compareWith 1 = .ok (.istore_n 2, 1) := by decide +kernel
theorem dX2_compareWith_2 : decode cX2_compareWith 2 = .ok (.iload_n 2, 1) := by decide +kernel
theorem dX2_compareWith_3 : decode cX2_compareWith 3 = .ok (.aload_n 0, 1) := by decide +kernel
theorem dX2_compareWith_4 : decode cX2_compareWith 4 = .ok (.getfield 22, 3) := by decide +kernel
theorem dX2_compareWith_7 : decode cX2_compareWith 7 = .ok (.if_icmp .ge 47, 3) := by decide +kernel
theorem dX2_compareWith_10 : decode cX2_compareWith 10 = .ok (.aload_n 0, 1) := by decide +kernel
theorem dX2_compareWith_11 : decode cX2_compareWith 11 = .ok (.getfield 15, 3) := by decide +kernel
theorem dX2_compareWith_14 : decode cX2_compareWith 14 = .ok (.iload_n 2, 1) := by decide +kernel
theorem dX2_compareWith_15 : decode cX2_compareWith 15 = .ok (.laload, 1) := by decide +kernel
theorem dX2_compareWith_16 : decode cX2_compareWith 16 = .ok (.aload_n 1, 1) := by decide +kernel
theorem dX2_compareWith_17 : decode cX2_compareWith 17 = .ok (.getfield 15, 3) := by decide +kernel
theorem dX2_compareWith_20 : decode cX2_compareWith 20 = .ok (.iload_n 2, 1) := by decide +kernel
theorem dX2_compareWith_21 : decode cX2_compareWith 21 = .ok (.laload, 1) := by decide +kernel
theorem dX2_compareWith_22 : decode cX2_compareWith 22 = .ok (.lcmp, 1) := by decide +kernel
theorem dX2_compareWith_23 : decode cX2_compareWith 23 = .ok (.ifCond .eq 25, 3) := by decide +kernel
theorem dX2_compareWith_26 : decode cX2_compareWith 26 = .ok (.aload_n 0, 1) := by decide +kernel
theorem dX2_compareWith_27 : decode cX2_compareWith 27 = .ok (.getfield 15, 3) := by decide +kernel
theorem dX2_compareWith_30 : decode cX2_compareWith 30 = .ok (.iload_n 2, 1) := by decide +kernel
theorem dX2_compareWith_31 : decode cX2_compareWith 31 = .ok (.laload, 1) := by decide +kernel
theorem dX2_compareWith_32 : decode cX2_compareWith 32 = .ok (.aload_n 1, 1) := by decide +kernel
theorem dX2_compareWith_33 : decode cX2_compareWith 33 = .ok (.getfield 15, 3) := by decide +kernel
theorem dX2_compareWith_36 : decode cX2_compareWith 36 = .ok (.iload_n 2, 1) := by decide +kernel
theorem dX2_compareWith_37 : decode cX2_compareWith 37 = .ok (.laload, 1) := by decide +kernel
theorem dX2_compareWith_38 : decode cX2_compareWith 38 = .ok (.lcmp, 1) := by decide +kernel
theorem dX2_compareWith_39 : decode cX2_compareWith 39 = .ok (.ifCond .ge 7, 3) := by decide +kernel
theorem dX2_compareWith_42 : decode cX2_compareWith 42 = .ok (.iconst (-1), 1) := by decide +kernel
theorem dX2_compareWith_43 : decode cX2_compareWith 43 = .ok (.goto 4, 3) := by decide +kernel
theorem dX2_compareWith_46 : decode cX2_compareWith 46 = .ok (.iconst 1, 1) := by decide +kernel
theorem dX2_compareWith_47 : decode cX2_compareWith 47 = .ok (.ireturn, 1) := by decide +kernel
theorem dX2_compareWith_48 : decode cX2_compareWith 48 = .ok (.iinc 2 1, 3) := by decide +kernel
theorem dX2_compareWith_51 : decode cX2_compareWith 51 = .ok (.goto (-49), 3) := by decide +kernel
theorem dX2_compareWith_54 : decode cX2_compareWith 54 = .ok (.iconst 0, 1) := by decide +kernel
theorem dX2_compareWith_55 : decode cX2_compareWith 55 = .ok (.ireturn, 1) := by decide +kernel
set_option maxRecDepth 20000 in
theorem ggX2_becomeSum_X2_formLike : GoodIn wsX2_becomeSum wsX2_formLike := goodIn_r _ [7, 8, 9, 1, 10, 11, 12, 6, 13, 14, 15, 16, 17] (by decide +kernel) (by decide +kernel)
set_option maxRecDepth 20000 in
theorem gX2_becomeSum_X2_formLike : GoodIn wsX2_becomeSum (wsV RX2 29 RX2 yX2_formLike wsX2_formLike) := goodIn_app (goodIn_of _ (by decide +kernel)) ggX2_becomeSum_X2_formLike
theorem dX2_becomeSum_0 : decode cX2_becomeSum 0 = .ok (.aload_n 0, 1) := by decide +kernel
theorem dX2_becomeSum_1 : decode cX2_becomeSum 1 = .ok (.aload_n 1, 1) := by decide +kernel
theorem dX2_becomeSum_2 : decode cX2_becomeSum 2 = .ok (.invokevirtual 29, 3) := by decide +kernel
theorem dX2_becomeSum_5 : decode cX2_becomeSum 5 = .ok (.iconst 0, 1) := by decide +kernel
theorem dX2_becomeSum_6 : decode cX2_becomeSum 6 = .ok (.istore_n 3, 1) := by decide +kernel
theorem dX2_becomeSum_7 : decode cX2_becomeSum 7 = .ok (.iload_n 3, 1) := by decide +kernel
theorem dX2_becomeSum_8 : decode cX2_becomeSum 8 = .ok (.aload_n 0, 1) := by decide +kernel
theorem dX2_becomeSum_9 : decode cX2_becomeSum 9 = .ok (.getfield 22, 3) := by decide +kernel
theorem dX2_becomeSum_12 : decode cX2_becomeSum 12 = .ok (.if_icmp .ge 58, 3) := by decide +kernel
theorem dX2_becomeSum_15 : decode cX2_becomeSum 15 = .ok (.aload_n 1, 1) := by decide +kernel
theorem dX2_becomeSum_16 : decode cX2_becomeSum 16 = .ok (.getfield 15, 3) := by decide +kernel
theorem dX2_becomeSum_19 : decode cX2_becomeSum 19 = .ok (.iload_n 3, 1) := by decide +kernel
theorem dX2_becomeSum_20 : decode cX2_becomeSum 20 = .ok (.laload, 1) := by decide +kernel
theorem dX2_becomeSum_21 : decode cX2_becomeSum 21 = .ok (.lstore 4, 2) := by decide +kernel
theorem dX2_becomeSum_23 : decode cX2_becomeSum 23 = .ok (.aload_n 2, 1) := by decide +kernel
theorem dX2_becomeSum_24 : decode cX2_becomeSum 24 = .ok (.getfield 15, 3) := by decide +kernel
theorem dX2_becomeSum_27 : decode cX2_becomeSum 27 = .ok (.iload_n 3, 1) := by decide +kernel
theorem dX2_becomeSum_28 : decode cX2_becomeSum 28 = .ok (.laload, 1) := by decide +kernel
theorem dX2_becomeSum_29 : decode cX2_becomeSum 29 = .ok (.lstore 6, 2) := by decide +kernel
theorem dX2_becomeSum_31 : decode cX2_becomeSum 31 = .ok (.lload 4, 2) := by decide +kernel
theorem dX2_becomeSum_33 : decode cX2_becomeSum 33 = .ok (.lload 6, 2) := by decide +kernel
theorem dX2_becomeSum_35 : decode cX2_becomeSum 35 = .ok (.ladd, 1) := by decide +kernel
theorem dX2_becomeSum_36 : decode cX2_becomeSum 36 = .ok (.lstore 8, 2) := by decide +kernel
theorem dX2_becomeSum_38 : decode cX2_becomeSum 38 = .ok (.lload 4, 2) := by decide +kernel
theorem dX2_becomeSum_40 : decode cX2_becomeSum 40 = .ok (.lload 8, 2) := by decide +kernel
theorem dX2_becomeSum_42 : decode cX2_becomeSum 42 = .ok (.lxor, 1) := by decide +kernel
theorem dX2_becomeSum_43 : decode cX2_becomeSum 43 = .ok (.lload 6, 2) := by decide +kernel
theorem dX2_becomeSum_45 : decode cX2_becomeSum 45 = .ok (.lload 8, 2) := by decide +kernel
theorem dX2_becomeSum_47 : decode cX2_becomeSum 47 = .ok (.lxor, 1) := by decide +kernel
theorem dX2_becomeSum_48 : decode cX2_becomeSum 48 = .ok (.land, 1) := by decide +kernel
theorem dX2_becomeSum_49 : decode cX2_becomeSum 49 = .ok (.lconst 0, 1) := by decide +kernel
theorem dX2_becomeSum_50 : decode cX2_becomeSum 50 = .ok (.lcmp, 1) := by decide +kernel
theorem dX2_becomeSum_51 : decode cX2_becomeSum 51 = .ok (.ifCond .ge 5, 3) := by decide +kernel
theorem dX2_becomeSum_54 : decode cX2_becomeSum 54 = .ok (.iconst 0, 1) := by decide +kernel
theorem dX2_becomeSum_55 : decode cX2_becomeSum 55 = .ok (.ireturn, 1) := by decide +kernel
theorem dX2_becomeSum_56 : decode cX2_becomeSum 56 = .ok (.aload_n 0, 1) := by decide +kernel
theorem dX2_becomeSum_57 : decode cX2_becomeSum 57 = .ok (.getfield 15, 3) := by decide +kernel
theorem dX2_becomeSum_60 : decode cX2_becomeSum 60 = .ok (.iload_n 3, 1) := by decide +kernel
theorem dX2_becomeSum_61 : decode cX2_becomeSum 61 = .ok (.lload 8, 2) := by decide +kernel
theorem dX2_becomeSum_63 : decode cX2_becomeSum 63 = .ok (.lastore, 1) := by decide +kernel
theorem dX2_becomeSum_64 : decode cX2_becomeSum 64 = .ok (.iinc 3 1, 3) := by decide +kernel
theorem dX2_becomeSum_67 : decode cX2_becomeSum 67 = .ok (.goto (-60), 3) := by decide +kernel
theorem dX2_becomeSum_70 : decode cX2_becomeSum 70 = .ok (.iconst 1, 1) := by decide +kernel
theorem dX2_becomeSum_71 : decode cX2_becomeSum 71 = .ok (.ireturn, 1) := by decide +kernel
set_option maxRecDepth 20000 in
theorem ggX2_becomeDifference_X2_formLike : GoodIn wsX2_becomeDifference wsX2_formLike := goodIn_r _ [7, 8, 9, 1, 10, 11, 12, 6, 13, 14, 15, 16, 17] (by decide +kernel) (by decide +kernel)
set_option maxRecDepth 20000 in
theorem gX2_becomeDifference_X2_formLike : GoodIn wsX2_becomeDifference (wsV RX2 29 RX2 yX2_formLike wsX2_formLike) := goodIn_app (goodIn_of _ (by decide +kernel)) ggX2_becomeDifference_X2_formLike
theorem dX2_becomeDifference_0 : decode cX2_becomeDifference 0 = .ok (.aload_n 0, 1) := by decide +kernel
theorem dX2_becomeDifference_1 : decode cX2_becomeDifference 1 = .ok (.aload_n 1, 1) := by decide +kernel
theorem dX2_becomeDifference_2 : decode cX2_becomeDifference 2 = .ok (.invokevirtual 29, 3) := by decide +kernel
theorem dX2_becomeDifference_5 : decode cX2_becomeDifference 5 = .ok (.iconst 0, 1) := by decide +kernel
theorem dX2_becomeDifference_6 : decode cX2_becomeDifference 6 = .ok (.istore_n 3, 1) := by decide +kernel
theorem dX2_becomeDifference_7 : decode cX2_becomeDifference 7 = .ok (.iload_n 3, 1) := by decide +kernel
theorem dX2_becomeDifference_8 : decode cX2_becomeDifference 8 = .ok (.aload_n 0, 1) := by decide +kernel
theorem dX2_becomeDifference_9 : decode cX2_becomeDifference 9 = .ok (.getfield 22, 3) := by decide +kernel
theorem dX2_becomeDifference_12 : decode cX2_becomeDifference 12 = .ok (.if_icmp .ge 58, 3) := by decide +kernel
theorem dX2_becomeDifference_15 : decode cX2_becomeDifference 15 = .ok (.aload_n 1, 1) := by decide +kernel
theorem dX2_becomeDifference_16 : decode cX2_becomeDifference 16 = .ok (.getfield 15, 3) := by decide +kernel
theorem dX2_becomeDifference_19 : decode cX2_becomeDifference 19 = .ok (.iload_n 3, 1) := by decide +kernel
theorem dX2_becomeDifference_20 : decode cX2_becomeDifference 20 = .ok (.laload, 1) := by decide +kernel
theorem dX2_becomeDifference_21 : decode cX2_becomeDifference 21 = .ok (.lstore 4, 2) := by decide +kernel
theorem dX2_becomeDifference_23 : decode cX2_becomeDifference 23 = .ok (.aload_n 2, 1) := by decide +kernel
theorem dX2_becomeDifference_24 : decode cX2_becomeDifference 24 = .ok (.getfield 15, 3) := by decide +kernel
theorem dX2_becomeDifference_27 : decode cX2_becomeDifference 27 = .ok (.iload_n 3, 1) := by decide +kernel
theorem dX2_becomeDifference_28 : decode cX2_becomeDifference 28 = .ok (.laload, 1) := by decide +kernel
theorem dX2_becomeDifference_29 : decode cX2_becomeDifference 29 = .ok (.lstore 6, 2) := by decide +kernel
theorem dX2_becomeDifference_31 : decode cX2_becomeDifference 31 = .ok (.lload 4, 2) := by decide +kernel
theorem dX2_becomeDifference_33 : decode cX2_becomeDifference 33 = .ok (.lload 6, 2) := by decide +kernel
theorem dX2_becomeDifference_35 : decode cX2_becomeDifference 35 = .ok (.lsub, 1) := by decide +kernel
theorem dX2_becomeDifference_36 : decode cX2_becomeDifference 36 = .ok (.lstore 8, 2) := by decide +kernel
theorem dX2_becomeDifference_38 : decode cX2_becomeDifference 38 = .ok (.lload 4, 2) := by decide +kernel
theorem dX2_becomeDifference_40 : decode cX2_becomeDifference 40 = .ok (.lload 6, 2) := by decide +kernel
theorem dX2_becomeDifference_42 : decode cX2_becomeDifference 42 = .ok (.lxor, 1) := by decide +kernel
theorem dX2_becomeDifference_43 : decode cX2_becomeDifference 43 = .ok (.lload 4, 2) := by decide +kernel
theorem dX2_becomeDifference_45 : decode cX2_becomeDifference 45 = .ok (.lload 8, 2) := by decide +kernel
theorem dX2_becomeDifference_47 : decode cX2_becomeDifference 47 = .ok (.lxor, 1) := by decide +kernel
theorem dX2_becomeDifference_48 : decode cX2_becomeDifference 48 = .ok (.land, 1) := by decide +kernel
theorem dX2_becomeDifference_49 : decode cX2_becomeDifference 49 = .ok (.lconst 0, 1) := by decide +kernel
theorem dX2_becomeDifference_50 : decode cX2_becomeDifference 50 = .ok (.lcmp, 1) := by decide +kernel
theorem dX2_becomeDifference_51 : decode cX2_becomeDifference 51 = .ok (.ifCond .ge 5, 3) := by decide +kernel
theorem dX2_becomeDifference_54 : decode cX2_becomeDifference 54 = .ok (.iconst 0, 1) := by decide +kernel
theorem dX2_becomeDifference_55 : decode cX2_becomeDifference 55 = .ok (.ireturn, 1) := by decide +kernel
theorem dX2_becomeDifference_56 : decode cX2_becomeDifference 56 = .ok (.aload_n 0, 1) := by decide +kernel
theorem dX2_becomeDifference_57 : decode cX2_becomeDifference 57 = .ok (.getfield 15, 3) := by decide +kernel
theorem dX2_becomeDifference_60 : decode cX2_becomeDifference 60 = .ok (.iload_n 3, 1) := by decide +kernel
theorem dX2_becomeDifference_61 : decode cX2_becomeDifference 61 = .ok (.lload 8, 2) := by decide +kernel
theorem dX2_becomeDifference_63 : decode cX2_becomeDifference 63 = .ok (.lastore, 1) := by decide +kernel
theorem dX2_becomeDifference_64 : decode cX2_becomeDifference 64 = .ok (.iinc 3 1, 3) := by decide +kernel
theorem dX2_becomeDifference_67 : decode cX2_becomeDifference 67 = .ok (.goto (-60), 3) := by decide +kernel
theorem dX2_becomeDifference_70 : decode cX2_becomeDifference 70 = .ok (.iconst 1, 1) := by decide +kernel
theorem dX2_becomeDifference_71 : decode cX2_becomeDifference 71 = .ok (.ireturn, 1) := by decide +kernel
set_option maxRecDepth 20000 in
theorem ggX2_becomeGreaterLevels_X2_formLike : GoodIn wsX2_becomeGreaterLevels wsX2_formLike := goodIn_r _ [11, 12, 13, 1, 14, 15, 16, 10, 17, 18, 19, 20, 21] (by decide +kernel) (by decide +kernel)
set_option maxRecDepth 20000 in
theorem gX2_becomeGreaterLevels_X2_formLike : GoodIn wsX2_becomeGreaterLevels (wsV RX2 29 RX2 yX2_formLike wsX2_formLike) := goodIn_app (goodIn_of _ (by decide +kernel)) ggX2_becomeGreaterLevels_X2_formLike
theorem dX2_becomeGreaterLevels_0 : decode cX2_becomeGreaterLevels 0 = .ok (.aload_n 0, 1) := by decide +kernel
theorem dX2_becomeGreaterLevels_1 : decode cX2_becomeGreaterLevels 1 = .ok (.aload_n 1, 1) := by decide +kernel
theorem dX2_becomeGreaterLevels_2 : decode cX2_becomeGreaterLevels 2 = .ok (.invokevirtual 29, 3) := by decide +kernel
theorem dX2_becomeGreaterLevels_5 : decode cX2_becomeGreaterLevels 5 = .ok (.iconst 0, 1) := by decide +kernel
theorem dX2_becomeGreaterLevels_6 : decode cX2_becomeGreaterLevels 6 = .ok (.istore_n 3, 1) := by decide +kernel
theorem dX2_becomeGreaterLevels_7 : decode cX2_becomeGreaterLevels 7 = .ok (.iload_n 3, 1) := by decide +kernel
theorem dX2_becomeGreaterLevels_8 : decode cX2_becomeGreaterLevels 8 = .ok (.aload_n 0, 1) := by decide +kernel
theorem dX2_becomeGreaterLevels_9 : decode cX2_becomeGreaterLevels 9 = .ok (.getfield 22, 3) := by decide +kernel
theorem dX2_becomeGreaterLevels_12 : decode cX2_becomeGreaterLevels 12 = .ok (.if_icmp .ge 30, 3) := by decide +kernel
theorem dX2_becomeGreaterLevels_15 : decode cX2_becomeGreaterLevels 15 = .ok (.aload_n 0, 1) := by decide +kernel
theorem dX2_becomeGreaterLevels_16 : decode cX2_becomeGreaterLevels 16 = .ok (.getfield 15, 3) := by decide +kernel
theorem dX2_becomeGreaterLevels_19 : decode cX2_becomeGreaterLevels 19 = .ok (.iload_n 3, 1) := by decide +kernel
theorem dX2_becomeGreaterLevels_20 : decode cX2_becomeGreaterLevels 20 = .ok (.aload_n 1, 1) := by decide +kernel
theorem dX2_becomeGreaterLevels_21 : decode cX2_becomeGreaterLevels 21 = .ok (.getfield 15, 3) := by decide +kernel
theorem dX2_becomeGreaterLevels_24 : decode cX2_becomeGreaterLevels 24 = .ok (.iload_n 3, 1) := by decide +kernel
theorem dX2_becomeGreaterLevels_25 : decode cX2_becomeGreaterLevels 25 = .ok (.laload, 1) := by decide +kernel
theorem dX2_becomeGreaterLevels_26 : decode cX2_becomeGreaterLevels 26 = .ok (.aload_n 2, 1) := by decide +kernel
theorem dX2_becomeGreaterLevels_27 : decode cX2_becomeGreaterLevels 27 = .ok (.getfield 15, 3) := by decide +kernel
theorem dX2_becomeGreaterLevels_30 : decode cX2_becomeGreaterLevels 30 = .ok (.iload_n 3, 1) := by decide +kernel
theorem dX2_becomeGreaterLevels_31 : decode cX2_becomeGreaterLevels 31 = .ok (.laload, 1) := by decide +kernel
theorem dX2_becomeGreaterLevels_32 : decode cX2_becomeGreaterLevels 32 = .ok (.invokestatic 33, 3) := by decide +kernel
theorem dX2_becomeGreaterLevels_35 : decode cX2_becomeGreaterLevels 35 = .ok (.lastore, 1) := by decide +kernel
theorem dX2_becomeGreaterLevels_36 : decode cX2_becomeGreaterLevels 36 = .ok (.iinc 3 1, 3) := by decide +kernel
theorem dX2_becomeGreaterLevels_39 : decode cX2_becomeGreaterLevels 39 = .ok (.goto (-32), 3) := by decide +kernel
theorem dX2_becomeGreaterLevels_42 : decode cX2_becomeGreaterLevels 42 = .ok (.return_, 1) := by decide +kernel
set_option maxRecDepth 20000 in
theorem ggX2_becomeLesserLevels_X2_formLike : GoodIn wsX2_becomeLesserLevels wsX2_formLike := goodIn_r _ [11, 12, 13, 1, 14, 15, 16, 10, 17, 18, 19, 20, 21] (by decide +kernel) (by decide +kernel)
set_option maxRecDepth 20000 in
theorem gX2_becomeLesserLevels_X2_formLike : GoodIn wsX2_becomeLesserLevels (wsV RX2 29 RX2 yX2_formLike wsX2_formLike) := goodIn_app (goodIn_of _ (by decide +kernel)) ggX2_becomeLesserLevels_X2_formLike
theorem dX2_becomeLesserLevels_0 : decode cX2_becomeLesserLevels 0 = .ok (.aload_n 0, 1) := by decide +kernel
theorem dX2_becomeLesserLevels_1 : decode cX2_becomeLesserLevels 1 = .ok (.aload_n 1, 1) := by decide +kernel
theorem dX2_becomeLesserLevels_2 : decode cX2_becomeLesserLevels 2 = .ok (.invokevirtual 29, 3) := by decide +kernel
theorem dX2_becomeLesserLevels_5 : decode cX2_becomeLesserLevels 5 = .ok (.iconst 0, 1) := by decide +kernel
theorem dX2_becomeLesserLevels_6 : decode cX2_becomeLesserLevels 6 = .ok (.istore_n 3, 1) := by decide +kernel
theorem dX2_becomeLesserLevels_7 : decode cX2_becomeLesserLevels 7 = .ok (.iload_n 3, 1) := by decide +kernel
theorem dX2_becomeLesserLevels_8 : decode cX2_becomeLesserLevels 8 = .ok (.aload_n 0, 1) := by decide +kernel
theorem dX2_becomeLesserLevels_9 : decode cX2_becomeLesserLevels 9 = .ok (.getfield 22, 3) := by decide +kernel
theorem dX2_becomeLesserLevels_12 : decode cX2_becomeLesserLevels 12 = .ok (.if_icmp .ge 30, 3) := by decide +kernel
theorem dX2_becomeLesserLevels_15 : decode cX2_becomeLesserLevels 15 = .ok (.aload_n 0, 1) := by decide +kernel
theorem dX2_becomeLesserLevels_16 : decode cX2_becomeLesserLevels 16 = .ok (.getfield 15, 3) := by decide +kernel
theorem dX2_becomeLesserLevels_19 : decode cX2_becomeLesserLevels 19 = .ok (.iload_n 3, 1) := by decide +kernel
theorem dX2_becomeLesserLevels_20 : decode cX2_becomeLesserLevels 20 = .ok (.aload_n 1, 1) := by decide +kernel
theorem dX2_becomeLesserLevels_21 : decode cX2_becomeLesserLevels 21 = .ok (.getfield 15, 3) := by decide +kernel
theorem dX2_becomeLesserLevels_24 : decode cX2_becomeLesserLevels 24 = .ok (.iload_n 3, 1) := by decide +kernel
theorem dX2_becomeLesserLevels_25 : decode cX2_becomeLesserLevels 25 = .ok (.laload, 1) := by decide +kernel
theorem dX2_becomeLesserLevels_26 : decode cX2_becomeLesserLevels 26 = .ok (.aload_n 2, 1) := by decide +kernel
theorem dX2_becomeLesserLevels_27 : decode cX2_becomeLesserLevels 27 = .ok (.getfield 15, 3) := by decide +kernel
theorem dX2_becomeLesserLevels_30 : decode cX2_becomeLesserLevels 30 = .ok (.iload_n 3, 1) := by decide +kernel
theorem dX2_becomeLesserLevels_31 : decode cX2_becomeLesserLevels 31 = .ok (.laload, 1) := by decide +kernel
theorem dX2_becomeLesserLevels_32 : decode cX2_becomeLesserLevels 32 = .ok (.invokestatic 39, 3) := by decide +kernel
theorem dX2_becomeLesserLevels_35 : decode cX2_becomeLesserLevels 35 = .ok (.lastore, 1) := by decide +kernel
theorem dX2_becomeLesserLevels_36 : decode cX2_becomeLesserLevels 36 = .ok (.iinc 3 1, 3) := by decide +kernel
theorem dX2_becomeLesserLevels_39 : decode cX2_becomeLesserLevels 39 = .ok (.goto (-32), 3) := by decide +kernel
theorem dX2_becomeLesserLevels_42 : decode cX2_becomeLesserLevels 42 = .ok (.return_, 1) := by decide +kernel
theorem dX4_init_0 : decode cX4_init 0 = .ok (.aload_n 0, 1) := by decide +kernel
theorem dX4_init_1 : decode cX4_init 1 = .ok (.invokespecial 1, 3) := by decide +kernel
theorem dX4_init_4 : decode cX4_init 4 = .ok (.return_, 1) := by decide +kernel
theorem dX4_clear_0 : decode cX4_clear 0 = .ok (.aload_n 0, 1) := by decide +kernel
theorem dX4_clear_1 : decode cX4_clear 1 = .ok (.lconst 0, 1) := by decide +kernel
theorem dX4_clear_2 : decode cX4_clear 2 = .ok (.putfield 7, 3) := by decide +kernel
theorem dX4_clear_5 : decode cX4_clear 5 = .ok (.aload_n 0, 1) := by decide +kernel
theorem dX4_clear_6 : decode cX4_clear 6 = .ok (.lconst 0, 1) := by decide +kernel
theorem dX4_clear_7 : decode cX4_clear 7 = .ok (.putfield 13, 3) := by decide +kernel
theorem dX4_clear_10 : decode cX4_clear 10 = .ok (.return_, 1) := by decide +kernel
theorem dX4_addProduct_0 : decode cX4_addProduct 0 = .ok (.lload_n 1, 1) := by decide +kernel
theorem dX4_addProduct_1 : decode cX4_addProduct 1 = .ok (.ldc2_w 16, 3) := by decide +kernel
theorem dX4_addProduct_4 : decode cX4_addProduct 4 = .ok (.land, 1) := by decide +kernel
theorem dX4_addProduct_5 : decode cX4_addProduct 5 = .ok (.lload_n 3, 1) := by decide +kernel
theorem dX4_addProduct_6 : decode cX4_addProduct 6 = .ok (.lmul, 1) := by decide +kernel
theorem dX4_addProduct_7 : decode cX4_addProduct 7 = .ok (.lstore 5, 2) := by decide +kernel
theorem dX4_addProduct_9 : decode cX4_addProduct 9 = .ok (.aload_n 0, 1) := by decide +kernel
theorem dX4_addProduct_10 : decode cX4_addProduct 10 = .ok (.getfield 13, 3) := by decide +kernel
theorem dX4_addProduct_13 : decode cX4_addProduct 13 = .ok (.lload 5, 2) := by decide +kernel
theorem dX4_addProduct_15 : decode cX4_addProduct 15 = .ok (.ldc2_w 16, 3) := by decide +kernel
theorem dX4_addProduct_18 : decode cX4_addProduct 18 = .ok (.land, 1) := by decide +kernel
theorem dX4_addProduct_19 : decode cX4_addProduct 19 = .ok (.ladd, 1) := by decide +kernel
theorem dX4_addProduct_20 : decode cX4_addProduct 20 = .ok (.lstore 7, 2) := by decide +kernel
theorem dX4_addProduct_22 : decode cX4_addProduct 22 = .ok (.aload_n 0, 1) := by decide +kernel
theorem dX4_addProduct_23 : decode cX4_addProduct 23 = .ok (.dup, 1) := by decide +kernel
theorem dX4_addProduct_24 : decode cX4_addProduct 24 = .ok (.getfield 7, 3) := by decide +kernel
theorem dX4_addProduct_27 : decode cX4_addProduct 27 = .ok (.lload_n 1, 1) := by decide +kernel
theorem dX4_addProduct_28 : decode cX4_addProduct 28 = .ok (.bipush 32, 2) := by decide +kernel
theorem dX4_addProduct_30 : decode cX4_addProduct 30 = .ok (.lshr, 1) := by decide +kernel
theorem dX4_addProduct_31 : decode cX4_addProduct 31 = .ok (.lload_n 3, 1) := by decide +kernel
theorem dX4_addProduct_32 : decode cX4_addProduct 32 = .ok (.lmul, 1) := by decide +kernel
theorem dX4_addProduct_33 : decode cX4_addProduct 33 = .ok (.lload 5, 2) := by decide +kernel
theorem dX4_addProduct_35 : decode cX4_addProduct 35 = .ok (.bipush 32, 2) := by decide +kernel
theorem dX4_addProduct_37 : decode cX4_addProduct 37 = .ok (.lshr, 1) := by decide +kernel
theorem dX4_addProduct_38 : decode cX4_addProduct 38 = .ok (.ladd, 1) := by decide +kernel
theorem dX4_addProduct_39 : decode cX4_addProduct 39 = .ok (.lload 7, 2) := by decide +kernel
theorem dX4_addProduct_41 : decode cX4_addProduct 41 = .ok (.bipush 32, 2) := by decide +kernel
theorem dX4_addProduct_43 : decode cX4_addProduct 43 = .ok (.lshr, 1) := by decide +kernel
theorem dX4_addProduct_44 : decode cX4_addProduct 44 = .ok (.ladd, 1) := by decide +kernel
theorem dX4_addProduct_45 : decode cX4_addProduct 45 = .ok (.ladd, 1) := by decide +kernel
theorem dX4_addProduct_46 : decode cX4_addProduct 46 = .ok (.putfield 7, 3) := by decide +kernel
theorem dX4_addProduct_49 : decode cX4_addProduct 49 = .ok (.aload_n 0, 1) := by decide +kernel
theorem dX4_addProduct_50 : decode cX4_addProduct 50 = .ok (.lload 7, 2) := by decide +kernel
theorem dX4_addProduct_52 : decode cX4_addProduct 52 = .ok (.ldc2_w 16, 3) := by decide +kernel
theorem dX4_addProduct_55 : decode cX4_addProduct 55 = .ok (.land, 1) := by decide +kernel
theorem dX4_addProduct_56 : decode cX4_addProduct 56 = .ok (.putfield 13, 3) := by decide +kernel
theorem dX4_addProduct_59 : decode cX4_addProduct 59 = .ok (.return_, 1) := by decide +kernel
set_option maxRecDepth 20000 in
theorem ggX4_divideDown_J9_floorMod_f86c9 : GoodIn wsX4_divideDown wsJ9_floorMod_f86c9 := goodIn_r _ [6] (by decide +kernel) (by decide +kernel)
set_option maxRecDepth 20000 in
theorem gX4_divideDown_J9_floorMod_f86c9 : GoodIn wsX4_divideDown (va_wsS RX4 18 yJ9_floorMod_f86c9 wsJ9_floorMod_f86c9) := goodIn_app (goodIn_of _ (by decide +kernel)) ggX4_divideDown_J9_floorMod_f86c9
set_option maxRecDepth 20000 in
theorem ggX4_divideDown_J9_floorDiv_f86c9 : GoodIn wsX4_divideDown wsJ9_floorDiv_f86c9 := goodIn_r _ [9] (by decide +kernel) (by decide +kernel)
set_option maxRecDepth 20000 in
theorem gX4_divideDown_J9_floorDiv_f86c9 : GoodIn wsX4_divideDown (va_wsS RX4 24 yJ9_floorDiv_f86c9 wsJ9_floorDiv_f86c9) := goodIn_app (goodIn_of _ (by decide +kernel)) ggX4_divideDown_J9_floorDiv_f86c9
theorem dX4_divideDown_0 : decode cX4_divideDown 0 = .ok (.lload_n 1, 1) := by decide +kernel
theorem dX4_divideDown_1 : decode cX4_divideDown 1 = .ok (.lconst 1, 1) := by decide +kernel
theorem dX4_divideDown_2 : decode cX4_divideDown 2 = .ok (.lcmp, 1) := by decide +kernel
theorem dX4_divideDown_3 : decode cX4_divideDown 3 = .ok (.ifCond .ge 4, 3) := by decide +kernel
theorem dX4_divideDown_6 : decode cX4_divideDown 6 = .ok (.return_, 1) := by decide +kernel
theorem dX4_divideDown_7 : decode cX4_divideDown 7 = .ok (.aload_n 0, 1) := by decide +kernel
theorem dX4_divideDown_8 : decode cX4_divideDown 8 = .ok (.getfield 7, 3) := by decide +kernel
theorem dX4_divideDown_11 : decode cX4_divideDown 11 = .ok (.lload_n 1, 1) := by decide +kernel
theorem dX4_divideDown_12 : decode cX4_divideDown 12 = .ok (.invokestatic 18, 3) := by decide +kernel
theorem dX4_divideDown_15 : decode cX4_divideDown 15 = .ok (.lstore_n 3, 1) := by decide +kernel
theorem dX4_divideDown_16 : decode cX4_divideDown 16 = .ok (.aload_n 0, 1) := by decide +kernel
theorem dX4_divideDown_17 : decode cX4_divideDown 17 = .ok (.aload_n 0, 1) := by decide +kernel
theorem dX4_divideDown_18 : decode cX4_divideDown 18 = .ok (.getfield 7, 3) := by decide +kernel
theorem dX4_divideDown_21 : decode cX4_divideDown 21 = .ok (.lload_n 1, 1) := by decide +kernel
theorem dX4_divideDown_22 : decode cX4_divideDown 22 = .ok (.invokestatic 24, 3) := by decide +kernel
theorem dX4_divideDown_25 : decode cX4_divideDown 25 = .ok (.putfield 7, 3) := by decide +kernel
theorem dX4_divideDown_28 : decode cX4_divideDown 28 = .ok (.aload_n 0, 1) := by decide +kernel
theorem dX4_divideDown_29 : decode cX4_divideDown 29 = .ok (.lload_n 3, 1) := by decide +kernel
theorem dX4_divideDown_30 : decode cX4_divideDown 30 = .ok (.bipush 32, 2) := by decide +kernel
theorem dX4_divideDown_32 : decode cX4_divideDown 32 = .ok (.lshl, 1) := by decide +kernel
theorem dX4_divideDown_33 : decode cX4_divideDown 33 = .ok (.aload_n 0, 1) := by decide +kernel
theorem dX4_divideDown_34 : decode cX4_divideDown 34 = .ok (.getfield 13, 3) := by decide +kernel
theorem dX4_divideDown_37 : decode cX4_divideDown 37 = .ok (.lor, 1) := by decide +kernel
theorem dX4_divideDown_38 : decode cX4_divideDown 38 = .ok (.lload_n 1, 1) := by decide +kernel
theorem dX4_divideDown_39 : decode cX4_divideDown 39 = .ok (.ldiv, 1) := by decide +kernel
theorem dX4_divideDown_40 : decode cX4_divideDown 40 = .ok (.putfield 13, 3) := by decide +kernel
theorem dX4_divideDown_43 : decode cX4_divideDown 43 = .ok (.return_, 1) := by decide +kernel
theorem dX4_fits_0 : decode cX4_fits 0 = .ok (.aload_n 0, 1) := by decide +kernel
theorem dX4_fits_1 : decode cX4_fits 1 = .ok (.getfield 7, 3) := by decide +kernel
theorem dX4_fits_4 : decode cX4_fits 4 = .ok (.ldc2_w 29, 3) := by decide +kernel
theorem dX4_fits_7 : decode cX4_fits 7 = .ok (.lcmp, 1) := by decide +kernel
theorem dX4_fits_8 : decode cX4_fits 8 = .ok (.ifCond .lt 18, 3) := by decide +kernel
theorem dX4_fits_11 : decode cX4_fits 11 = .ok (.aload_n 0, 1) := by decide +kernel
theorem dX4_fits_12 : decode cX4_fits 12 = .ok (.getfield 7, 3) := by decide +kernel
theorem dX4_fits_15 : decode cX4_fits 15 = .ok (.ldc2_w 31, 3) := by decide +kernel
theorem dX4_fits_18 : decode cX4_fits 18 = .ok (.lcmp, 1) := by decide +kernel
theorem dX4_fits_19 : decode cX4_fits 19 = .ok (.ifCond .gt 7, 3) := by decide +kernel
theorem dX4_fits_22 : decode cX4_fits 22 = .ok (.iconst 1, 1) := by decide +kernel
theorem dX4_fits_23 : decode cX4_fits 23 = .ok (.goto 4, 3) := by decide +kernel
theorem dX4_fits_26 : decode cX4_fits 26 = .ok (.iconst 0, 1) := by decide +kernel
theorem dX4_fits_27 : decode cX4_fits 27 = .ok (.ireturn, 1) := by decide +kernel
theorem dX4_value_0 : decode cX4_value 0 = .ok (.aload_n 0, 1) := by decide +kernel
theorem dX4_value_1 : decode cX4_value 1 = .ok (.getfield 7, 3) := by decide +kernel
theorem dX4_value_4 : decode cX4_value 4 = .ok (.bipush 32, 2) := by decide +kernel
theorem dX4_value_6 : decode cX4_value 6 = .ok (.lshl, 1) := by decide +kernel
theorem dX4_value_7 : decode cX4_value 7 = .ok (.aload_n 0, 1) := by decide +kernel
theorem dX4_value_8 : decode cX4_value 8 = .ok (.getfield 13, 3) := by decide +kernel
theorem dX4_value_11 : decode cX4_value 11 = .ok (.lor, 1) := by decide +kernel
theorem dX4_value_12 : decode cX4_value 12 = .ok (.lreturn, 1) := by decide +kernel
theorem dJ9_floorDiv_f86c9_0 : decode cJ9_floorDiv_f86c9 0 = .ok (.lload_n 0, 1) := by decide +kernel
theorem dJ9_floorDiv_f86c9_1 : decode cJ9_floorDiv_f86c9 1 = .ok (.lload_n 2, 1) := by decide +kernel
theorem dJ9_floorDiv_f86c9_2 : decode cJ9_floorDiv_f86c9 2 = .ok (.ldiv, 1) := by decide +kernel
theorem dJ9_floorDiv_f86c9_3 : decode cJ9_floorDiv_f86c9 3 = .ok (.lstore 4, 2) := by decide +kernel
theorem dJ9_floorDiv_f86c9_5 : decode cJ9_floorDiv_f86c9 5 = .ok (.lload_n 0, 1) := by decide +kernel
theorem dJ9_floorDiv_f86c9_6 : decode cJ9_floorDiv_f86c9 6 = .ok (.lload_n 2, 1) := by decide +kernel
theorem dJ9_floorDiv_f86c9_7 : decode cJ9_floorDiv_f86c9 7 = .ok (.lxor, 1) := by decide +kernel
theorem dJ9_floorDiv_f86c9_8 : decode cJ9_floorDiv_f86c9 8 = .ok (.lconst 0, 1) := by decide +kernel
theorem dJ9_floorDiv_f86c9_9 : decode cJ9_floorDiv_f86c9 9 = .ok (.lcmp, 1) := by decide +kernel
theorem dJ9_floorDiv_f86c9_10 : decode cJ9_floorDiv_f86c9 10 = .ok (.ifCond .ge 17, 3) := by decide +kernel
theorem dJ9_floorDiv_f86c9_13 : decode cJ9_floorDiv_f86c9 13 = .ok (.lload 4, 2) := by decide +kernel
theorem dJ9_floorDiv_f86c9_15 : decode cJ9_floorDiv_f86c9 15 = .ok (.lload_n 2, 1) := by decide +kernel
theorem dJ9_floorDiv_f86c9_16 : decode cJ9_floorDiv_f86c9 16 = .ok (.lmul, 1) := by decide +kernel
theorem dJ9_floorDiv_f86c9_17 : decode cJ9_floorDiv_f86c9 17 = .ok (.lload_n 0, 1) := by decide +kernel
theorem dJ9_floorDiv_f86c9_18 : decode cJ9_floorDiv_f86c9 18 = .ok (.lcmp, 1) := by decide +kernel
theorem dJ9_floorDiv_f86c9_19 : decode cJ9_floorDiv_f86c9 19 = .ok (.ifCond .eq 8, 3) := by decide +kernel
theorem dJ9_floorDiv_f86c9_22 : decode cJ9_floorDiv_f86c9 22 = .ok (.lload 4, 2) := by decide +kernel
theorem dJ9_floorDiv_f86c9_24 : decode cJ9_floorDiv_f86c9 24 = .ok (.lconst 1, 1) := by decide +kernel
theorem dJ9_floorDiv_f86c9_25 : decode cJ9_floorDiv_f86c9 25 = .ok (.lsub, 1) := by decide +kernel
theorem dJ9_floorDiv_f86c9_26 : decode cJ9_floorDiv_f86c9 26 = .ok (.lreturn, 1) := by decide +kernel
theorem dJ9_floorDiv_f86c9_27 : decode cJ9_floorDiv_f86c9 27 = .ok (.lload 4, 2) := by decide +kernel
theorem dJ9_floorDiv_f86c9_29 : decode cJ9_floorDiv_f86c9 29 = .ok (.lreturn, 1) := by decide +kernel
theorem dJ9_floorMod_f86c9_0 : decode cJ9_floorMod_f86c9 0 = .ok (.lload_n 0, 1) := by decide +kernel
theorem dJ9_floorMod_f86c9_1 : decode cJ9_floorMod_f86c9 1 = .ok (.lload_n 2, 1) := by decide +kernel
theorem dJ9_floorMod_f86c9_2 : decode cJ9_floorMod_f86c9 2 = .ok (.lrem, 1) := by decide +kernel
theorem dJ9_floorMod_f86c9_3 : decode cJ9_floorMod_f86c9 3 = .ok (.lstore 4, 2) := by decide +kernel
theorem dJ9_floorMod_f86c9_5 : decode cJ9_floorMod_f86c9 5 = .ok (.lload_n 0, 1) := by decide +kernel
theorem dJ9_floorMod_f86c9_6 : decode cJ9_floorMod_f86c9 6 = .ok (.lload_n 2, 1) := by decide +kernel
theorem dJ9_floorMod_f86c9_7 : decode cJ9_floorMod_f86c9 7 = .ok (.lxor, 1) := by decide +kernel
theorem dJ9_floorMod_f86c9_8 : decode cJ9_floorMod_f86c9 8 = .ok (.lconst 0, 1) := by decide +kernel
theorem dJ9_floorMod_f86c9_9 : decode cJ9_floorMod_f86c9 9 = .ok (.lcmp, 1) := by decide +kernel
theorem dJ9_floorMod_f86c9_10 : decode cJ9_floorMod_f86c9 10 = .ok (.ifCond .ge 15, 3) := by decide +kernel
theorem dJ9_floorMod_f86c9_13 : decode cJ9_floorMod_f86c9 13 = .ok (.lload 4, 2) := by decide +kernel
theorem dJ9_floorMod_f86c9_15 : decode cJ9_floorMod_f86c9 15 = .ok (.lconst 0, 1) := by decide +kernel
theorem dJ9_floorMod_f86c9_16 : decode cJ9_floorMod_f86c9 16 = .ok (.lcmp, 1) := by decide +kernel
theorem dJ9_floorMod_f86c9_17 : decode cJ9_floorMod_f86c9 17 = .ok (.ifCond .eq 8, 3) := by decide +kernel
theorem dJ9_floorMod_f86c9_20 : decode cJ9_floorMod_f86c9 20 = .ok (.lload 4, 2) := by decide +kernel
theorem dJ9_floorMod_f86c9_22 : decode cJ9_floorMod_f86c9 22 = .ok (.lload_n 2, 1) := by decide +kernel
theorem dJ9_floorMod_f86c9_23 : decode cJ9_floorMod_f86c9 23 = .ok (.ladd, 1) := by decide +kernel
theorem dJ9_floorMod_f86c9_24 : decode cJ9_floorMod_f86c9 24 = .ok (.lreturn, 1) := by decide +kernel
theorem dJ9_floorMod_f86c9_25 : decode cJ9_floorMod_f86c9 25 = .ok (.lload 4, 2) := by decide +kernel
theorem dJ9_floorMod_f86c9_27 : decode cJ9_floorMod_f86c9 27 = .ok (.lreturn, 1) := by decide +kernel
theorem dJ9_max_f86c9_0 : decode cJ9_max_f86c9 0 = .ok (.lload_n 0, 1) := by decide +kernel
theorem dJ9_max_f86c9_1 : decode cJ9_max_f86c9 1 = .ok (.lload_n 2, 1) := by decide +kernel
theorem dJ9_max_f86c9_2 : decode cJ9_max_f86c9 2 = .ok (.lcmp, 1) := by decide +kernel
theorem dJ9_max_f86c9_3 : decode cJ9_max_f86c9 3 = .ok (.ifCond .lt 7, 3) := by decide +kernel
theorem dJ9_max_f86c9_6 : decode cJ9_max_f86c9 6 = .ok (.lload_n 0, 1) := by decide +kernel
theorem dJ9_max_f86c9_7 : decode cJ9_max_f86c9 7 = .ok (.goto 4, 3) := by decide +kernel
theorem dJ9_max_f86c9_10 : decode cJ9_max_f86c9 10 = .ok (.lload_n 2, 1) := by decide +kernel
theorem dJ9_max_f86c9_11 : decode cJ9_max_f86c9 11 = .ok (.lreturn, 1) := by decide +kernel
theorem dJ9_min_f86c9_0 : decode cJ9_min_f86c9 0 = .ok (.lload_n 0, 1) := by decide +kernel
theorem dJ9_min_f86c9_1 : decode cJ9_min_f86c9 1 = .ok (.lload_n 2, 1) := by decide +kernel
theorem dJ9_min_f86c9_2 : decode cJ9_min_f86c9 2 = .ok (.lcmp, 1) := by decide +kernel
theorem dJ9_min_f86c9_3 : decode cJ9_min_f86c9 3 = .ok (.ifCond .gt 7, 3) := by decide +kernel
theorem dJ9_min_f86c9_6 : decode cJ9_min_f86c9 6 = .ok (.lload_n 0, 1) := by decide +kernel
theorem dJ9_min_f86c9_7 : decode cJ9_min_f86c9 7 = .ok (.goto 4, 3) := by decide +kernel
theorem dJ9_min_f86c9_10 : decode cJ9_min_f86c9 10 = .ok (.lload_n 2, 1) := by decide +kernel
theorem dJ9_min_f86c9_11 : decode cJ9_min_f86c9 11 = .ok (.lreturn, 1) := by decide +kernel
set_option maxRecDepth 20000 in
theorem ggJ0_length_8abf5_J0_coder_7d493 : GoodIn wsJ0_length_8abf5 wsJ0_coder_7d493 := goodIn_r _ [6, 7, 8] (by decide +kernel) (by decide +kernel)
set_option maxRecDepth 20000 in
theorem gJ0_length_8abf5_J0_coder_7d493 : GoodIn wsJ0_length_8abf5 (wsV RJ0 335 RJ0 yJ0_coder_7d493 wsJ0_coder_7d493) := goodIn_app (goodIn_of _ (by decide +kernel)) ggJ0_length_8abf5_J0_coder_7d493
theorem dJ0_length_8abf5_0 : decode cJ0_length_8abf5 0 = .ok (.aload_n 0, 1) := by decide +kernel
theorem dJ0_length_8abf5_1 : decode cJ0_length_8abf5 1 = .ok (.getfield 9, 3) := by decide +kernel
theorem dJ0_length_8abf5_4 : decode cJ0_length_8abf5 4 = .ok (.arraylength, 1) := by decide +kernel
theorem dJ0_length_8abf5_5 : decode cJ0_length_8abf5 5 = .ok (.aload_n 0, 1) := by decide +kernel
theorem dJ0_length_8abf5_6 : decode cJ0_length_8abf5 6 = .ok (.invokevirtual 335, 3) := by decide +kernel
theorem dJ0_length_8abf5_9 : decode cJ0_length_8abf5 9 = .ok (.ishr, 1) := by decide +kernel
theorem dJ0_length_8abf5_10 : decode cJ0_length_8abf5 10 = .ok (.ireturn, 1) := by decide +kernel
set_option maxRecDepth 20000 in
theorem ggJ0_charAt_5068e_J0_isLatin1_aae02 : GoodIn wsJ0_charAt_5068e wsJ0_isLatin1_aae02 := goodIn_r _ [6, 7, 8] (by decide +kernel) (by decide +kernel)
set_option maxRecDepth 20000 in
theorem gJ0_charAt_5068e_J0_isLatin1_aae02 : GoodIn wsJ0_charAt_5068e (wsV RJ0 492 RJ0 yJ0_isLatin1_aae02 wsJ0_isLatin1_aae02) := goodIn_app (goodIn_of _ (by decide +kernel)) ggJ0_charAt_5068e_J0_isLatin1_aae02
set_option maxRecDepth 20000 in
theorem ggJ0_charAt_5068e_J1_charAt_3b067 : GoodIn wsJ0_charAt_5068e wsJ1_charAt_3b067 := goodIn_r _ [12, 13, 14, 5, 15, 16, 17, 18, 19, 20] (by decide +kernel) (by decide +kernel)
set_option maxRecDepth 20000 in
theorem gJ0_charAt_5068e_J1_charAt_3b067 : GoodIn wsJ0_charAt_5068e (va_wsS RJ0 495 yJ1_charAt_3b067 wsJ1_charAt_3b067) := goodIn_app (goodIn_of _ (by decide +kernel)) ggJ0_charAt_5068e_J1_charAt_3b067
set_option maxRecDepth 20000 in
theorem ggJ0_charAt_5068e_J2_charAt_3b067 : GoodIn wsJ0_charAt_5068e wsJ2_charAt_3b067 := goodIn_r _ [24, 25, 26, 23, 27, 28, 29, 30, 31, 14, 5, 15, 16, 17, 18, 19, 20, 32, 33, 34, 35, 36, 37] (by decide +kernel) (by decide +kernel)
set_option maxRecDepth 20000 in
theorem gJ0_charAt_5068e_J2_charAt_3b067 : GoodIn wsJ0_charAt_5068e (va_wsS RJ0 498 yJ2_charAt_3b067 wsJ2_charAt_3b067) := goodIn_app (goodIn_of _ (by decide +kernel)) ggJ0_charAt_5068e_J2_charAt_3b067
theorem dJ0_charAt_5068e_0 : decode cJ0_charAt_5068e 0 = .ok (.aload_n 0, 1) := by decide +kernel
theorem dJ0_charAt_5068e_1 : decode cJ0_charAt_5068e 1 = .ok (.invokevirtual 492, 3) := by decide +kernel
theorem dJ0_charAt_5068e_4 : decode cJ0_charAt_5068e 4 = .ok (.ifCond .eq 12, 3) := by decide +kernel
theorem dJ0_charAt_5068e_7 : decode cJ0_charAt_5068e 7 = .ok (.aload_n 0, 1) := by decide +kernel
theorem dJ0_charAt_5068e_8 : decode cJ0_charAt_5068e 8 = .ok (.getfield 9, 3) := by decide +kernel
theorem dJ0_charAt_5068e_11 : decode cJ0_charAt_5068e 11 = .ok (.iload_n 1, 1) := by decide +kernel
theorem dJ0_charAt_5068e_12 : decode cJ0_charAt_5068e 12 = .ok (.invokestatic 495, 3) := by decide +kernel
theorem dJ0_charAt_5068e_15 : decode cJ0_charAt_5068e 15 = .ok (.ireturn, 1) := by decide +kernel
theorem dJ0_charAt_5068e_16 : decode cJ0_charAt_5068e 16 = .ok (.aload_n 0, 1) := by decide +kernel
theorem dJ0_charAt_5068e_17 : decode cJ0_charAt_5068e 17 = .ok (.getfield 9, 3) := by decide +kernel
theorem dJ0_charAt_5068e_20 : decode cJ0_charAt_5068e 20 = .ok (.iload_n 1, 1) := by decide +kernel
theorem dJ0_charAt_5068e_21 : decode cJ0_charAt_5068e 21 = .ok (.invokestatic 498, 3) := by decide +kernel
theorem dJ0_charAt_5068e_24 : decode cJ0_charAt_5068e 24 = .ok (.ireturn, 1) := by decide +kernel
theorem dJ0_coder_7d493_0 : decode cJ0_coder_7d493 0 = .ok (.getstatic 38, 3) := by decide +kernel
theorem dJ0_coder_7d493_3 : decode cJ0_coder_7d493 3 = .ok (.ifCond .eq 10, 3) := by decide +kernel
theorem dJ0_coder_7d493_6 : decode cJ0_coder_7d493 6 = .ok (.aload_n 0, 1) := by decide +kernel
theorem dJ0_coder_7d493_7 : decode cJ0_coder_7d493 7 = .ok (.getfield 15, 3) := by decide +kernel
theorem dJ0_coder_7d493_10 : decode cJ0_coder_7d493 10 = .ok (.goto 4, 3) := by decide +kernel
theorem dJ0_coder_7d493_13 : decode cJ0_coder_7d493 13 = .ok (.iconst 1, 1) := by decide +kernel
theorem dJ0_coder_7d493_14 : decode cJ0_coder_7d493 14 = .ok (.ireturn, 1) := by decide +kernel
theorem dJ0_isLatin1_aae02_0 : decode cJ0_isLatin1_aae02 0 = .ok (.getstatic 38, 3) := by decide +kernel
theorem dJ0_isLatin1_aae02_3 : decode cJ0_isLatin1_aae02 3 = .ok (.ifCond .eq 14, 3) := by decide +kernel
theorem dJ0_isLatin1_aae02_6 : decode cJ0_isLatin1_aae02 6 = .ok (.aload_n 0, 1) := by decide +kernel
theorem dJ0_isLatin1_aae02_7 : decode cJ0_isLatin1_aae02 7 = .ok (.getfield 15, 3) := by decide +kernel
theorem dJ0_isLatin1_aae02_10 : decode cJ0_isLatin1_aae02 10 = .ok (.ifCond .ne 7, 3) := by decide +kernel
theorem dJ0_isLatin1_aae02_13 : decode cJ0_isLatin1_aae02 13 = .ok (.iconst 1, 1) := by decide +kernel
theorem dJ0_isLatin1_aae02_14 : decode cJ0_isLatin1_aae02 14 = .ok (.goto 4, 3) := by decide +kernel
theorem dJ0_isLatin1_aae02_17 : decode cJ0_isLatin1_aae02 17 = .ok (.iconst 0, 1) := by decide +kernel
theorem dJ0_isLatin1_aae02_18 : decode cJ0_isLatin1_aae02 18 = .ok (.ireturn, 1) := by decide +kernel
set_option maxRecDepth 20000 in
theorem ggJ0_checkIndex_df160_J3_checkIndex_8e157 : GoodIn wsJ0_checkIndex_df160 wsJ3_checkIndex_8e157 := goodIn_r _ [5] (by decide +kernel) (by decide +kernel)
set_option maxRecDepth 20000 in
theorem gJ0_checkIndex_df160_J3_checkIndex_8e157 : GoodIn wsJ0_checkIndex_df160 (va_wsS RJ0 1059 yJ3_checkIndex_8e157 wsJ3_checkIndex_8e157) := goodIn_app (goodIn_of _ (by decide +kernel)) ggJ0_checkIndex_df160_J3_checkIndex_8e157
theorem dJ0_checkIndex_df160_0 : decode cJ0_checkIndex_df160 0 = .ok (.iload_n 0, 1) := by decide +kernel
theorem dJ0_checkIndex_df160_1 : decode cJ0_checkIndex_df160 1 = .ok (.iload_n 1, 1) := by decide +kernel
theorem dJ0_checkIndex_df160_2 : decode cJ0_checkIndex_df160 2 = .ok (.getstatic 1053, 3) := by decide +kernel
theorem dJ0_checkIndex_df160_5 : decode cJ0_checkIndex_df160 5 = .ok (.invokestatic 1059, 3) := by decide +kernel
theorem dJ0_checkIndex_df160_8 : decode cJ0_checkIndex_df160 8 = .ok (.pop, 1) := by decide +kernel
theorem dJ0_checkIndex_df160_9 : decode cJ0_checkIndex_df160 9 = .ok (.return_, 1) := by decide +kernel
set_option maxRecDepth 20000 in
theorem ggJ1_charAt_3b067_J0_checkIndex_df160 : GoodIn wsJ1_charAt_3b067 wsJ0_checkIndex_df160 := goodIn_r _ [4, 5, 6, 7, 8, 9] (by decide +kernel) (by decide +kernel)
set_option maxRecDepth 20000 in
theorem gJ1_charAt_3b067_J0_checkIndex_df160 : GoodIn wsJ1_charAt_3b067 (va_wsS RJ1 9 yJ0_checkIndex_df160 wsJ0_checkIndex_df160) := goodIn_app (goodIn_of _ (by decide +kernel)) ggJ1_charAt_3b067_J0_checkIndex_df160
theorem dJ1_charAt_3b067_0 : decode cJ1_charAt_3b067 0 = .ok (.iload_n 1, 1) := by decide +kernel
theorem dJ1_charAt_3b067_1 : decode cJ1_charAt_3b067 1 = .ok (.aload_n 0, 1) := by decide +kernel
theorem dJ1_charAt_3b067_2 : decode cJ1_charAt_3b067 2 = .ok (.arraylength, 1) := by decide +kernel
theorem dJ1_charAt_3b067_3 : decode cJ1_charAt_3b067 3 = .ok (.invokestatic 9, 3) := by decide +kernel
theorem dJ1_charAt_3b067_6 : decode cJ1_charAt_3b067 6 = .ok (.aload_n 0, 1) := by decide +kernel
theorem dJ1_charAt_3b067_7 : decode cJ1_charAt_3b067 7 = .ok (.iload_n 1, 1) := by decide +kernel
theorem dJ1_charAt_3b067_8 : decode cJ1_charAt_3b067 8 = .ok (.baload, 1) := by decide +kernel
theorem dJ1_charAt_3b067_9 : decode cJ1_charAt_3b067 9 = .ok (.sipush 255, 3) := by decide +kernel
theorem dJ1_charAt_3b067_12 : decode cJ1_charAt_3b067 12 = .ok (.iand, 1) := by decide +kernel
theorem dJ1_charAt_3b067_13 : decode cJ1_charAt_3b067 13 = .ok (.i2c, 1) := by decide +kernel
theorem dJ1_charAt_3b067_14 : decode cJ1_charAt_3b067 14 = .ok (.ireturn, 1) := by decide +kernel
set_option maxRecDepth 20000 in
theorem ggJ2_getChar_3b067_J2_length_9d52b : GoodIn wsJ2_getChar_3b067 wsJ2_length_9d52b := goodIn_r _ [7] (by decide +kernel) (by decide +kernel)
set_option maxRecDepth 20000 in
theorem gJ2_getChar_3b067_J2_length_9d52b : GoodIn wsJ2_getChar_3b067 (va_wsS RJ2 48 yJ2_length_9d52b wsJ2_length_9d52b) := goodIn_app (goodIn_of _ (by decide +kernel)) ggJ2_getChar_3b067_J2_length_9d52b
theorem dJ2_getChar_3b067_0 : decode cJ2_getChar_3b067 0 = .ok (.getstatic 44, 3) := by decide +kernel
theorem dJ2_getChar_3b067_3 : decode cJ2_getChar_3b067 3 = .ok (.ifCond .ne 25, 3) := by decide +kernel
theorem dJ2_getChar_3b067_6 : decode cJ2_getChar_3b067 6 = .ok (.iload_n 1, 1) := by decide +kernel
theorem dJ2_getChar_3b067_7 : decode cJ2_getChar_3b067 7 = .ok (.ifCond .lt 11, 3) := by decide +kernel
theorem dJ2_getChar_3b067_10 : decode cJ2_getChar_3b067 10 = .ok (.iload_n 1, 1) := by decide +kernel
theorem dJ2_getChar_3b067_11 : decode cJ2_getChar_3b067 11 = .ok (.aload_n 0, 1) := by decide +kernel
theorem dJ2_getChar_3b067_12 : decode cJ2_getChar_3b067 12 = .ok (.invokestatic 48, 3) := by decide +kernel
theorem dJ2_getChar_3b067_15 : decode cJ2_getChar_3b067 15 = .ok (.if_icmp .lt 13, 3) := by decide +kernel
theorem dJ2_getChar_3b067_18 : decode cJ2_getChar_3b067 18 = .ok (.new 52, 3) := by decide +kernel
theorem dJ2_getChar_3b067_21 : decode cJ2_getChar_3b067 21 = .ok (.dup, 1) := by decide +kernel
theorem dJ2_getChar_3b067_22 : decode cJ2_getChar_3b067 22 = .ok (.ldc 54, 2) := by decide +kernel
theorem dJ2_getChar_3b067_24 : decode cJ2_getChar_3b067 24 = .ok (.invokespecial 56, 3) := by decide +kernel
theorem dJ2_getChar_3b067_27 : decode cJ2_getChar_3b067 27 = .ok (.athrow, 1) := by decide +kernel
theorem dJ2_getChar_3b067_28 : decode cJ2_getChar_3b067 28 = .ok (.iload_n 1, 1) := by decide +kernel
theorem dJ2_getChar_3b067_29 : decode cJ2_getChar_3b067 29 = .ok (.iconst 1, 1) := by decide +kernel
theorem dJ2_getChar_3b067_30 : decode cJ2_getChar_3b067 30 = .ok (.ishl, 1) := by decide +kernel
theorem dJ2_getChar_3b067_31 : decode cJ2_getChar_3b067 31 = .ok (.istore_n 1, 1) := by decide +kernel
theorem dJ2_getChar_3b067_32 : decode cJ2_getChar_3b067 32 = .ok (.aload_n 0, 1) := by decide +kernel
theorem dJ2_getChar_3b067_33 : decode cJ2_getChar_3b067 33 = .ok (.iload_n 1, 1) := by decide +kernel
theorem dJ2_getChar_3b067_34 : decode cJ2_getChar_3b067 34 = .ok (.iinc 1 1, 3) := by decide +kernel
theorem dJ2_getChar_3b067_37 : decode cJ2_getChar_3b067 37 = .ok (.baload, 1) := by decide +kernel
theorem dJ2_getChar_3b067_38 : decode cJ2_getChar_3b067 38 = .ok (.sipush 255, 3) := by decide +kernel
theorem dJ2_getChar_3b067_41 : decode cJ2_getChar_3b067 41 = .ok (.iand, 1) := by decide +kernel
theorem dJ2_getChar_3b067_42 : decode cJ2_getChar_3b067 42 = .ok (.getstatic 59, 3) := by decide +kernel
theorem dJ2_getChar_3b067_45 : decode cJ2_getChar_3b067 45 = .ok (.ishl, 1) := by decide +kernel
theorem dJ2_getChar_3b067_46 : decode cJ2_getChar_3b067 46 = .ok (.aload_n 0, 1) := by decide +kernel
theorem dJ2_getChar_3b067_47 : decode cJ2_getChar_3b067 47 = .ok (.iload_n 1, 1) := by decide +kernel
theorem dJ2_getChar_3b067_48 : decode cJ2_getChar_3b067 48 = .ok (.baload, 1) := by decide +kernel
theorem dJ2_getChar_3b067_49 : decode cJ2_getChar_3b067 49 = .ok (.sipush 255, 3) := by decide +kernel
theorem dJ2_getChar_3b067_52 : decode cJ2_getChar_3b067 52 = .ok (.iand, 1) := by decide +kernel
theorem dJ2_getChar_3b067_53 : decode cJ2_getChar_3b067 53 = .ok (.getstatic 63, 3) := by decide +kernel
theorem dJ2_getChar_3b067_56 : decode cJ2_getChar_3b067 56 = .ok (.ishl, 1) := by decide +kernel
theorem dJ2_getChar_3b067_57 : decode cJ2_getChar_3b067 57 = .ok (.ior, 1) := by decide +kernel
theorem dJ2_getChar_3b067_58 : decode cJ2_getChar_3b067 58 = .ok (.i2c, 1) := by decide +kernel
theorem dJ2_getChar_3b067_59 : decode cJ2_getChar_3b067 59 = .ok (.ireturn, 1) := by decide +kernel
theorem dJ2_length_9d52b_0 : decode cJ2_length_9d52b 0 = .ok (.aload_n 0, 1) := by decide +kernel
theorem dJ2_length_9d52b_1 : decode cJ2_length_9d52b 1 = .ok (.arraylength, 1) := by decide +kernel
theorem dJ2_length_9d52b_2 : decode cJ2_length_9d52b 2 = .ok (.iconst 1, 1) := by decide +kernel
theorem dJ2_length_9d52b_3 : decode cJ2_length_9d52b 3 = .ok (.ishr, 1) := by decide +kernel
theorem dJ2_length_9d52b_4 : decode cJ2_length_9d52b 4 = .ok (.ireturn, 1) := by decide +kernel
set_option maxRecDepth 20000 in
theorem ggJ2_charAt_3b067_J2_checkIndex_2214a : GoodIn wsJ2_charAt_3b067 wsJ2_checkIndex_2214a := goodIn_r _ [4, 5, 6, 3, 7, 8, 9, 10, 11, 12, 13, 14, 15, 16] (by decide +kernel) (by decide +kernel)
set_option maxRecDepth 20000 in
theorem gJ2_charAt_3b067_J2_checkIndex_2214a : GoodIn wsJ2_charAt_3b067 (va_wsS RJ2 67 yJ2_checkIndex_2214a wsJ2_checkIndex_2214a) := goodIn_app (goodIn_of _ (by decide +kernel)) ggJ2_charAt_3b067_J2_checkIndex_2214a
set_option maxRecDepth 20000 in
theorem ggJ2_charAt_3b067_J2_getChar_3b067 : GoodIn wsJ2_charAt_3b067 wsJ2_getChar_3b067 := goodIn_r _ [19, 20, 21, 22, 5, 6, 3, 7] (by decide +kernel) (by decide +kernel)
set_option maxRecDepth 20000 in
theorem gJ2_charAt_3b067_J2_getChar_3b067 : GoodIn wsJ2_charAt_3b067 (va_wsS RJ2 71 yJ2_getChar_3b067 wsJ2_getChar_3b067) := goodIn_app (goodIn_of _ (by decide +kernel)) ggJ2_charAt_3b067_J2_getChar_3b067
theorem dJ2_charAt_3b067_0 : decode cJ2_charAt_3b067 0 = .ok (.iload_n 1, 1) := by decide +kernel
theorem dJ2_charAt_3b067_1 : decode cJ2_charAt_3b067 1 = .ok (.aload_n 0, 1) := by decide +kernel
theorem dJ2_charAt_3b067_2 : decode cJ2_charAt_3b067 2 = .ok (.invokestatic 67, 3) := by decide +kernel
theorem dJ2_charAt_3b067_5 : decode cJ2_charAt_3b067 5 = .ok (.aload_n 0, 1) := by decide +kernel
theorem dJ2_charAt_3b067_6 : decode cJ2_charAt_3b067 6 = .ok (.iload_n 1, 1) := by decide +kernel
theorem dJ2_charAt_3b067_7 : decode cJ2_charAt_3b067 7 = .ok (.invokestatic 71, 3) := by decide +kernel
theorem dJ2_charAt_3b067_10 : decode cJ2_charAt_3b067 10 = .ok (.ireturn, 1) := by decide +kernel
set_option maxRecDepth 20000 in
theorem ggJ2_checkIndex_2214a_J2_length_9d52b : GoodIn wsJ2_checkIndex_2214a wsJ2_length_9d52b := goodIn_r _ [4] (by decide +kernel) (by decide +kernel)
set_option maxRecDepth 20000 in
theorem gJ2_checkIndex_2214a_J2_length_9d52b : GoodIn wsJ2_checkIndex_2214a (va_wsS RJ2 48 yJ2_length_9d52b wsJ2_length_9d52b) := goodIn_app (goodIn_of _ (by decide +kernel)) ggJ2_checkIndex_2214a_J2_length_9d52b
set_option maxRecDepth 20000 in
theorem ggJ2_checkIndex_2214a_J0_checkIndex_df160 : GoodIn wsJ2_checkIndex_2214a wsJ0_checkIndex_df160 := goodIn_r _ [8, 9, 10, 11, 12, 13] (by decide +kernel) (by decide +kernel)
set_option maxRecDepth 20000 in
theorem gJ2_checkIndex_2214a_J0_checkIndex_df160 : GoodIn wsJ2_checkIndex_2214a (va_wsS RJ2 414 yJ0_checkIndex_df160 wsJ0_checkIndex_df160) := goodIn_app (goodIn_of _ (by decide +kernel)) ggJ2_checkIndex_2214a_J0_checkIndex_df160
theorem dJ2_checkIndex_2214a_0 : decode cJ2_checkIndex_2214a 0 = .ok (.iload_n 0, 1) := by decide +kernel
theorem dJ2_checkIndex_2214a_1 : decode cJ2_checkIndex_2214a 1 = .ok (.aload_n 1, 1) := by decide +kernel
theorem dJ2_checkIndex_2214a_2 : decode cJ2_checkIndex_2214a 2 = .ok (.invokestatic 48, 3) := by decide +kernel
theorem dJ2_checkIndex_2214a_5 : decode cJ2_checkIndex_2214a 5 = .ok (.invokestatic 414, 3) := by decide +kernel
theorem dJ2_checkIndex_2214a_8 : decode cJ2_checkIndex_2214a 8 = .ok (.return_, 1) := by decide +kernel
theorem dJ3_checkIndex_8e157_0 : decode cJ3_checkIndex_8e157 0 = .ok (.iload_n 0, 1) := by decide +kernel
theorem dJ3_checkIndex_8e157_1 : decode cJ3_checkIndex_8e157 1 = .ok (.ifCond .lt 8, 3) := by decide +kernel
theorem dJ3_checkIndex_8e157_4 : decode cJ3_checkIndex_8e157 4 = .ok (.iload_n 0, 1) := by decide +kernel
theorem dJ3_checkIndex_8e157_5 : decode cJ3_checkIndex_8e157 5 = .ok (.iload_n 1, 1) := by decide +kernel
theorem dJ3_checkIndex_8e157_6 : decode cJ3_checkIndex_8e157 6 = .ok (.if_icmp .lt 10, 3) := by decide +kernel
theorem dJ3_checkIndex_8e157_9 : decode cJ3_checkIndex_8e157 9 = .ok (.aload_n 2, 1) := by decide +kernel
theorem dJ3_checkIndex_8e157_10 : decode cJ3_checkIndex_8e157 10 = .ok (.iload_n 0, 1) := by decide +kernel
theorem dJ3_checkIndex_8e157_11 : decode cJ3_checkIndex_8e157 11 = .ok (.iload_n 1, 1) := by decide +kernel
theorem dJ3_checkIndex_8e157_12 : decode cJ3_checkIndex_8e157 12 = .ok (.invokestatic 95, 3) := by decide +kernel
theorem dJ3_checkIndex_8e157_15 : decode cJ3_checkIndex_8e157 15 = .ok (.athrow, 1) := by decide +kernel
theorem dJ3_checkIndex_8e157_16 : decode cJ3_checkIndex_8e157 16 = .ok (.iload_n 0, 1) := by decide +kernel
theorem dJ3_checkIndex_8e157_17 : decode cJ3_checkIndex_8e157 17 = .ok (.ireturn, 1) := by decide +kernel
