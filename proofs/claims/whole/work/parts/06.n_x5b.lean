theorem dX5_print_39 : decode cX5_print 39 = .ok (.aload_n 0, 1) := by decide +kernel
theorem dX5_print_40 : decode cX5_print 40 = .ok (.getfield 26, 3) := by decide +kernel
theorem dX5_print_43 : decode cX5_print 43 = .ok (.getfield 137, 3) := by decide +kernel
theorem dX5_print_46 : decode cX5_print 46 = .ok (.ireturn, 1) := by decide +kernel
theorem dX5_out_0 : decode cX5_out 0 = .ok (.iload_n 1, 1) := by decide +kernel
theorem dX5_out_1 : decode cX5_out 1 = .ok (.ifCond .lt 26, 3) := by decide +kernel
theorem dX5_out_4 : decode cX5_out 4 = .ok (.iload_n 1, 1) := by decide +kernel
theorem dX5_out_5 : decode cX5_out 5 = .ok (.aload_n 0, 1) := by decide +kernel
theorem dX5_out_6 : decode cX5_out 6 = .ok (.getfield 26, 3) := by decide +kernel
theorem dX5_out_9 : decode cX5_out 9 = .ok (.getfield 137, 3) := by decide +kernel
theorem dX5_out_12 : decode cX5_out 12 = .ok (.if_icmp .ge 15, 3) := by decide +kernel
theorem dX5_out_15 : decode cX5_out 15 = .ok (.aload_n 0, 1) := by decide +kernel
theorem dX5_out_16 : decode cX5_out 16 = .ok (.getfield 26, 3) := by decide +kernel
theorem dX5_out_19 : decode cX5_out 19 = .ok (.getfield 138, 3) := by decide +kernel
theorem dX5_out_22 : decode cX5_out 22 = .ok (.iload_n 1, 1) := by decide +kernel
theorem dX5_out_23 : decode cX5_out 23 = .ok (.baload, 1) := by decide +kernel
theorem dX5_out_24 : decode cX5_out 24 = .ok (.goto 4, 3) := by decide +kernel
theorem dX5_out_27 : decode cX5_out 27 = .ok (.iconst (-1), 1) := by decide +kernel
theorem dX5_out_28 : decode cX5_out 28 = .ok (.ireturn, 1) := by decide +kernel
set_option maxRecDepth 20000 in
theorem ggX5_plan_X5_isNumber : GoodIn wsX5_plan wsX5_isNumber := goodIn_r _ [8, 9, 34, 35, 36, 37, 38, 39] (by decide +kernel) (by decide +kernel)
set_option maxRecDepth 20000 in
theorem gX5_plan_X5_isNumber : GoodIn wsX5_plan (wsV RX5 63 RX5 yX5_isNumber wsX5_isNumber) := goodIn_app (goodIn_of _ (by decide +kernel)) ggX5_plan_X5_isNumber
set_option maxRecDepth 20000 in
theorem ggX5_plan_X2_isNothing : GoodIn wsX5_plan wsX2_isNothing := goodIn_r _ [14, 15, 49, 50, 51, 52] (by decide +kernel) (by decide +kernel)
set_option maxRecDepth 20000 in
theorem gX5_plan_X2_isNothing : GoodIn wsX5_plan (wsV RX5 67 RX2 yX2_isNothing wsX2_isNothing) := goodIn_app (goodIn_of _ (by decide +kernel)) ggX5_plan_X2_isNothing
set_option maxRecDepth 20000 in
theorem ggX5_plan_X1_begin : GoodIn wsX5_plan wsX1_begin := goodIn_r _ [20, 21, 22, 23, 24, 25, 26, 13, 27, 15, 28, 29, 30, 31, 32, 33, 40, 41, 42, 43, 44, 45, 46, 47, 48, 49, 50, 51, 52] (by decide +kernel) (by decide +kernel)
set_option maxRecDepth 20000 in
theorem gX5_plan_X1_begin : GoodIn wsX5_plan (wsV RX5 145 RX1 yX1_begin wsX1_begin) := goodIn_app (goodIn_of _ (by decide +kernel)) ggX5_plan_X1_begin
theorem dX5_plan_0 : decode cX5_plan 0 = .ok (.aload_n 0, 1) := by decide +kernel
theorem dX5_plan_1 : decode cX5_plan 1 = .ok (.iload_n 1, 1) := by decide +kernel
theorem dX5_plan_2 : decode cX5_plan 2 = .ok (.invokevirtual 63, 3) := by decide +kernel
theorem dX5_plan_5 : decode cX5_plan 5 = .ok (.ifCond .ne 6, 3) := by decide +kernel
theorem dX5_plan_8 : decode cX5_plan 8 = .ok (.bipush (-2), 2) := by decide +kernel
theorem dX5_plan_10 : decode cX5_plan 10 = .ok (.ireturn, 1) := by decide +kernel
theorem dX5_plan_11 : decode cX5_plan 11 = .ok (.aload_n 0, 1) := by decide +kernel
theorem dX5_plan_12 : decode cX5_plan 12 = .ok (.getfield 11, 3) := by decide +kernel
theorem dX5_plan_15 : decode cX5_plan 15 = .ok (.iload_n 1, 1) := by decide +kernel
theorem dX5_plan_16 : decode cX5_plan 16 = .ok (.aaload, 1) := by decide +kernel
theorem dX5_plan_17 : decode cX5_plan 17 = .ok (.invokevirtual 67, 3) := by decide +kernel
theorem dX5_plan_20 : decode cX5_plan 20 = .ok (.ifCond .eq 6, 3) := by decide +kernel
theorem dX5_plan_23 : decode cX5_plan 23 = .ok (.bipush (-11), 2) := by decide +kernel
theorem dX5_plan_25 : decode cX5_plan 25 = .ok (.ireturn, 1) := by decide +kernel
theorem dX5_plan_26 : decode cX5_plan 26 = .ok (.aload_n 0, 1) := by decide +kernel
theorem dX5_plan_27 : decode cX5_plan 27 = .ok (.getfield 33, 3) := by decide +kernel
theorem dX5_plan_30 : decode cX5_plan 30 = .ok (.getfield 142, 3) := by decide +kernel
theorem dX5_plan_33 : decode cX5_plan 33 = .ok (.istore_n 2, 1) := by decide +kernel
theorem dX5_plan_34 : decode cX5_plan 34 = .ok (.aload_n 0, 1) := by decide +kernel
theorem dX5_plan_35 : decode cX5_plan 35 = .ok (.getfield 33, 3) := by decide +kernel
theorem dX5_plan_38 : decode cX5_plan 38 = .ok (.aload_n 0, 1) := by decide +kernel
theorem dX5_plan_39 : decode cX5_plan 39 = .ok (.getfield 11, 3) := by decide +kernel
theorem dX5_plan_42 : decode cX5_plan 42 = .ok (.iload_n 1, 1) := by decide +kernel
theorem dX5_plan_43 : decode cX5_plan 43 = .ok (.aaload, 1) := by decide +kernel
theorem dX5_plan_44 : decode cX5_plan 44 = .ok (.invokevirtual 145, 3) := by decide +kernel
theorem dX5_plan_47 : decode cX5_plan 47 = .ok (.iload_n 2, 1) := by decide +kernel
theorem dX5_plan_48 : decode cX5_plan 48 = .ok (.ireturn, 1) := by decide +kernel
set_option maxRecDepth 20000 in
theorem ggX5_rule_X5_isNumber : GoodIn wsX5_rule wsX5_isNumber := goodIn_r _ [9, 10, 47, 48, 49, 50, 51, 52] (by decide +kernel) (by decide +kernel)
set_option maxRecDepth 20000 in
theorem gX5_rule_X5_isNumber : GoodIn wsX5_rule (wsV RX5 63 RX5 yX5_isNumber wsX5_isNumber) := goodIn_app (goodIn_of _ (by decide +kernel)) ggX5_rule_X5_isNumber
set_option maxRecDepth 20000 in
theorem ggX5_rule_X5_failureOfPair : GoodIn wsX5_rule wsX5_failureOfPair := goodIn_r _ [13, 14, 15, 16, 17, 18, 19, 20, 21, 22, 23, 24, 25, 62, 63, 64, 65] (by decide +kernel) (by decide +kernel)
set_option maxRecDepth 20000 in
theorem gX5_rule_X5_failureOfPair : GoodIn wsX5_rule (va_wsS RX5 103 yX5_failureOfPair wsX5_failureOfPair) := goodIn_app (goodIn_of _ (by decide +kernel)) ggX5_rule_X5_failureOfPair
set_option maxRecDepth 20000 in
theorem ggX5_rule_X1_addRule : GoodIn wsX5_rule wsX1_addRule := goodIn_r _ [30, 31, 32, 33, 34, 35, 36, 17, 37, 25, 38, 39, 40, 41, 42, 19, 24, 43, 44, 45, 46, 53, 54, 55, 56, 57, 58, 59, 60, 61, 62, 63, 64, 65] (by decide +kernel) (by decide +kernel)
set_option maxRecDepth 20000 in
theorem gX5_rule_X1_addRule : GoodIn wsX5_rule (wsV RX5 152 RX1 yX1_addRule wsX1_addRule) := goodIn_app (goodIn_of _ (by decide +kernel)) ggX5_rule_X1_addRule
theorem dX5_rule_0 : decode cX5_rule 0 = .ok (.aload_n 0, 1) := by decide +kernel
theorem dX5_rule_1 : decode cX5_rule 1 = .ok (.iload_n 1, 1) := by decide +kernel
theorem dX5_rule_2 : decode cX5_rule 2 = .ok (.invokevirtual 63, 3) := by decide +kernel
theorem dX5_rule_5 : decode cX5_rule 5 = .ok (.ifCond .ne 6, 3) := by decide +kernel
theorem dX5_rule_8 : decode cX5_rule 8 = .ok (.bipush (-2), 2) := by decide +kernel
theorem dX5_rule_10 : decode cX5_rule 10 = .ok (.ireturn, 1) := by decide +kernel
theorem dX5_rule_11 : decode cX5_rule 11 = .ok (.aload_n 0, 1) := by decide +kernel
theorem dX5_rule_12 : decode cX5_rule 12 = .ok (.getfield 33, 3) := by decide +kernel
theorem dX5_rule_15 : decode cX5_rule 15 = .ok (.getfield 142, 3) := by decide +kernel
theorem dX5_rule_18 : decode cX5_rule 18 = .ok (.bipush 12, 2) := by decide +kernel
theorem dX5_rule_20 : decode cX5_rule 20 = .ok (.if_icmp .lt 6, 3) := by decide +kernel
theorem dX5_rule_23 : decode cX5_rule 23 = .ok (.bipush (-4), 2) := by decide +kernel
theorem dX5_rule_25 : decode cX5_rule 25 = .ok (.ireturn, 1) := by decide +kernel
theorem dX5_rule_26 : decode cX5_rule 26 = .ok (.aload_n 0, 1) := by decide +kernel
theorem dX5_rule_27 : decode cX5_rule 27 = .ok (.getfield 11, 3) := by decide +kernel
theorem dX5_rule_30 : decode cX5_rule 30 = .ok (.iload_n 1, 1) := by decide +kernel
theorem dX5_rule_31 : decode cX5_rule 31 = .ok (.aaload, 1) := by decide +kernel
theorem dX5_rule_32 : decode cX5_rule 32 = .ok (.aload_n 0, 1) := by decide +kernel
theorem dX5_rule_33 : decode cX5_rule 33 = .ok (.getfield 33, 3) := by decide +kernel
theorem dX5_rule_36 : decode cX5_rule 36 = .ok (.getfield 148, 3) := by decide +kernel
theorem dX5_rule_39 : decode cX5_rule 39 = .ok (.invokestatic 103, 3) := by decide +kernel
theorem dX5_rule_42 : decode cX5_rule 42 = .ok (.istore_n 2, 1) := by decide +kernel
theorem dX5_rule_43 : decode cX5_rule 43 = .ok (.iload_n 2, 1) := by decide +kernel
theorem dX5_rule_44 : decode cX5_rule 44 = .ok (.ifCond .eq 5, 3) := by decide +kernel
theorem dX5_rule_47 : decode cX5_rule 47 = .ok (.iload_n 2, 1) := by decide +kernel
theorem dX5_rule_48 : decode cX5_rule 48 = .ok (.ireturn, 1) := by decide +kernel
theorem dX5_rule_49 : decode cX5_rule 49 = .ok (.aload_n 0, 1) := by decide +kernel
theorem dX5_rule_50 : decode cX5_rule 50 = .ok (.getfield 33, 3) := by decide +kernel
theorem dX5_rule_53 : decode cX5_rule 53 = .ok (.aload_n 0, 1) := by decide +kernel
theorem dX5_rule_54 : decode cX5_rule 54 = .ok (.getfield 11, 3) := by decide +kernel
theorem dX5_rule_57 : decode cX5_rule 57 = .ok (.iload_n 1, 1) := by decide +kernel
theorem dX5_rule_58 : decode cX5_rule 58 = .ok (.aaload, 1) := by decide +kernel
theorem dX5_rule_59 : decode cX5_rule 59 = .ok (.invokevirtual 152, 3) := by decide +kernel
theorem dX5_rule_62 : decode cX5_rule 62 = .ok (.ireturn, 1) := by decide +kernel
set_option maxRecDepth 20000 in
theorem ggX5_count_X1_hasRule : GoodIn wsX5_count wsX1_hasRule := goodIn_r _ [7, 8, 65, 66, 67, 68, 69, 70, 71, 72, 73] (by decide +kernel) (by decide +kernel)
set_option maxRecDepth 20000 in
theorem gX5_count_X1_hasRule : GoodIn wsX5_count (wsV RX5 155 RX1 yX1_hasRule wsX1_hasRule) := goodIn_app (goodIn_of _ (by decide +kernel)) ggX5_count_X1_hasRule
set_option maxRecDepth 20000 in
theorem ggX5_count_X5_isCount : GoodIn wsX5_count wsX5_isCount := goodIn_r _ [12, 13] (by decide +kernel) (by decide +kernel)
set_option maxRecDepth 20000 in
theorem gX5_count_X5_isCount : GoodIn wsX5_count (va_wsS RX5 158 yX5_isCount wsX5_isCount) := goodIn_app (goodIn_of _ (by decide +kernel)) ggX5_count_X5_isCount
set_option maxRecDepth 20000 in
theorem ggX5_count_X1_changeCount : GoodIn wsX5_count wsX1_changeCount := goodIn_r _ [17, 18, 19, 20, 21, 6, 22, 23, 24, 25, 26, 27, 28, 8, 29, 30, 31, 32, 33, 34, 35, 36, 37, 38, 39, 40, 41, 42, 43, 44, 45, 46, 47, 48, 49, 50, 51, 52, 53, 54, 55, 56, 57, 58, 65, 66, 67, 68, 69, 70, 71, 72, 73, 74, 75, 76, 77, 78, 79] (by decide +kernel) (by decide +kernel)
set_option maxRecDepth 20000 in
theorem gX5_count_X1_changeCount : GoodIn wsX5_count (wsV RX5 165 RX1 yX1_changeCount wsX1_changeCount) := goodIn_app (goodIn_of _ (by decide +kernel)) ggX5_count_X1_changeCount
theorem dX5_count_0 : decode cX5_count 0 = .ok (.aload_n 0, 1) := by decide +kernel
theorem dX5_count_1 : decode cX5_count 1 = .ok (.getfield 33, 3) := by decide +kernel
theorem dX5_count_4 : decode cX5_count 4 = .ok (.iload_n 1, 1) := by decide +kernel
theorem dX5_count_5 : decode cX5_count 5 = .ok (.invokevirtual 155, 3) := by decide +kernel
theorem dX5_count_8 : decode cX5_count 8 = .ok (.ifCond .ne 6, 3) := by decide +kernel
theorem dX5_count_11 : decode cX5_count 11 = .ok (.bipush (-2), 2) := by decide +kernel
theorem dX5_count_13 : decode cX5_count 13 = .ok (.ireturn, 1) := by decide +kernel
theorem dX5_count_14 : decode cX5_count 14 = .ok (.iload_n 2, 1) := by decide +kernel
theorem dX5_count_15 : decode cX5_count 15 = .ok (.invokestatic 158, 3) := by decide +kernel
theorem dX5_count_18 : decode cX5_count 18 = .ok (.ifCond .ne 6, 3) := by decide +kernel
theorem dX5_count_21 : decode cX5_count 21 = .ok (.bipush (-3), 2) := by decide +kernel
theorem dX5_count_23 : decode cX5_count 23 = .ok (.ireturn, 1) := by decide +kernel
theorem dX5_count_24 : decode cX5_count 24 = .ok (.aload_n 0, 1) := by decide +kernel
theorem dX5_count_25 : decode cX5_count 25 = .ok (.getfield 33, 3) := by decide +kernel
theorem dX5_count_28 : decode cX5_count 28 = .ok (.getfield 161, 3) := by decide +kernel
theorem dX5_count_31 : decode cX5_count 31 = .ok (.iload_n 1, 1) := by decide +kernel
theorem dX5_count_32 : decode cX5_count 32 = .ok (.iaload, 1) := by decide +kernel
theorem dX5_count_33 : decode cX5_count 33 = .ok (.istore_n 3, 1) := by decide +kernel
theorem dX5_count_34 : decode cX5_count 34 = .ok (.aload_n 0, 1) := by decide +kernel
theorem dX5_count_35 : decode cX5_count 35 = .ok (.getfield 33, 3) := by decide +kernel
theorem dX5_count_38 : decode cX5_count 38 = .ok (.iload_n 1, 1) := by decide +kernel
theorem dX5_count_39 : decode cX5_count 39 = .ok (.iload_n 2, 1) := by decide +kernel
theorem dX5_count_40 : decode cX5_count 40 = .ok (.invokevirtual 165, 3) := by decide +kernel
theorem dX5_count_43 : decode cX5_count 43 = .ok (.ifCond .eq 7, 3) := by decide +kernel
theorem dX5_count_46 : decode cX5_count 46 = .ok (.iload_n 3, 1) := by decide +kernel
theorem dX5_count_47 : decode cX5_count 47 = .ok (.goto 5, 3) := by decide +kernel
theorem dX5_count_50 : decode cX5_count 50 = .ok (.bipush (-16), 2) := by decide +kernel
theorem dX5_count_52 : decode cX5_count 52 = .ok (.ireturn, 1) := by decide +kernel
set_option maxRecDepth 20000 in
theorem ggX5_weight_X1_hasRule : GoodIn wsX5_weight wsX1_hasRule := goodIn_r _ [8, 9, 100, 101, 102, 103, 104, 105, 106, 107, 108] (by decide +kernel) (by decide +kernel)
set_option maxRecDepth 20000 in
theorem gX5_weight_X1_hasRule : GoodIn wsX5_weight (wsV RX5 155 RX1 yX1_hasRule wsX1_hasRule) := goodIn_app (goodIn_of _ (by decide +kernel)) ggX5_weight_X1_hasRule
set_option maxRecDepth 20000 in
theorem ggX5_weight_X5_isNumber : GoodIn wsX5_weight wsX5_isNumber := goodIn_r _ [14, 15, 94, 95, 96, 97, 98, 99] (by decide +kernel) (by decide +kernel)
set_option maxRecDepth 20000 in
theorem gX5_weight_X5_isNumber : GoodIn wsX5_weight (wsV RX5 63 RX5 yX5_isNumber wsX5_isNumber) := goodIn_app (goodIn_of _ (by decide +kernel)) ggX5_weight_X5_isNumber
set_option maxRecDepth 20000 in
theorem ggX5_weight_X5_failureOfPair : GoodIn wsX5_weight wsX5_failureOfPair := goodIn_r _ [18, 19, 20, 21, 22, 23, 24, 25, 26, 27, 28, 29, 30, 109, 110, 111, 112] (by decide +kernel) (by decide +kernel)
set_option maxRecDepth 20000 in
theorem gX5_weight_X5_failureOfPair : GoodIn wsX5_weight (va_wsS RX5 103 yX5_failureOfPair wsX5_failureOfPair) := goodIn_app (goodIn_of _ (by decide +kernel)) ggX5_weight_X5_failureOfPair
set_option maxRecDepth 20000 in
theorem ggX5_weight_X1_changeWeight : GoodIn wsX5_weight wsX1_changeWeight := goodIn_r _ [34, 35, 36, 37, 38, 22, 39, 30, 40, 41, 42, 43, 44, 24, 29, 45, 46, 47, 48, 49, 50, 51, 7, 52, 53, 54, 55, 56, 57, 58, 59, 60, 61, 62, 63, 9, 64, 65, 66, 67, 68, 69, 70, 71, 72, 73, 74, 75, 76, 77, 78, 79, 80, 81, 82, 83, 84, 85, 86, 87, 88, 89, 90, 91, 92, 93, 100, 101, 102, 103, 104, 105, 106, 107, 108, 109, 110, 111, 112, 113, 114] (by decide +kernel) (by decide +kernel)
set_option maxRecDepth 20000 in
theorem gX5_weight_X1_changeWeight : GoodIn wsX5_weight (wsV RX5 169 RX1 yX1_changeWeight wsX1_changeWeight) := goodIn_app (goodIn_of _ (by decide +kernel)) ggX5_weight_X1_changeWeight
theorem dX5_weight_0 : decode cX5_weight 0 = .ok (.aload_n 0, 1) := by decide +kernel
theorem dX5_weight_1 : decode cX5_weight 1 = .ok (.getfield 33, 3) := by decide +kernel
theorem dX5_weight_4 : decode cX5_weight 4 = .ok (.iload_n 1, 1) := by decide +kernel
theorem dX5_weight_5 : decode cX5_weight 5 = .ok (.invokevirtual 155, 3) := by decide +kernel
theorem dX5_weight_8 : decode cX5_weight 8 = .ok (.ifCond .eq 11, 3) := by decide +kernel
theorem dX5_weight_11 : decode cX5_weight 11 = .ok (.aload_n 0, 1) := by decide +kernel
theorem dX5_weight_12 : decode cX5_weight 12 = .ok (.iload_n 2, 1) := by decide +kernel
theorem dX5_weight_13 : decode cX5_weight 13 = .ok (.invokevirtual 63, 3) := by decide +kernel
theorem dX5_weight_16 : decode cX5_weight 16 = .ok (.ifCond .ne 6, 3) := by decide +kernel
theorem dX5_weight_19 : decode cX5_weight 19 = .ok (.bipush (-2), 2) := by decide +kernel
theorem dX5_weight_21 : decode cX5_weight 21 = .ok (.ireturn, 1) := by decide +kernel
theorem dX5_weight_22 : decode cX5_weight 22 = .ok (.aload_n 0, 1) := by decide +kernel
theorem dX5_weight_23 : decode cX5_weight 23 = .ok (.getfield 11, 3) := by decide +kernel
theorem dX5_weight_26 : decode cX5_weight 26 = .ok (.iload_n 2, 1) := by decide +kernel
theorem dX5_weight_27 : decode cX5_weight 27 = .ok (.aaload, 1) := by decide +kernel
theorem dX5_weight_28 : decode cX5_weight 28 = .ok (.aload_n 0, 1) := by decide +kernel
theorem dX5_weight_29 : decode cX5_weight 29 = .ok (.getfield 33, 3) := by decide +kernel
theorem dX5_weight_32 : decode cX5_weight 32 = .ok (.getfield 148, 3) := by decide +kernel
theorem dX5_weight_35 : decode cX5_weight 35 = .ok (.invokestatic 103, 3) := by decide +kernel
theorem dX5_weight_38 : decode cX5_weight 38 = .ok (.istore_n 3, 1) := by decide +kernel
theorem dX5_weight_39 : decode cX5_weight 39 = .ok (.iload_n 3, 1) := by decide +kernel
theorem dX5_weight_40 : decode cX5_weight 40 = .ok (.ifCond .eq 5, 3) := by decide +kernel
theorem dX5_weight_43 : decode cX5_weight 43 = .ok (.iload_n 3, 1) := by decide +kernel
theorem dX5_weight_44 : decode cX5_weight 44 = .ok (.ireturn, 1) := by decide +kernel
theorem dX5_weight_45 : decode cX5_weight 45 = .ok (.aload_n 0, 1) := by decide +kernel
theorem dX5_weight_46 : decode cX5_weight 46 = .ok (.getfield 33, 3) := by decide +kernel
theorem dX5_weight_49 : decode cX5_weight 49 = .ok (.iload_n 1, 1) := by decide +kernel
theorem dX5_weight_50 : decode cX5_weight 50 = .ok (.aload_n 0, 1) := by decide +kernel
theorem dX5_weight_51 : decode cX5_weight 51 = .ok (.getfield 11, 3) := by decide +kernel
theorem dX5_weight_54 : decode cX5_weight 54 = .ok (.iload_n 2, 1) := by decide +kernel
theorem dX5_weight_55 : decode cX5_weight 55 = .ok (.aaload, 1) := by decide +kernel
theorem dX5_weight_56 : decode cX5_weight 56 = .ok (.invokevirtual 169, 3) := by decide +kernel
theorem dX5_weight_59 : decode cX5_weight 59 = .ok (.ifCond .eq 7, 3) := by decide +kernel
theorem dX5_weight_62 : decode cX5_weight 62 = .ok (.iconst 1, 1) := by decide +kernel
theorem dX5_weight_63 : decode cX5_weight 63 = .ok (.goto 5, 3) := by decide +kernel
theorem dX5_weight_66 : decode cX5_weight 66 = .ok (.bipush (-16), 2) := by decide +kernel
theorem dX5_weight_68 : decode cX5_weight 68 = .ok (.ireturn, 1) := by decide +kernel
set_option maxRecDepth 20000 in
theorem ggX5_total_X1_hasRule : GoodIn wsX5_total wsX1_hasRule := goodIn_r _ [8, 9, 76, 77, 78, 79, 80, 81, 82, 83, 84] (by decide +kernel) (by decide +kernel)
set_option maxRecDepth 20000 in
theorem gX5_total_X1_hasRule : GoodIn wsX5_total (wsV RX5 155 RX1 yX1_hasRule wsX1_hasRule) := goodIn_app (goodIn_of _ (by decide +kernel)) ggX5_total_X1_hasRule
set_option maxRecDepth 20000 in
theorem ggX5_total_X5_isFull : GoodIn wsX5_total wsX5_isFull := goodIn_r _ [14, 3, 70, 71, 72, 73, 74, 75] (by decide +kernel) (by decide +kernel)
set_option maxRecDepth 20000 in
theorem gX5_total_X5_isFull : GoodIn wsX5_total (wsV RX5 44 RX5 yX5_isFull wsX5_isFull) := goodIn_app (goodIn_of _ (by decide +kernel)) ggX5_total_X5_isFull
set_option maxRecDepth 20000 in
theorem ggX5_total_X1_sumInto : GoodIn wsX5_total wsX1_sumInto := goodIn_r _ [18, 19, 20, 21, 22, 23, 24, 25, 26, 27, 28, 29, 30, 31, 32, 33, 34, 35, 36, 37, 7, 38, 9, 39, 40, 41, 42, 43, 44, 45, 46, 47, 48, 49, 50, 51, 52, 53, 54, 55, 56, 76, 77, 78, 79, 80, 81, 82, 83, 84, 85, 86, 87, 88, 89, 90] (by decide +kernel) (by decide +kernel)
set_option maxRecDepth 20000 in
theorem gX5_total_X1_sumInto : GoodIn wsX5_total (wsV RX5 173 RX1 yX1_sumInto wsX1_sumInto) := goodIn_app (goodIn_of _ (by decide +kernel)) ggX5_total_X1_sumInto
set_option maxRecDepth 20000 in
theorem ggX5_total_X1_partInto : GoodIn wsX5_total wsX1_partInto := goodIn_r _ [60, 19, 20, 21, 61, 23, 24, 25, 26, 27, 28, 29, 30, 31, 32, 33, 34, 62, 63, 64, 7, 65, 39, 40, 41, 42, 43, 44, 45, 46, 47, 48, 49, 50, 51, 52, 53, 54, 55, 56, 76, 77, 78, 79, 80, 81, 82, 83, 84, 85, 86, 87, 88, 89, 90] (by decide +kernel) (by decide +kernel)
set_option maxRecDepth 20000 in
theorem gX5_total_X1_partInto : GoodIn wsX5_total (wsV RX5 176 RX1 yX1_partInto wsX1_partInto) := goodIn_app (goodIn_of _ (by decide +kernel)) ggX5_total_X1_partInto
set_option maxRecDepth 20000 in
theorem ggX5_total_X5_takeNumber : GoodIn wsX5_total wsX5_takeNumber := goodIn_r _ [69, 3, 70, 71, 72, 73, 74, 75] (by decide +kernel) (by decide +kernel)
set_option maxRecDepth 20000 in
theorem gX5_total_X5_takeNumber : GoodIn wsX5_total (wsV RX5 59 RX5 yX5_takeNumber wsX5_takeNumber) := goodIn_app (goodIn_of _ (by decide +kernel)) ggX5_total_X5_takeNumber
theorem dX5_total_0 : decode cX5_total 0 = .ok (.iload_n 1, 1) := by decide +kernel
theorem dX5_total_1 : decode cX5_total 1 = .ok (.iconst (-1), 1) := by decide +kernel
theorem dX5_total_2 : decode cX5_total 2 = .ok (.if_icmp .eq 17, 3) := by decide +kernel
theorem dX5_total_5 : decode cX5_total 5 = .ok (.aload_n 0, 1) := by decide +kernel
theorem dX5_total_6 : decode cX5_total 6 = .ok (.getfield 33, 3) := by decide +kernel
theorem dX5_total_9 : decode cX5_total 9 = .ok (.iload_n 1, 1) := by decide +kernel
theorem dX5_total_10 : decode cX5_total 10 = .ok (.invokevirtual 155, 3) := by decide +kernel
theorem dX5_total_13 : decode cX5_total 13 = .ok (.ifCond .ne 6, 3) := by decide +kernel
theorem dX5_total_16 : decode cX5_total 16 = .ok (.bipush (-2), 2) := by decide +kernel
theorem dX5_total_18 : decode cX5_total 18 = .ok (.ireturn, 1) := by decide +kernel
theorem dX5_total_19 : decode cX5_total 19 = .ok (.aload_n 0, 1) := by decide +kernel
theorem dX5_total_20 : decode cX5_total 20 = .ok (.invokevirtual 44, 3) := by decide +kernel
theorem dX5_total_23 : decode cX5_total 23 = .ok (.ifCond .eq 6, 3) := by decide +kernel
theorem dX5_total_26 : decode cX5_total 26 = .ok (.bipush (-4), 2) := by decide +kernel
theorem dX5_total_28 : decode cX5_total 28 = .ok (.ireturn, 1) := by decide +kernel
theorem dX5_total_29 : decode cX5_total 29 = .ok (.iload_n 1, 1) := by decide +kernel
theorem dX5_total_30 : decode cX5_total 30 = .ok (.iconst (-1), 1) := by decide +kernel
theorem dX5_total_31 : decode cX5_total 31 = .ok (.if_icmp .ne 22, 3) := by decide +kernel
theorem dX5_total_34 : decode cX5_total 34 = .ok (.aload_n 0, 1) := by decide +kernel
theorem dX5_total_35 : decode cX5_total 35 = .ok (.getfield 33, 3) := by decide +kernel
theorem dX5_total_38 : decode cX5_total 38 = .ok (.aload_n 0, 1) := by decide +kernel
theorem dX5_total_39 : decode cX5_total 39 = .ok (.getfield 11, 3) := by decide +kernel
theorem dX5_total_42 : decode cX5_total 42 = .ok (.aload_n 0, 1) := by decide +kernel
theorem dX5_total_43 : decode cX5_total 43 = .ok (.getfield 48, 3) := by decide +kernel
theorem dX5_total_46 : decode cX5_total 46 = .ok (.aaload, 1) := by decide +kernel
theorem dX5_total_47 : decode cX5_total 47 = .ok (.invokevirtual 173, 3) := by decide +kernel
theorem dX5_total_50 : decode cX5_total 50 = .ok (.goto 20, 3) := by decide +kernel
theorem dX5_total_53 : decode cX5_total 53 = .ok (.aload_n 0, 1) := by decide +kernel
theorem dX5_total_54 : decode cX5_total 54 = .ok (.getfield 33, 3) := by decide +kernel
theorem dX5_total_57 : decode cX5_total 57 = .ok (.iload_n 1, 1) := by decide +kernel
theorem dX5_total_58 : decode cX5_total 58 = .ok (.aload_n 0, 1) := by decide +kernel
theorem dX5_total_59 : decode cX5_total 59 = .ok (.getfield 11, 3) := by decide +kernel
theorem dX5_total_62 : decode cX5_total 62 = .ok (.aload_n 0, 1) := by decide +kernel
theorem dX5_total_63 : decode cX5_total 63 = .ok (.getfield 48, 3) := by decide +kernel
theorem dX5_total_66 : decode cX5_total 66 = .ok (.aaload, 1) := by decide +kernel
theorem dX5_total_67 : decode cX5_total 67 = .ok (.invokevirtual 176, 3) := by decide +kernel
theorem dX5_total_70 : decode cX5_total 70 = .ok (.aload_n 0, 1) := by decide +kernel
theorem dX5_total_71 : decode cX5_total 71 = .ok (.invokevirtual 59, 3) := by decide +kernel
theorem dX5_total_74 : decode cX5_total 74 = .ok (.ireturn, 1) := by decide +kernel
set_option maxRecDepth 20000 in
theorem ggX5_safe_X5_isCount : GoodIn wsX5_safe wsX5_isCount := goodIn_r _ [5, 6] (by decide +kernel) (by decide +kernel)
set_option maxRecDepth 20000 in
theorem gX5_safe_X5_isCount : GoodIn wsX5_safe (va_wsS RX5 158 yX5_isCount wsX5_isCount) := goodIn_app (goodIn_of _ (by decide +kernel)) ggX5_safe_X5_isCount
set_option maxRecDepth 20000 in
theorem ggX5_safe_X1_bears : GoodIn wsX5_safe wsX1_bears := goodIn_r _ [11, 12, 13, 14, 15, 16, 10, 17, 18, 19, 20, 21, 22, 23, 24, 25, 26, 27, 28, 29, 30, 31, 32, 33, 34, 35, 36, 37, 38, 39, 46, 47, 48, 49, 50, 51, 52, 53, 54, 55, 56, 57, 58, 59, 60] (by decide +kernel) (by decide +kernel)
set_option maxRecDepth 20000 in
theorem gX5_safe_X1_bears : GoodIn wsX5_safe (wsV RX5 180 RX1 yX1_bears wsX1_bears) := goodIn_app (goodIn_of _ (by decide +kernel)) ggX5_safe_X1_bears
theorem dX5_safe_0 : decode cX5_safe 0 = .ok (.iload_n 1, 1) := by decide +kernel
theorem dX5_safe_1 : decode cX5_safe 1 = .ok (.invokestatic 158, 3) := by decide +kernel
theorem dX5_safe_4 : decode cX5_safe 4 = .ok (.ifCond .ne 6, 3) := by decide +kernel
theorem dX5_safe_7 : decode cX5_safe 7 = .ok (.bipush (-3), 2) := by decide +kernel
theorem dX5_safe_9 : decode cX5_safe 9 = .ok (.ireturn, 1) := by decide +kernel
theorem dX5_safe_10 : decode cX5_safe 10 = .ok (.aload_n 0, 1) := by decide +kernel
theorem dX5_safe_11 : decode cX5_safe 11 = .ok (.getfield 33, 3) := by decide +kernel
theorem dX5_safe_14 : decode cX5_safe 14 = .ok (.iload_n 1, 1) := by decide +kernel
theorem dX5_safe_15 : decode cX5_safe 15 = .ok (.invokevirtual 180, 3) := by decide +kernel
theorem dX5_safe_18 : decode cX5_safe 18 = .ok (.ifCond .eq 7, 3) := by decide +kernel
theorem dX5_safe_21 : decode cX5_safe 21 = .ok (.iconst 1, 1) := by decide +kernel
theorem dX5_safe_22 : decode cX5_safe 22 = .ok (.goto 4, 3) := by decide +kernel
theorem dX5_safe_25 : decode cX5_safe 25 = .ok (.iconst 0, 1) := by decide +kernel
theorem dX5_safe_26 : decode cX5_safe 26 = .ok (.ireturn, 1) := by decide +kernel
set_option maxRecDepth 20000 in
theorem ggX5_keep_X5_isNumber : GoodIn wsX5_keep wsX5_isNumber := goodIn_r _ [8, 9, 49, 50, 51, 52, 53, 54] (by decide +kernel) (by decide +kernel)
set_option maxRecDepth 20000 in
theorem gX5_keep_X5_isNumber : GoodIn wsX5_keep (wsV RX5 63 RX5 yX5_isNumber wsX5_isNumber) := goodIn_app (goodIn_of _ (by decide +kernel)) ggX5_keep_X5_isNumber
set_option maxRecDepth 20000 in
theorem ggX5_keep_X5_failureOfPair : GoodIn wsX5_keep wsX5_failureOfPair := goodIn_r _ [12, 13, 14, 15, 16, 17, 18, 19, 20, 21, 22, 23, 24, 64, 65, 66, 67] (by decide +kernel) (by decide +kernel)
set_option maxRecDepth 20000 in
theorem gX5_keep_X5_failureOfPair : GoodIn wsX5_keep (va_wsS RX5 103 yX5_failureOfPair wsX5_failureOfPair) := goodIn_app (goodIn_of _ (by decide +kernel)) ggX5_keep_X5_failureOfPair
set_option maxRecDepth 20000 in
theorem ggX5_keep_X1_admit : GoodIn wsX5_keep wsX1_admit := goodIn_r _ [29, 30, 31, 32, 33, 34, 16, 35, 24, 36, 37, 38, 39, 40, 41, 42, 43, 44, 18, 23, 45, 46, 47, 48, 55, 56, 57, 58, 59, 60, 61, 62, 63, 64, 65, 66, 67] (by decide +kernel) (by decide +kernel)
set_option maxRecDepth 20000 in
theorem gX5_keep_X1_admit : GoodIn wsX5_keep (wsV RX5 183 RX1 yX1_admit wsX1_admit) := goodIn_app (goodIn_of _ (by decide +kernel)) ggX5_keep_X1_admit
theorem dX5_keep_0 : decode cX5_keep 0 = .ok (.aload_n 0, 1) := by decide +kernel
theorem dX5_keep_1 : decode cX5_keep 1 = .ok (.iload_n 1, 1) := by decide +kernel
theorem dX5_keep_2 : decode cX5_keep 2 = .ok (.invokevirtual 63, 3) := by decide +kernel
theorem dX5_keep_5 : decode cX5_keep 5 = .ok (.ifCond .ne 6, 3) := by decide +kernel
theorem dX5_keep_8 : decode cX5_keep 8 = .ok (.bipush (-2), 2) := by decide +kernel
theorem dX5_keep_10 : decode cX5_keep 10 = .ok (.ireturn, 1) := by decide +kernel
theorem dX5_keep_11 : decode cX5_keep 11 = .ok (.aload_n 0, 1) := by decide +kernel
theorem dX5_keep_12 : decode cX5_keep 12 = .ok (.getfield 11, 3) := by decide +kernel
theorem dX5_keep_15 : decode cX5_keep 15 = .ok (.iload_n 1, 1) := by decide +kernel
theorem dX5_keep_16 : decode cX5_keep 16 = .ok (.aaload, 1) := by decide +kernel
theorem dX5_keep_17 : decode cX5_keep 17 = .ok (.aload_n 0, 1) := by decide +kernel
theorem dX5_keep_18 : decode cX5_keep 18 = .ok (.getfield 33, 3) := by decide +kernel
theorem dX5_keep_21 : decode cX5_keep 21 = .ok (.getfield 148, 3) := by decide +kernel
theorem dX5_keep_24 : decode cX5_keep 24 = .ok (.invokestatic 103, 3) := by decide +kernel
theorem dX5_keep_27 : decode cX5_keep 27 = .ok (.istore_n 2, 1) := by decide +kernel
theorem dX5_keep_28 : decode cX5_keep 28 = .ok (.iload_n 2, 1) := by decide +kernel
theorem dX5_keep_29 : decode cX5_keep 29 = .ok (.ifCond .eq 5, 3) := by decide +kernel
theorem dX5_keep_32 : decode cX5_keep 32 = .ok (.iload_n 2, 1) := by decide +kernel
theorem dX5_keep_33 : decode cX5_keep 33 = .ok (.ireturn, 1) := by decide +kernel
theorem dX5_keep_34 : decode cX5_keep 34 = .ok (.aload_n 0, 1) := by decide +kernel
theorem dX5_keep_35 : decode cX5_keep 35 = .ok (.getfield 33, 3) := by decide +kernel
theorem dX5_keep_38 : decode cX5_keep 38 = .ok (.aload_n 0, 1) := by decide +kernel
theorem dX5_keep_39 : decode cX5_keep 39 = .ok (.getfield 11, 3) := by decide +kernel
theorem dX5_keep_42 : decode cX5_keep 42 = .ok (.iload_n 1, 1) := by decide +kernel
theorem dX5_keep_43 : decode cX5_keep 43 = .ok (.aaload, 1) := by decide +kernel
theorem dX5_keep_44 : decode cX5_keep 44 = .ok (.invokevirtual 183, 3) := by decide +kernel
theorem dX5_keep_47 : decode cX5_keep 47 = .ok (.ireturn, 1) := by decide +kernel
set_option maxRecDepth 20000 in
theorem ggX5_kept_X5_isFull : GoodIn wsX5_kept wsX5_isFull := goodIn_r _ [10, 4, 32, 33, 34, 35, 36, 37] (by decide +kernel) (by decide +kernel)
set_option maxRecDepth 20000 in
theorem gX5_kept_X5_isFull : GoodIn wsX5_kept (wsV RX5 44 RX5 yX5_isFull wsX5_isFull) := goodIn_app (goodIn_of _ (by decide +kernel)) ggX5_kept_X5_isFull
set_option maxRecDepth 20000 in
theorem ggX5_kept_X2_copy : GoodIn wsX5_kept wsX2_copy := goodIn_r _ [15, 16, 17, 18, 19, 20, 14, 21, 22, 23, 24, 25, 26, 27, 47, 48, 49, 50] (by decide +kernel) (by decide +kernel)
set_option maxRecDepth 20000 in
theorem gX5_kept_X2_copy : GoodIn wsX5_kept (wsV RX5 192 RX2 yX2_copy wsX2_copy) := goodIn_app (goodIn_of _ (by decide +kernel)) ggX5_kept_X2_copy
set_option maxRecDepth 20000 in
theorem ggX5_kept_X5_takeNumber : GoodIn wsX5_kept wsX5_takeNumber := goodIn_r _ [31, 4, 32, 33, 34, 35, 36, 37] (by decide +kernel) (by decide +kernel)
set_option maxRecDepth 20000 in
theorem gX5_kept_X5_takeNumber : GoodIn wsX5_kept (wsV RX5 59 RX5 yX5_takeNumber wsX5_takeNumber) := goodIn_app (goodIn_of _ (by decide +kernel)) ggX5_kept_X5_takeNumber
theorem dX5_kept_0 : decode cX5_kept 0 = .ok (.iload_n 1, 1) := by decide +kernel
theorem dX5_kept_1 : decode cX5_kept 1 = .ok (.ifCond .lt 14, 3) := by decide +kernel
theorem dX5_kept_4 : decode cX5_kept 4 = .ok (.iload_n 1, 1) := by decide +kernel
theorem dX5_kept_5 : decode cX5_kept 5 = .ok (.aload_n 0, 1) := by decide +kernel
theorem dX5_kept_6 : decode cX5_kept 6 = .ok (.getfield 33, 3) := by decide +kernel
theorem dX5_kept_9 : decode cX5_kept 9 = .ok (.getfield 186, 3) := by decide +kernel
theorem dX5_kept_12 : decode cX5_kept 12 = .ok (.if_icmp .lt 6, 3) := by decide +kernel
theorem dX5_kept_15 : decode cX5_kept 15 = .ok (.bipush (-2), 2) := by decide +kernel
theorem dX5_kept_17 : decode cX5_kept 17 = .ok (.ireturn, 1) := by decide +kernel
theorem dX5_kept_18 : decode cX5_kept 18 = .ok (.aload_n 0, 1) := by decide +kernel
theorem dX5_kept_19 : decode cX5_kept 19 = .ok (.invokevirtual 44, 3) := by decide +kernel
theorem dX5_kept_22 : decode cX5_kept 22 = .ok (.ifCond .eq 6, 3) := by decide +kernel
theorem dX5_kept_25 : decode cX5_kept 25 = .ok (.bipush (-4), 2) := by decide +kernel
theorem dX5_kept_27 : decode cX5_kept 27 = .ok (.ireturn, 1) := by decide +kernel
theorem dX5_kept_28 : decode cX5_kept 28 = .ok (.aload_n 0, 1) := by decide +kernel
theorem dX5_kept_29 : decode cX5_kept 29 = .ok (.getfield 11, 3) := by decide +kernel
theorem dX5_kept_32 : decode cX5_kept 32 = .ok (.aload_n 0, 1) := by decide +kernel
theorem dX5_kept_33 : decode cX5_kept 33 = .ok (.getfield 48, 3) := by decide +kernel
theorem dX5_kept_36 : decode cX5_kept 36 = .ok (.aaload, 1) := by decide +kernel
theorem dX5_kept_37 : decode cX5_kept 37 = .ok (.aload_n 0, 1) := by decide +kernel
theorem dX5_kept_38 : decode cX5_kept 38 = .ok (.getfield 33, 3) := by decide +kernel
theorem dX5_kept_41 : decode cX5_kept 41 = .ok (.getfield 189, 3) := by decide +kernel
theorem dX5_kept_44 : decode cX5_kept 44 = .ok (.iload_n 1, 1) := by decide +kernel
theorem dX5_kept_45 : decode cX5_kept 45 = .ok (.aaload, 1) := by decide +kernel
theorem dX5_kept_46 : decode cX5_kept 46 = .ok (.invokevirtual 192, 3) := by decide +kernel
theorem dX5_kept_49 : decode cX5_kept 49 = .ok (.aload_n 0, 1) := by decide +kernel
theorem dX5_kept_50 : decode cX5_kept 50 = .ok (.invokevirtual 59, 3) := by decide +kernel
theorem dX5_kept_53 : decode cX5_kept 53 = .ok (.ireturn, 1) := by decide +kernel
theorem dX5_many_0 : decode cX5_many 0 = .ok (.iload_n 1, 1) := by decide +kernel
theorem dX5_many_1 : decode cX5_many 1 = .ok (.tableswitch 72 0 4 #[35, 40, 48, 56, 64], 35) := by decide +kernel
theorem dX5_many_36 : decode cX5_many 36 = .ok (.aload_n 0, 1) := by decide +kernel
theorem dX5_many_37 : decode cX5_many 37 = .ok (.getfield 48, 3) := by decide +kernel
theorem dX5_many_40 : decode cX5_many 40 = .ok (.ireturn, 1) := by decide +kernel
theorem dX5_many_41 : decode cX5_many 41 = .ok (.aload_n 0, 1) := by decide +kernel
theorem dX5_many_42 : decode cX5_many 42 = .ok (.getfield 33, 3) := by decide +kernel
theorem dX5_many_45 : decode cX5_many 45 = .ok (.getfield 142, 3) := by decide +kernel
theorem dX5_many_48 : decode cX5_many 48 = .ok (.ireturn, 1) := by decide +kernel
theorem dX5_many_49 : decode cX5_many 49 = .ok (.aload_n 0, 1) := by decide +kernel
theorem dX5_many_50 : decode cX5_many 50 = .ok (.getfield 33, 3) := by decide +kernel
theorem dX5_many_53 : decode cX5_many 53 = .ok (.getfield 186, 3) := by decide +kernel
theorem dX5_many_56 : decode cX5_many 56 = .ok (.ireturn, 1) := by decide +kernel
theorem dX5_many_57 : decode cX5_many 57 = .ok (.aload_n 0, 1) := by decide +kernel
theorem dX5_many_58 : decode cX5_many 58 = .ok (.getfield 19, 3) := by decide +kernel
theorem dX5_many_61 : decode cX5_many 61 = .ok (.getfield 119, 3) := by decide +kernel
theorem dX5_many_64 : decode cX5_many 64 = .ok (.ireturn, 1) := by decide +kernel
theorem dX5_many_65 : decode cX5_many 65 = .ok (.aload_n 0, 1) := by decide +kernel
theorem dX5_many_66 : decode cX5_many 66 = .ok (.getfield 26, 3) := by decide +kernel
theorem dX5_many_69 : decode cX5_many 69 = .ok (.getfield 137, 3) := by decide +kernel
theorem dX5_many_72 : decode cX5_many 72 = .ok (.ireturn, 1) := by decide +kernel
theorem dX5_many_73 : decode cX5_many 73 = .ok (.bipush (-3), 2) := by decide +kernel
theorem dX5_many_75 : decode cX5_many 75 = .ok (.ireturn, 1) := by decide +kernel
theorem dX5_drop_0 : decode cX5_drop 0 = .ok (.aload_n 0, 1) := by decide +kernel
theorem dX5_drop_1 : decode cX5_drop 1 = .ok (.getfield 48, 3) := by decide +kernel
theorem dX5_drop_4 : decode cX5_drop 4 = .ok (.ifCond .ne 6, 3) := by decide +kernel
theorem dX5_drop_7 : decode cX5_drop 7 = .ok (.bipush (-2), 2) := by decide +kernel
theorem dX5_drop_9 : decode cX5_drop 9 = .ok (.ireturn, 1) := by decide +kernel
theorem dX5_drop_10 : decode cX5_drop 10 = .ok (.aload_n 0, 1) := by decide +kernel
theorem dX5_drop_11 : decode cX5_drop 11 = .ok (.dup, 1) := by decide +kernel
theorem dX5_drop_12 : decode cX5_drop 12 = .ok (.getfield 48, 3) := by decide +kernel
theorem dX5_drop_15 : decode cX5_drop 15 = .ok (.iconst 1, 1) := by decide +kernel
theorem dX5_drop_16 : decode cX5_drop 16 = .ok (.isub, 1) := by decide +kernel
theorem dX5_drop_17 : decode cX5_drop 17 = .ok (.putfield 48, 3) := by decide +kernel
theorem dX5_drop_20 : decode cX5_drop 20 = .ok (.aload_n 0, 1) := by decide +kernel
theorem dX5_drop_21 : decode cX5_drop 21 = .ok (.getfield 48, 3) := by decide +kernel
theorem dX5_drop_24 : decode cX5_drop 24 = .ok (.ireturn, 1) := by decide +kernel
theorem dX5_isNumber_0 : decode cX5_isNumber 0 = .ok (.iload_n 1, 1) := by decide +kernel
theorem dX5_isNumber_1 : decode cX5_isNumber 1 = .ok (.ifCond .lt 15, 3) := by decide +kernel
theorem dX5_isNumber_4 : decode cX5_isNumber 4 = .ok (.iload_n 1, 1) := by decide +kernel
theorem dX5_isNumber_5 : decode cX5_isNumber 5 = .ok (.aload_n 0, 1) := by decide +kernel
theorem dX5_isNumber_6 : decode cX5_isNumber 6 = .ok (.getfield 48, 3) := by decide +kernel
theorem dX5_isNumber_9 : decode cX5_isNumber 9 = .ok (.if_icmp .ge 7, 3) := by decide +kernel
theorem dX5_isNumber_12 : decode cX5_isNumber 12 = .ok (.iconst 1, 1) := by decide +kernel
theorem dX5_isNumber_13 : decode cX5_isNumber 13 = .ok (.goto 4, 3) := by decide +kernel
theorem dX5_isNumber_16 : decode cX5_isNumber 16 = .ok (.iconst 0, 1) := by decide +kernel
theorem dX5_isNumber_17 : decode cX5_isNumber 17 = .ok (.ireturn, 1) := by decide +kernel
theorem dX5_isFull_0 : decode cX5_isFull 0 = .ok (.aload_n 0, 1) := by decide +kernel
theorem dX5_isFull_1 : decode cX5_isFull 1 = .ok (.getfield 48, 3) := by decide +kernel
theorem dX5_isFull_4 : decode cX5_isFull 4 = .ok (.bipush 60, 2) := by decide +kernel
theorem dX5_isFull_6 : decode cX5_isFull 6 = .ok (.if_icmp .lt 7, 3) := by decide +kernel
theorem dX5_isFull_9 : decode cX5_isFull 9 = .ok (.iconst 1, 1) := by decide +kernel
theorem dX5_isFull_10 : decode cX5_isFull 10 = .ok (.goto 4, 3) := by decide +kernel
theorem dX5_isFull_13 : decode cX5_isFull 13 = .ok (.iconst 0, 1) := by decide +kernel
theorem dX5_isFull_14 : decode cX5_isFull 14 = .ok (.ireturn, 1) := by decide +kernel
theorem dX5_isCount_0 : decode cX5_isCount 0 = .ok (.iload_n 0, 1) := by decide +kernel
theorem dX5_isCount_1 : decode cX5_isCount 1 = .ok (.ifCond .lt 13, 3) := by decide +kernel
theorem dX5_isCount_4 : decode cX5_isCount 4 = .ok (.iload_n 0, 1) := by decide +kernel
theorem dX5_isCount_5 : decode cX5_isCount 5 = .ok (.ldc 195, 2) := by decide +kernel
theorem dX5_isCount_7 : decode cX5_isCount 7 = .ok (.if_icmp .gt 7, 3) := by decide +kernel
theorem dX5_isCount_10 : decode cX5_isCount 10 = .ok (.iconst 1, 1) := by decide +kernel
theorem dX5_isCount_11 : decode cX5_isCount 11 = .ok (.goto 4, 3) := by decide +kernel
theorem dX5_isCount_14 : decode cX5_isCount 14 = .ok (.iconst 0, 1) := by decide +kernel
theorem dX5_isCount_15 : decode cX5_isCount 15 = .ok (.ireturn, 1) := by decide +kernel
theorem dX5_takeNumber_0 : decode cX5_takeNumber 0 = .ok (.aload_n 0, 1) := by decide +kernel
theorem dX5_takeNumber_1 : decode cX5_takeNumber 1 = .ok (.dup, 1) := by decide +kernel
theorem dX5_takeNumber_2 : decode cX5_takeNumber 2 = .ok (.getfield 48, 3) := by decide +kernel
theorem dX5_takeNumber_5 : decode cX5_takeNumber 5 = .ok (.iconst 1, 1) := by decide +kernel
theorem dX5_takeNumber_6 : decode cX5_takeNumber 6 = .ok (.iadd, 1) := by decide +kernel
theorem dX5_takeNumber_7 : decode cX5_takeNumber 7 = .ok (.putfield 48, 3) := by decide +kernel
theorem dX5_takeNumber_10 : decode cX5_takeNumber 10 = .ok (.aload_n 0, 1) := by decide +kernel
theorem dX5_takeNumber_11 : decode cX5_takeNumber 11 = .ok (.getfield 48, 3) := by decide +kernel
theorem dX5_takeNumber_14 : decode cX5_takeNumber 14 = .ok (.iconst 1, 1) := by decide +kernel
theorem dX5_takeNumber_15 : decode cX5_takeNumber 15 = .ok (.isub, 1) := by decide +kernel
theorem dX5_takeNumber_16 : decode cX5_takeNumber 16 = .ok (.ireturn, 1) := by decide +kernel
set_option maxRecDepth 20000 in
theorem ggX5_failureOfPair_X2_isNothing : GoodIn wsX5_failureOfPair wsX2_isNothing := goodIn_r _ [5, 6, 13, 14, 15, 16] (by decide +kernel) (by decide +kernel)
set_option maxRecDepth 20000 in
theorem gX5_failureOfPair_X2_isNothing : GoodIn wsX5_failureOfPair (wsV RX5 67 RX2 yX2_isNothing wsX2_isNothing) := goodIn_app (goodIn_of _ (by decide +kernel)) ggX5_failureOfPair_X2_isNothing
set_option maxRecDepth 20000 in
theorem ggX5_failureOfPair_X2_isLike : GoodIn wsX5_failureOfPair wsX2_isLike := goodIn_r _ [10, 6, 11, 12, 13, 14, 15, 16] (by decide +kernel) (by decide +kernel)
set_option maxRecDepth 20000 in
theorem gX5_failureOfPair_X2_isLike : GoodIn wsX5_failureOfPair (wsV RX5 196 RX2 yX2_isLike wsX2_isLike) := goodIn_app (goodIn_of _ (by decide +kernel)) ggX5_failureOfPair_X2_isLike
theorem dX5_failureOfPair_0 : decode cX5_failureOfPair 0 = .ok (.aload_n 0, 1) := by decide +kernel
theorem dX5_failureOfPair_1 : decode cX5_failureOfPair 1 = .ok (.invokevirtual 67, 3) := by decide +kernel
theorem dX5_failureOfPair_4 : decode cX5_failureOfPair 4 = .ok (.ifCond .ne 10, 3) := by decide +kernel
theorem dX5_failureOfPair_7 : decode cX5_failureOfPair 7 = .ok (.aload_n 1, 1) := by decide +kernel
theorem dX5_failureOfPair_8 : decode cX5_failureOfPair 8 = .ok (.invokevirtual 67, 3) := by decide +kernel
theorem dX5_failureOfPair_11 : decode cX5_failureOfPair 11 = .ok (.ifCond .eq 6, 3) := by decide +kernel
theorem dX5_failureOfPair_14 : decode cX5_failureOfPair 14 = .ok (.bipush (-11), 2) := by decide +kernel
theorem dX5_failureOfPair_16 : decode cX5_failureOfPair 16 = .ok (.ireturn, 1) := by decide +kernel
theorem dX5_failureOfPair_17 : decode cX5_failureOfPair 17 = .ok (.aload_n 0, 1) := by decide +kernel
theorem dX5_failureOfPair_18 : decode cX5_failureOfPair 18 = .ok (.aload_n 1, 1) := by decide +kernel
theorem dX5_failureOfPair_19 : decode cX5_failureOfPair 19 = .ok (.invokevirtual 196, 3) := by decide +kernel
theorem dX5_failureOfPair_22 : decode cX5_failureOfPair 22 = .ok (.ifCond .eq 7, 3) := by decide +kernel
theorem dX5_failureOfPair_25 : decode cX5_failureOfPair 25 = .ok (.iconst 0, 1) := by decide +kernel
theorem dX5_failureOfPair_26 : decode cX5_failureOfPair 26 = .ok (.goto 5, 3) := by decide +kernel
theorem dX5_failureOfPair_29 : decode cX5_failureOfPair 29 = .ok (.bipush (-12), 2) := by decide +kernel
theorem dX5_failureOfPair_31 : decode cX5_failureOfPair 31 = .ok (.ireturn, 1) := by decide +kernel
set_option maxRecDepth 20000 in
theorem ggX5_combine_X2_becomeSum : GoodIn wsX5_combine wsX2_becomeSum := goodIn_r _ [5, 6, 7, 8, 9, 10, 4, 11, 12, 13, 14, 15, 16, 17, 45, 46, 47, 48] (by decide +kernel) (by decide +kernel)
set_option maxRecDepth 20000 in
theorem gX5_combine_X2_becomeSum : GoodIn wsX5_combine (wsV RX5 199 RX2 yX2_becomeSum wsX2_becomeSum) := goodIn_app (goodIn_of _ (by decide +kernel)) ggX5_combine_X2_becomeSum
set_option maxRecDepth 20000 in
theorem ggX5_combine_X2_becomeDifference : GoodIn wsX5_combine wsX2_becomeDifference := goodIn_r _ [21, 6, 7, 8, 9, 10, 4, 11, 12, 13, 14, 15, 16, 17, 45, 46, 47, 48] (by decide +kernel) (by decide +kernel)
set_option maxRecDepth 20000 in
theorem gX5_combine_X2_becomeDifference : GoodIn wsX5_combine (wsV RX5 203 RX2 yX2_becomeDifference wsX2_becomeDifference) := goodIn_app (goodIn_of _ (by decide +kernel)) ggX5_combine_X2_becomeDifference
set_option maxRecDepth 20000 in
theorem ggX5_combine_X2_compareWith : GoodIn wsX5_combine wsX2_compareWith := goodIn_r _ [25, 6, 7, 45, 46, 47, 48] (by decide +kernel) (by decide +kernel)
set_option maxRecDepth 20000 in
theorem gX5_combine_X2_compareWith : GoodIn wsX5_combine (wsV RX5 115 RX2 yX2_compareWith wsX2_compareWith) := goodIn_app (goodIn_of _ (by decide +kernel)) ggX5_combine_X2_compareWith
set_option maxRecDepth 20000 in
theorem ggX5_combine_X2_copy : GoodIn wsX5_combine wsX2_copy := goodIn_r _ [29, 6, 7, 8, 9, 10, 4, 11, 12, 13, 14, 15, 16, 17, 45, 46, 47, 48] (by decide +kernel) (by decide +kernel)
set_option maxRecDepth 20000 in
theorem gX5_combine_X2_copy : GoodIn wsX5_combine (wsV RX5 192 RX2 yX2_copy wsX2_copy) := goodIn_app (goodIn_of _ (by decide +kernel)) ggX5_combine_X2_copy
set_option maxRecDepth 20000 in
theorem ggX5_combine_X2_becomeGreaterLevels : GoodIn wsX5_combine wsX2_becomeGreaterLevels := goodIn_r _ [33, 6, 7, 34, 35, 36, 37, 8, 9, 10, 4, 11, 12, 13, 14, 15, 16, 17, 45, 46, 47, 48] (by decide +kernel) (by decide +kernel)
set_option maxRecDepth 20000 in
theorem gX5_combine_X2_becomeGreaterLevels : GoodIn wsX5_combine (wsV RX5 206 RX2 yX2_becomeGreaterLevels wsX2_becomeGreaterLevels) := goodIn_app (goodIn_of _ (by decide +kernel)) ggX5_combine_X2_becomeGreaterLevels
set_option maxRecDepth 20000 in
theorem ggX5_combine_X2_becomeLesserLevels : GoodIn wsX5_combine wsX2_becomeLesserLevels := goodIn_r _ [41, 6, 7, 42, 43, 36, 44, 8, 9, 10, 4, 11, 12, 13, 14, 15, 16, 17, 45, 46, 47, 48] (by decide +kernel) (by decide +kernel)
set_option maxRecDepth 20000 in
theorem gX5_combine_X2_becomeLesserLevels : GoodIn wsX5_combine (wsV RX5 210 RX2 yX2_becomeLesserLevels wsX2_becomeLesserLevels) := goodIn_app (goodIn_of _ (by decide +kernel)) ggX5_combine_X2_becomeLesserLevels
theorem dX5_combine_0 : decode cX5_combine 0 = .ok (.iload_n 0, 1) := by decide +kernel
theorem dX5_combine_1 : decode cX5_combine 1 = .ok (.tableswitch 95 0 4 #[35, 42, 49, 68, 87], 35) := by decide +kernel
theorem dX5_combine_36 : decode cX5_combine 36 = .ok (.aload_n 3, 1) := by decide +kernel
theorem dX5_combine_37 : decode cX5_combine 37 = .ok (.aload_n 1, 1) := by decide +kernel
theorem dX5_combine_38 : decode cX5_combine 38 = .ok (.aload_n 2, 1) := by decide +kernel
theorem dX5_combine_39 : decode cX5_combine 39 = .ok (.invokevirtual 199, 3) := by decide +kernel
theorem dX5_combine_42 : decode cX5_combine 42 = .ok (.ireturn, 1) := by decide +kernel
theorem dX5_combine_43 : decode cX5_combine 43 = .ok (.aload_n 3, 1) := by decide +kernel
theorem dX5_combine_44 : decode cX5_combine 44 = .ok (.aload_n 1, 1) := by decide +kernel
theorem dX5_combine_45 : decode cX5_combine 45 = .ok (.aload_n 2, 1) := by decide +kernel
theorem dX5_combine_46 : decode cX5_combine 46 = .ok (.invokevirtual 203, 3) := by decide +kernel
theorem dX5_combine_49 : decode cX5_combine 49 = .ok (.ireturn, 1) := by decide +kernel
theorem dX5_combine_50 : decode cX5_combine 50 = .ok (.aload_n 3, 1) := by decide +kernel
theorem dX5_combine_51 : decode cX5_combine 51 = .ok (.aload_n 1, 1) := by decide +kernel
theorem dX5_combine_52 : decode cX5_combine 52 = .ok (.aload_n 2, 1) := by decide +kernel
theorem dX5_combine_53 : decode cX5_combine 53 = .ok (.invokevirtual 115, 3) := by decide +kernel
theorem dX5_combine_56 : decode cX5_combine 56 = .ok (.ifCond .ge 7, 3) := by decide +kernel
theorem dX5_combine_59 : decode cX5_combine 59 = .ok (.aload_n 2, 1) := by decide +kernel
theorem dX5_combine_60 : decode cX5_combine 60 = .ok (.goto 4, 3) := by decide +kernel
theorem dX5_combine_63 : decode cX5_combine 63 = .ok (.aload_n 1, 1) := by decide +kernel
theorem dX5_combine_64 : decode cX5_combine 64 = .ok (.invokevirtual 192, 3) := by decide +kernel
theorem dX5_combine_67 : decode cX5_combine 67 = .ok (.iconst 1, 1) := by decide +kernel
theorem dX5_combine_68 : decode cX5_combine 68 = .ok (.ireturn, 1) := by decide +kernel
theorem dX5_combine_69 : decode cX5_combine 69 = .ok (.aload_n 3, 1) := by decide +kernel
theorem dX5_combine_70 : decode cX5_combine 70 = .ok (.aload_n 1, 1) := by decide +kernel
theorem dX5_combine_71 : decode cX5_combine 71 = .ok (.aload_n 2, 1) := by decide +kernel
theorem dX5_combine_72 : decode cX5_combine 72 = .ok (.invokevirtual 115, 3) := by decide +kernel
theorem dX5_combine_75 : decode cX5_combine 75 = .ok (.ifCond .le 7, 3) := by decide +kernel
theorem dX5_combine_78 : decode cX5_combine 78 = .ok (.aload_n 2, 1) := by decide +kernel
theorem dX5_combine_79 : decode cX5_combine 79 = .ok (.goto 4, 3) := by decide +kernel
theorem dX5_combine_82 : decode cX5_combine 82 = .ok (.aload_n 1, 1) := by decide +kernel
theorem dX5_combine_83 : decode cX5_combine 83 = .ok (.invokevirtual 192, 3) := by decide +kernel
theorem dX5_combine_86 : decode cX5_combine 86 = .ok (.iconst 1, 1) := by decide +kernel
theorem dX5_combine_87 : decode cX5_combine 87 = .ok (.ireturn, 1) := by decide +kernel
theorem dX5_combine_88 : decode cX5_combine 88 = .ok (.aload_n 3, 1) := by decide +kernel
theorem dX5_combine_89 : decode cX5_combine 89 = .ok (.aload_n 1, 1) := by decide +kernel
theorem dX5_combine_90 : decode cX5_combine 90 = .ok (.aload_n 2, 1) := by decide +kernel
theorem dX5_combine_91 : decode cX5_combine 91 = .ok (.invokevirtual 206, 3) := by decide +kernel
theorem dX5_combine_94 : decode cX5_combine 94 = .ok (.iconst 1, 1) := by decide +kernel
theorem dX5_combine_95 : decode cX5_combine 95 = .ok (.ireturn, 1) := by decide +kernel
theorem dX5_combine_96 : decode cX5_combine 96 = .ok (.aload_n 3, 1) := by decide +kernel
theorem dX5_combine_97 : decode cX5_combine 97 = .ok (.aload_n 1, 1) := by decide +kernel
theorem dX5_combine_98 : decode cX5_combine 98 = .ok (.aload_n 2, 1) := by decide +kernel
theorem dX5_combine_99 : decode cX5_combine 99 = .ok (.invokevirtual 210, 3) := by decide +kernel
theorem dX5_combine_102 : decode cX5_combine 102 = .ok (.iconst 1, 1) := by decide +kernel
theorem dX5_combine_103 : decode cX5_combine 103 = .ok (.ireturn, 1) := by decide +kernel
set_option maxRecDepth 20000 in
theorem ggX5_scale_X2_formLike : GoodIn wsX5_scale wsX2_formLike := goodIn_r _ [8, 9, 10, 11, 12, 13, 14, 7, 15, 49, 50, 51, 52] (by decide +kernel) (by decide +kernel)
set_option maxRecDepth 20000 in
theorem gX5_scale_X2_formLike : GoodIn wsX5_scale (wsV RX5 213 RX2 yX2_formLike wsX2_formLike) := goodIn_app (goodIn_of _ (by decide +kernel)) ggX5_scale_X2_formLike
set_option maxRecDepth 20000 in
theorem ggX5_scale_X4_clear : GoodIn wsX5_scale wsX4_clear := goodIn_r _ [20, 21, 22, 59, 60] (by decide +kernel) (by decide +kernel)
set_option maxRecDepth 20000 in
theorem gX5_scale_X4_clear : GoodIn wsX5_scale (wsV RX5 216 RX4 yX4_clear wsX4_clear) := goodIn_app (goodIn_of _ (by decide +kernel)) ggX5_scale_X4_clear
set_option maxRecDepth 20000 in
theorem ggX5_scale_X4_addProduct : GoodIn wsX5_scale wsX4_addProduct := goodIn_r _ [26, 27, 22, 21, 59, 60] (by decide +kernel) (by decide +kernel)
set_option maxRecDepth 20000 in
theorem gX5_scale_X4_addProduct : GoodIn wsX5_scale (wsV RX5 217 RX4 yX4_addProduct wsX4_addProduct) := goodIn_app (goodIn_of _ (by decide +kernel)) ggX5_scale_X4_addProduct
set_option maxRecDepth 20000 in
theorem ggX5_scale_X4_divideDown : GoodIn wsX5_scale wsX4_divideDown := goodIn_r _ [31, 21, 22, 32, 33, 34, 35, 36, 37, 38, 59, 60] (by decide +kernel) (by decide +kernel)
set_option maxRecDepth 20000 in
theorem gX5_scale_X4_divideDown : GoodIn wsX5_scale (wsV RX5 221 RX4 yX4_divideDown wsX4_divideDown) := goodIn_app (goodIn_of _ (by decide +kernel)) ggX5_scale_X4_divideDown
set_option maxRecDepth 20000 in
theorem ggX5_scale_X4_fits : GoodIn wsX5_scale wsX4_fits := goodIn_r _ [42, 21, 43, 44, 59, 60] (by decide +kernel) (by decide +kernel)
set_option maxRecDepth 20000 in
theorem gX5_scale_X4_fits : GoodIn wsX5_scale (wsV RX5 225 RX4 yX4_fits wsX4_fits) := goodIn_app (goodIn_of _ (by decide +kernel)) ggX5_scale_X4_fits
set_option maxRecDepth 20000 in
theorem ggX5_scale_X4_value : GoodIn wsX5_scale wsX4_value := goodIn_r _ [48, 21, 22, 59, 60] (by decide +kernel) (by decide +kernel)
set_option maxRecDepth 20000 in
theorem gX5_scale_X4_value : GoodIn wsX5_scale (wsV RX5 228 RX4 yX4_value wsX4_value) := goodIn_app (goodIn_of _ (by decide +kernel)) ggX5_scale_X4_value
theorem dX5_scale_0 : decode cX5_scale 0 = .ok (.iload_n 3, 1) := by decide +kernel
theorem dX5_scale_1 : decode cX5_scale 1 = .ok (.ifCond .ge 9, 3) := by decide +kernel
theorem dX5_scale_4 : decode cX5_scale 4 = .ok (.iload_n 2, 1) := by decide +kernel
theorem dX5_scale_5 : decode cX5_scale 5 = .ok (.i2l, 1) := by decide +kernel
theorem dX5_scale_6 : decode cX5_scale 6 = .ok (.lneg, 1) := by decide +kernel
theorem dX5_scale_7 : decode cX5_scale 7 = .ok (.goto 5, 3) := by decide +kernel
theorem dX5_scale_10 : decode cX5_scale 10 = .ok (.iload_n 2, 1) := by decide +kernel
theorem dX5_scale_11 : decode cX5_scale 11 = .ok (.i2l, 1) := by decide +kernel
theorem dX5_scale_12 : decode cX5_scale 12 = .ok (.lstore 5, 2) := by decide +kernel
theorem dX5_scale_14 : decode cX5_scale 14 = .ok (.iload_n 3, 1) := by decide +kernel
theorem dX5_scale_15 : decode cX5_scale 15 = .ok (.ifCond .ge 9, 3) := by decide +kernel
theorem dX5_scale_18 : decode cX5_scale 18 = .ok (.iload_n 3, 1) := by decide +kernel
theorem dX5_scale_19 : decode cX5_scale 19 = .ok (.i2l, 1) := by decide +kernel
theorem dX5_scale_20 : decode cX5_scale 20 = .ok (.lneg, 1) := by decide +kernel
theorem dX5_scale_21 : decode cX5_scale 21 = .ok (.goto 5, 3) := by decide +kernel
theorem dX5_scale_24 : decode cX5_scale 24 = .ok (.iload_n 3, 1) := by decide +kernel
theorem dX5_scale_25 : decode cX5_scale 25 = .ok (.i2l, 1) := by decide +kernel
theorem dX5_scale_26 : decode cX5_scale 26 = .ok (.lstore 7, 2) := by decide +kernel
theorem dX5_scale_28 : decode cX5_scale 28 = .ok (.aload 4, 2) := by decide +kernel
theorem dX5_scale_30 : decode cX5_scale 30 = .ok (.aload_n 1, 1) := by decide +kernel
theorem dX5_scale_31 : decode cX5_scale 31 = .ok (.invokevirtual 213, 3) := by decide +kernel
theorem dX5_scale_34 : decode cX5_scale 34 = .ok (.iconst 0, 1) := by decide +kernel
theorem dX5_scale_35 : decode cX5_scale 35 = .ok (.istore 9, 2) := by decide +kernel
theorem dX5_scale_37 : decode cX5_scale 37 = .ok (.iload 9, 2) := by decide +kernel
theorem dX5_scale_39 : decode cX5_scale 39 = .ok (.aload_n 1, 1) := by decide +kernel
theorem dX5_scale_40 : decode cX5_scale 40 = .ok (.getfield 97, 3) := by decide +kernel
theorem dX5_scale_43 : decode cX5_scale 43 = .ok (.if_icmp .ge 68, 3) := by decide +kernel
theorem dX5_scale_46 : decode cX5_scale 46 = .ok (.aload_n 0, 1) := by decide +kernel
theorem dX5_scale_47 : decode cX5_scale 47 = .ok (.getfield 40, 3) := by decide +kernel
theorem dX5_scale_50 : decode cX5_scale 50 = .ok (.invokevirtual 216, 3) := by decide +kernel
theorem dX5_scale_53 : decode cX5_scale 53 = .ok (.aload_n 0, 1) := by decide +kernel
theorem dX5_scale_54 : decode cX5_scale 54 = .ok (.getfield 40, 3) := by decide +kernel
theorem dX5_scale_57 : decode cX5_scale 57 = .ok (.aload_n 1, 1) := by decide +kernel
theorem dX5_scale_58 : decode cX5_scale 58 = .ok (.getfield 73, 3) := by decide +kernel
theorem dX5_scale_61 : decode cX5_scale 61 = .ok (.iload 9, 2) := by decide +kernel
theorem dX5_scale_63 : decode cX5_scale 63 = .ok (.laload, 1) := by decide +kernel
theorem dX5_scale_64 : decode cX5_scale 64 = .ok (.lload 5, 2) := by decide +kernel
theorem dX5_scale_66 : decode cX5_scale 66 = .ok (.invokevirtual 217, 3) := by decide +kernel
theorem dX5_scale_69 : decode cX5_scale 69 = .ok (.aload_n 0, 1) := by decide +kernel
theorem dX5_scale_70 : decode cX5_scale 70 = .ok (.getfield 40, 3) := by decide +kernel
theorem dX5_scale_73 : decode cX5_scale 73 = .ok (.lload 7, 2) := by decide +kernel
theorem dX5_scale_75 : decode cX5_scale 75 = .ok (.invokevirtual 221, 3) := by decide +kernel
theorem dX5_scale_78 : decode cX5_scale 78 = .ok (.aload_n 0, 1) := by decide +kernel
theorem dX5_scale_79 : decode cX5_scale 79 = .ok (.getfield 40, 3) := by decide +kernel
theorem dX5_scale_82 : decode cX5_scale 82 = .ok (.invokevirtual 225, 3) := by decide +kernel
theorem dX5_scale_85 : decode cX5_scale 85 = .ok (.ifCond .ne 5, 3) := by decide +kernel
theorem dX5_scale_88 : decode cX5_scale 88 = .ok (.iconst 0, 1) := by decide +kernel
theorem dX5_scale_89 : decode cX5_scale 89 = .ok (.ireturn, 1) := by decide +kernel
theorem dX5_scale_90 : decode cX5_scale 90 = .ok (.aload 4, 2) := by decide +kernel
theorem dX5_scale_92 : decode cX5_scale 92 = .ok (.getfield 73, 3) := by decide +kernel
theorem dX5_scale_95 : decode cX5_scale 95 = .ok (.iload 9, 2) := by decide +kernel
theorem dX5_scale_97 : decode cX5_scale 97 = .ok (.aload_n 0, 1) := by decide +kernel
theorem dX5_scale_98 : decode cX5_scale 98 = .ok (.getfield 40, 3) := by decide +kernel
theorem dX5_scale_101 : decode cX5_scale 101 = .ok (.invokevirtual 228, 3) := by decide +kernel
theorem dX5_scale_104 : decode cX5_scale 104 = .ok (.lastore, 1) := by decide +kernel
theorem dX5_scale_105 : decode cX5_scale 105 = .ok (.iinc 9 1, 3) := by decide +kernel
theorem dX5_scale_108 : decode cX5_scale 108 = .ok (.goto (-71), 3) := by decide +kernel
theorem dX5_scale_111 : decode cX5_scale 111 = .ok (.iconst 1, 1) := by decide +kernel
theorem dX5_scale_112 : decode cX5_scale 112 = .ok (.ireturn, 1) := by decide +kernel
