theorem dX3_init_0 : decode cX3_init 0 = .ok (.aload_n 0, 1) := by decide +kernel
theorem dX3_init_1 : decode cX3_init 1 = .ok (.invokespecial 3, 3) := by decide +kernel
theorem dX3_init_4 : decode cX3_init 4 = .ok (.aload_n 0, 1) := by decide +kernel
theorem dX3_init_5 : decode cX3_init 5 = .ok (.sipush 300, 3) := by decide +kernel
theorem dX3_init_8 : decode cX3_init 8 = .ok (.newarray .byte, 2) := by decide +kernel
theorem dX3_init_10 : decode cX3_init 10 = .ok (.putfield 9, 3) := by decide +kernel
theorem dX3_init_13 : decode cX3_init 13 = .ok (.return_, 1) := by decide +kernel
theorem dX3_append_0 : decode cX3_append 0 = .ok (.aload_n 0, 1) := by decide +kernel
theorem dX3_append_1 : decode cX3_append 1 = .ok (.getfield 15, 3) := by decide +kernel
theorem dX3_append_4 : decode cX3_append 4 = .ok (.aload_n 0, 1) := by decide +kernel
theorem dX3_append_5 : decode cX3_append 5 = .ok (.getfield 9, 3) := by decide +kernel
theorem dX3_append_8 : decode cX3_append 8 = .ok (.arraylength, 1) := by decide +kernel
theorem dX3_append_9 : decode cX3_append 9 = .ok (.if_icmp .ge 24, 3) := by decide +kernel
theorem dX3_append_12 : decode cX3_append 12 = .ok (.aload_n 0, 1) := by decide +kernel
theorem dX3_append_13 : decode cX3_append 13 = .ok (.getfield 9, 3) := by decide +kernel
theorem dX3_append_16 : decode cX3_append 16 = .ok (.aload_n 0, 1) := by decide +kernel
theorem dX3_append_17 : decode cX3_append 17 = .ok (.getfield 15, 3) := by decide +kernel
theorem dX3_append_20 : decode cX3_append 20 = .ok (.iload_n 1, 1) := by decide +kernel
theorem dX3_append_21 : decode cX3_append 21 = .ok (.i2b, 1) := by decide +kernel
theorem dX3_append_22 : decode cX3_append 22 = .ok (.bastore, 1) := by decide +kernel
theorem dX3_append_23 : decode cX3_append 23 = .ok (.aload_n 0, 1) := by decide +kernel
theorem dX3_append_24 : decode cX3_append 24 = .ok (.dup, 1) := by decide +kernel
theorem dX3_append_25 : decode cX3_append 25 = .ok (.getfield 15, 3) := by decide +kernel
theorem dX3_append_28 : decode cX3_append 28 = .ok (.iconst 1, 1) := by decide +kernel
theorem dX3_append_29 : decode cX3_append 29 = .ok (.iadd, 1) := by decide +kernel
theorem dX3_append_30 : decode cX3_append 30 = .ok (.putfield 15, 3) := by decide +kernel
theorem dX3_append_33 : decode cX3_append 33 = .ok (.return_, 1) := by decide +kernel
set_option maxRecDepth 20000 in
theorem ggX3_parse_X3_isNext : GoodIn wsX3_parse wsX3_isNext := goodIn_r _ [7, 1, 2, 8, 94, 95, 96] (by decide +kernel) (by decide +kernel)
set_option maxRecDepth 20000 in
theorem gX3_parse_X3_isNext : GoodIn wsX3_parse (wsV RX3 22 RX3 yX3_isNext wsX3_isNext) := goodIn_app (goodIn_of _ (by decide +kernel)) ggX3_parse_X3_isNext
set_option maxRecDepth 20000 in
theorem ggX3_parse_X3_parseBent : GoodIn wsX3_parse wsX3_parseBent := goodIn_r _ [12, 1, 13, 14, 15, 6, 16, 3, 4, 5, 7, 2, 8, 17, 18, 19, 20, 21, 22, 23, 24, 25, 26, 27, 28, 29, 30, 31, 32, 33, 34, 35, 36, 37, 38, 39, 40, 41, 42, 43, 44, 45, 46, 47, 48, 49, 50, 51, 52, 53, 54, 55, 56, 57, 58, 59, 60, 61, 62, 63, 64, 65, 66, 67, 68, 69, 70, 71, 72, 73, 74, 75, 76, 77, 78, 79, 80, 81, 82, 83, 84, 85, 86, 87, 88, 89, 94, 95, 96, 97, 98, 99, 100] (by decide +kernel) (by decide +kernel)
set_option maxRecDepth 20000 in
theorem gX3_parse_X3_parseBent : GoodIn wsX3_parse (wsV RX3 26 RX3 yX3_parseBent wsX3_parseBent) := goodIn_app (goodIn_of _ (by decide +kernel)) ggX3_parse_X3_parseBent
set_option maxRecDepth 20000 in
theorem ggX3_parse_X3_parsePlain : GoodIn wsX3_parse wsX3_parsePlain := goodIn_r _ [93, 1, 2, 17, 18, 19, 6, 20, 21, 22, 23, 24, 3, 4, 5, 7, 8, 25, 26, 27, 28, 82, 83, 84, 85, 86, 87, 88, 89, 29, 30, 31, 32, 33, 34, 35, 36, 37, 38, 39, 40, 41, 42, 43, 44, 45, 46, 47, 48, 49, 50, 51, 52, 53, 54, 55, 56, 57, 58, 59, 60, 61, 62, 63, 64, 65, 66, 67, 68, 69, 70, 71, 72, 73, 74, 75, 76, 77, 78, 79, 80, 81, 94, 95, 96, 97, 98, 99, 100] (by decide +kernel) (by decide +kernel)
set_option maxRecDepth 20000 in
theorem gX3_parse_X3_parsePlain : GoodIn wsX3_parse (wsV RX3 30 RX3 yX3_parsePlain wsX3_parsePlain) := goodIn_app (goodIn_of _ (by decide +kernel)) ggX3_parse_X3_parsePlain
theorem dX3_parse_0 : decode cX3_parse 0 = .ok (.aload_n 0, 1) := by decide +kernel
theorem dX3_parse_1 : decode cX3_parse 1 = .ok (.iconst 0, 1) := by decide +kernel
theorem dX3_parse_2 : decode cX3_parse 2 = .ok (.putfield 19, 3) := by decide +kernel
theorem dX3_parse_5 : decode cX3_parse 5 = .ok (.aload_n 0, 1) := by decide +kernel
theorem dX3_parse_6 : decode cX3_parse 6 = .ok (.bipush 91, 2) := by decide +kernel
theorem dX3_parse_8 : decode cX3_parse 8 = .ok (.invokevirtual 22, 3) := by decide +kernel
theorem dX3_parse_11 : decode cX3_parse 11 = .ok (.ifCond .eq 11, 3) := by decide +kernel
theorem dX3_parse_14 : decode cX3_parse 14 = .ok (.aload_n 0, 1) := by decide +kernel
theorem dX3_parse_15 : decode cX3_parse 15 = .ok (.aload_n 1, 1) := by decide +kernel
theorem dX3_parse_16 : decode cX3_parse 16 = .ok (.invokevirtual 26, 3) := by decide +kernel
theorem dX3_parse_19 : decode cX3_parse 19 = .ok (.goto 8, 3) := by decide +kernel
theorem dX3_parse_22 : decode cX3_parse 22 = .ok (.aload_n 0, 1) := by decide +kernel
theorem dX3_parse_23 : decode cX3_parse 23 = .ok (.aload_n 1, 1) := by decide +kernel
theorem dX3_parse_24 : decode cX3_parse 24 = .ok (.invokevirtual 30, 3) := by decide +kernel
theorem dX3_parse_27 : decode cX3_parse 27 = .ok (.istore_n 2, 1) := by decide +kernel
theorem dX3_parse_28 : decode cX3_parse 28 = .ok (.iload_n 2, 1) := by decide +kernel
theorem dX3_parse_29 : decode cX3_parse 29 = .ok (.ifCond .eq 18, 3) := by decide +kernel
theorem dX3_parse_32 : decode cX3_parse 32 = .ok (.aload_n 0, 1) := by decide +kernel
theorem dX3_parse_33 : decode cX3_parse 33 = .ok (.getfield 19, 3) := by decide +kernel
theorem dX3_parse_36 : decode cX3_parse 36 = .ok (.aload_n 0, 1) := by decide +kernel
theorem dX3_parse_37 : decode cX3_parse 37 = .ok (.getfield 15, 3) := by decide +kernel
theorem dX3_parse_40 : decode cX3_parse 40 = .ok (.if_icmp .ne 7, 3) := by decide +kernel
theorem dX3_parse_43 : decode cX3_parse 43 = .ok (.iconst 1, 1) := by decide +kernel
theorem dX3_parse_44 : decode cX3_parse 44 = .ok (.goto 4, 3) := by decide +kernel
theorem dX3_parse_47 : decode cX3_parse 47 = .ok (.iconst 0, 1) := by decide +kernel
theorem dX3_parse_48 : decode cX3_parse 48 = .ok (.ireturn, 1) := by decide +kernel
set_option maxRecDepth 20000 in
theorem ggX3_parsePlain_X3_parseNumber : GoodIn wsX3_parsePlain wsX3_parseNumber := goodIn_r _ [7, 1, 8, 9, 10, 11, 12, 13, 14, 6, 15, 2, 16, 17, 18, 19, 20, 82, 83, 84, 85, 86, 87, 88] (by decide +kernel) (by decide +kernel)
set_option maxRecDepth 20000 in
theorem gX3_parsePlain_X3_parseNumber : GoodIn wsX3_parsePlain (wsV RX3 33 RX3 yX3_parseNumber wsX3_parseNumber) := goodIn_app (goodIn_of _ (by decide +kernel)) ggX3_parsePlain_X3_parseNumber
set_option maxRecDepth 20000 in
theorem ggX3_parsePlain_X2_form : GoodIn wsX3_parsePlain wsX2_form := goodIn_r _ [25, 26, 27, 28, 85, 86, 87, 88] (by decide +kernel) (by decide +kernel)
set_option maxRecDepth 20000 in
theorem gX3_parsePlain_X2_form : GoodIn wsX3_parsePlain (wsV RX3 37 RX2 yX2_form wsX2_form) := goodIn_app (goodIn_of _ (by decide +kernel)) ggX3_parsePlain_X2_form
set_option maxRecDepth 20000 in
theorem ggX3_parsePlain_X3_parseWord : GoodIn wsX3_parsePlain wsX3_parseWord := goodIn_r _ [32, 1, 33, 34, 35, 36, 37, 38, 39, 40, 41, 42, 43, 44, 45, 46, 47, 48, 49, 50, 51, 52, 53, 54, 55, 56, 57, 58, 59, 60, 61, 62, 63, 64, 65, 66, 67, 68, 69, 70, 71, 72, 73, 74, 75, 76, 77, 78, 79, 80, 81, 12, 13, 14, 6, 15, 2, 16, 82, 83, 84] (by decide +kernel) (by decide +kernel)
set_option maxRecDepth 20000 in
theorem gX3_parsePlain_X3_parseWord : GoodIn wsX3_parsePlain (wsV RX3 45 RX3 yX3_parseWord wsX3_parseWord) := goodIn_app (goodIn_of _ (by decide +kernel)) ggX3_parsePlain_X3_parseWord
set_option maxRecDepth 20000 in
theorem ggX3_parsePlain_X3_isNext : GoodIn wsX3_parsePlain wsX3_isNext := goodIn_r _ [15, 1, 2, 16, 82, 83, 84] (by decide +kernel) (by decide +kernel)
set_option maxRecDepth 20000 in
theorem gX3_parsePlain_X3_isNext : GoodIn wsX3_parsePlain (wsV RX3 22 RX3 yX3_isNext wsX3_isNext) := goodIn_app (goodIn_of _ (by decide +kernel)) ggX3_parsePlain_X3_isNext
theorem dX3_parsePlain_0 : decode cX3_parsePlain 0 = .ok (.aload_n 0, 1) := by decide +kernel
theorem dX3_parsePlain_1 : decode cX3_parsePlain 1 = .ok (.aload_n 1, 1) := by decide +kernel
theorem dX3_parsePlain_2 : decode cX3_parsePlain 2 = .ok (.iconst 0, 1) := by decide +kernel
theorem dX3_parsePlain_3 : decode cX3_parsePlain 3 = .ok (.invokevirtual 33, 3) := by decide +kernel
theorem dX3_parsePlain_6 : decode cX3_parsePlain 6 = .ok (.ifCond .ne 5, 3) := by decide +kernel
theorem dX3_parsePlain_9 : decode cX3_parsePlain 9 = .ok (.iconst 0, 1) := by decide +kernel
theorem dX3_parsePlain_10 : decode cX3_parsePlain 10 = .ok (.ireturn, 1) := by decide +kernel
theorem dX3_parsePlain_11 : decode cX3_parsePlain 11 = .ok (.aload_n 0, 1) := by decide +kernel
theorem dX3_parsePlain_12 : decode cX3_parsePlain 12 = .ok (.getfield 19, 3) := by decide +kernel
theorem dX3_parsePlain_15 : decode cX3_parsePlain 15 = .ok (.aload_n 0, 1) := by decide +kernel
theorem dX3_parsePlain_16 : decode cX3_parsePlain 16 = .ok (.getfield 15, 3) := by decide +kernel
theorem dX3_parsePlain_19 : decode cX3_parsePlain 19 = .ok (.if_icmp .ne 12, 3) := by decide +kernel
theorem dX3_parsePlain_22 : decode cX3_parsePlain 22 = .ok (.aload_n 1, 1) := by decide +kernel
theorem dX3_parsePlain_23 : decode cX3_parsePlain 23 = .ok (.iconst 0, 1) := by decide +kernel
theorem dX3_parsePlain_24 : decode cX3_parsePlain 24 = .ok (.iconst 0, 1) := by decide +kernel
theorem dX3_parsePlain_25 : decode cX3_parsePlain 25 = .ok (.iconst 1, 1) := by decide +kernel
theorem dX3_parsePlain_26 : decode cX3_parsePlain 26 = .ok (.invokevirtual 37, 3) := by decide +kernel
theorem dX3_parsePlain_29 : decode cX3_parsePlain 29 = .ok (.iconst 1, 1) := by decide +kernel
theorem dX3_parsePlain_30 : decode cX3_parsePlain 30 = .ok (.ireturn, 1) := by decide +kernel
theorem dX3_parsePlain_31 : decode cX3_parsePlain 31 = .ok (.aload_n 0, 1) := by decide +kernel
theorem dX3_parsePlain_32 : decode cX3_parsePlain 32 = .ok (.ldc 43, 2) := by decide +kernel
theorem dX3_parsePlain_34 : decode cX3_parsePlain 34 = .ok (.invokevirtual 45, 3) := by decide +kernel
theorem dX3_parsePlain_37 : decode cX3_parsePlain 37 = .ok (.ifCond .eq 12, 3) := by decide +kernel
theorem dX3_parsePlain_40 : decode cX3_parsePlain 40 = .ok (.aload_n 0, 1) := by decide +kernel
theorem dX3_parsePlain_41 : decode cX3_parsePlain 41 = .ok (.aload_n 1, 1) := by decide +kernel
theorem dX3_parsePlain_42 : decode cX3_parsePlain 42 = .ok (.iconst 1, 1) := by decide +kernel
theorem dX3_parsePlain_43 : decode cX3_parsePlain 43 = .ok (.invokevirtual 33, 3) := by decide +kernel
theorem dX3_parsePlain_46 : decode cX3_parsePlain 46 = .ok (.ifCond .ne 5, 3) := by decide +kernel
theorem dX3_parsePlain_49 : decode cX3_parsePlain 49 = .ok (.iconst 0, 1) := by decide +kernel
theorem dX3_parsePlain_50 : decode cX3_parsePlain 50 = .ok (.ireturn, 1) := by decide +kernel
theorem dX3_parsePlain_51 : decode cX3_parsePlain 51 = .ok (.aload_n 0, 1) := by decide +kernel
theorem dX3_parsePlain_52 : decode cX3_parsePlain 52 = .ok (.bipush 109, 2) := by decide +kernel
theorem dX3_parsePlain_54 : decode cX3_parsePlain 54 = .ok (.invokevirtual 22, 3) := by decide +kernel
theorem dX3_parsePlain_57 : decode cX3_parsePlain 57 = .ok (.ifCond .ne 17, 3) := by decide +kernel
theorem dX3_parsePlain_60 : decode cX3_parsePlain 60 = .ok (.aload_n 1, 1) := by decide +kernel
theorem dX3_parsePlain_61 : decode cX3_parsePlain 61 = .ok (.iconst 1, 1) := by decide +kernel
theorem dX3_parsePlain_62 : decode cX3_parsePlain 62 = .ok (.iconst 1, 1) := by decide +kernel
theorem dX3_parsePlain_63 : decode cX3_parsePlain 63 = .ok (.iconst 2, 1) := by decide +kernel
theorem dX3_parsePlain_64 : decode cX3_parsePlain 64 = .ok (.invokevirtual 37, 3) := by decide +kernel
theorem dX3_parsePlain_67 : decode cX3_parsePlain 67 = .ok (.aload_n 0, 1) := by decide +kernel
theorem dX3_parsePlain_68 : decode cX3_parsePlain 68 = .ok (.ldc 49, 2) := by decide +kernel
theorem dX3_parsePlain_70 : decode cX3_parsePlain 70 = .ok (.invokevirtual 45, 3) := by decide +kernel
theorem dX3_parsePlain_73 : decode cX3_parsePlain 73 = .ok (.ireturn, 1) := by decide +kernel
theorem dX3_parsePlain_74 : decode cX3_parsePlain 74 = .ok (.aload_n 1, 1) := by decide +kernel
theorem dX3_parsePlain_75 : decode cX3_parsePlain 75 = .ok (.iconst 2, 1) := by decide +kernel
theorem dX3_parsePlain_76 : decode cX3_parsePlain 76 = .ok (.iconst 1, 1) := by decide +kernel
theorem dX3_parsePlain_77 : decode cX3_parsePlain 77 = .ok (.iconst 3, 1) := by decide +kernel
theorem dX3_parsePlain_78 : decode cX3_parsePlain 78 = .ok (.invokevirtual 37, 3) := by decide +kernel
theorem dX3_parsePlain_81 : decode cX3_parsePlain 81 = .ok (.aload_n 0, 1) := by decide +kernel
theorem dX3_parsePlain_82 : decode cX3_parsePlain 82 = .ok (.ldc 51, 2) := by decide +kernel
theorem dX3_parsePlain_84 : decode cX3_parsePlain 84 = .ok (.invokevirtual 45, 3) := by decide +kernel
theorem dX3_parsePlain_87 : decode cX3_parsePlain 87 = .ok (.ifCond .eq 25, 3) := by decide +kernel
theorem dX3_parsePlain_90 : decode cX3_parsePlain 90 = .ok (.aload_n 0, 1) := by decide +kernel
theorem dX3_parsePlain_91 : decode cX3_parsePlain 91 = .ok (.aload_n 1, 1) := by decide +kernel
theorem dX3_parsePlain_92 : decode cX3_parsePlain 92 = .ok (.iconst 2, 1) := by decide +kernel
theorem dX3_parsePlain_93 : decode cX3_parsePlain 93 = .ok (.invokevirtual 33, 3) := by decide +kernel
theorem dX3_parsePlain_96 : decode cX3_parsePlain 96 = .ok (.ifCond .eq 16, 3) := by decide +kernel
theorem dX3_parsePlain_99 : decode cX3_parsePlain 99 = .ok (.aload_n 0, 1) := by decide +kernel
theorem dX3_parsePlain_100 : decode cX3_parsePlain 100 = .ok (.ldc 49, 2) := by decide +kernel
theorem dX3_parsePlain_102 : decode cX3_parsePlain 102 = .ok (.invokevirtual 45, 3) := by decide +kernel
theorem dX3_parsePlain_105 : decode cX3_parsePlain 105 = .ok (.ifCond .eq 7, 3) := by decide +kernel
theorem dX3_parsePlain_108 : decode cX3_parsePlain 108 = .ok (.iconst 1, 1) := by decide +kernel
theorem dX3_parsePlain_109 : decode cX3_parsePlain 109 = .ok (.goto 4, 3) := by decide +kernel
theorem dX3_parsePlain_112 : decode cX3_parsePlain 112 = .ok (.iconst 0, 1) := by decide +kernel
theorem dX3_parsePlain_113 : decode cX3_parsePlain 113 = .ok (.ireturn, 1) := by decide +kernel
set_option maxRecDepth 20000 in
theorem ggX3_parseBent_X3_parseList : GoodIn wsX3_parseBent wsX3_parseList := goodIn_r _ [6, 1, 7, 8, 9, 5, 10, 11, 12, 13, 14, 15, 16, 17, 18, 19, 20, 21, 22, 23, 24, 86, 87, 88, 89, 90, 91, 92] (by decide +kernel) (by decide +kernel)
set_option maxRecDepth 20000 in
theorem gX3_parseBent_X3_parseList : GoodIn wsX3_parseBent (wsV RX3 53 RX3 yX3_parseList wsX3_parseList) := goodIn_app (goodIn_of _ (by decide +kernel)) ggX3_parseBent_X3_parseList
set_option maxRecDepth 20000 in
theorem ggX3_parseBent_X3_parseWord : GoodIn wsX3_parseBent wsX3_parseWord := goodIn_r _ [28, 1, 29, 30, 31, 32, 33, 34, 35, 36, 37, 38, 39, 40, 41, 42, 43, 44, 45, 46, 47, 48, 49, 50, 51, 52, 53, 54, 55, 56, 57, 58, 59, 60, 61, 62, 63, 64, 65, 66, 67, 68, 69, 70, 71, 72, 73, 74, 75, 76, 77, 7, 8, 9, 5, 10, 11, 12, 86, 87, 88] (by decide +kernel) (by decide +kernel)
set_option maxRecDepth 20000 in
theorem gX3_parseBent_X3_parseWord : GoodIn wsX3_parseBent (wsV RX3 45 RX3 yX3_parseWord wsX3_parseWord) := goodIn_app (goodIn_of _ (by decide +kernel)) ggX3_parseBent_X3_parseWord
set_option maxRecDepth 20000 in
theorem ggX3_parseBent_X2_form : GoodIn wsX3_parseBent wsX2_form := goodIn_r _ [82, 83, 84, 85, 89, 90, 91, 92] (by decide +kernel) (by decide +kernel)
set_option maxRecDepth 20000 in
theorem gX3_parseBent_X2_form : GoodIn wsX3_parseBent (wsV RX3 37 RX2 yX2_form wsX2_form) := goodIn_app (goodIn_of _ (by decide +kernel)) ggX3_parseBent_X2_form
theorem dX3_parseBent_0 : decode cX3_parseBent 0 = .ok (.aload_n 0, 1) := by decide +kernel
theorem dX3_parseBent_1 : decode cX3_parseBent 1 = .ok (.dup, 1) := by decide +kernel
theorem dX3_parseBent_2 : decode cX3_parseBent 2 = .ok (.getfield 19, 3) := by decide +kernel
theorem dX3_parseBent_5 : decode cX3_parseBent 5 = .ok (.iconst 1, 1) := by decide +kernel
theorem dX3_parseBent_6 : decode cX3_parseBent 6 = .ok (.iadd, 1) := by decide +kernel
theorem dX3_parseBent_7 : decode cX3_parseBent 7 = .ok (.putfield 19, 3) := by decide +kernel
theorem dX3_parseBent_10 : decode cX3_parseBent 10 = .ok (.aload_n 0, 1) := by decide +kernel
theorem dX3_parseBent_11 : decode cX3_parseBent 11 = .ok (.aload_n 1, 1) := by decide +kernel
theorem dX3_parseBent_12 : decode cX3_parseBent 12 = .ok (.iconst 0, 1) := by decide +kernel
theorem dX3_parseBent_13 : decode cX3_parseBent 13 = .ok (.invokevirtual 53, 3) := by decide +kernel
theorem dX3_parseBent_16 : decode cX3_parseBent 16 = .ok (.istore_n 2, 1) := by decide +kernel
theorem dX3_parseBent_17 : decode cX3_parseBent 17 = .ok (.iload_n 2, 1) := by decide +kernel
theorem dX3_parseBent_18 : decode cX3_parseBent 18 = .ok (.iconst (-1), 1) := by decide +kernel
theorem dX3_parseBent_19 : decode cX3_parseBent 19 = .ok (.if_icmp .eq 12, 3) := by decide +kernel
theorem dX3_parseBent_22 : decode cX3_parseBent 22 = .ok (.aload_n 0, 1) := by decide +kernel
theorem dX3_parseBent_23 : decode cX3_parseBent 23 = .ok (.ldc 57, 2) := by decide +kernel
theorem dX3_parseBent_25 : decode cX3_parseBent 25 = .ok (.invokevirtual 45, 3) := by decide +kernel
theorem dX3_parseBent_28 : decode cX3_parseBent 28 = .ok (.ifCond .ne 5, 3) := by decide +kernel
theorem dX3_parseBent_31 : decode cX3_parseBent 31 = .ok (.iconst 0, 1) := by decide +kernel
theorem dX3_parseBent_32 : decode cX3_parseBent 32 = .ok (.ireturn, 1) := by decide +kernel
theorem dX3_parseBent_33 : decode cX3_parseBent 33 = .ok (.aload_n 0, 1) := by decide +kernel
theorem dX3_parseBent_34 : decode cX3_parseBent 34 = .ok (.aload_n 1, 1) := by decide +kernel
theorem dX3_parseBent_35 : decode cX3_parseBent 35 = .ok (.iload_n 2, 1) := by decide +kernel
theorem dX3_parseBent_36 : decode cX3_parseBent 36 = .ok (.invokevirtual 53, 3) := by decide +kernel
theorem dX3_parseBent_39 : decode cX3_parseBent 39 = .ok (.istore_n 3, 1) := by decide +kernel
theorem dX3_parseBent_40 : decode cX3_parseBent 40 = .ok (.iload_n 3, 1) := by decide +kernel
theorem dX3_parseBent_41 : decode cX3_parseBent 41 = .ok (.iconst (-1), 1) := by decide +kernel
theorem dX3_parseBent_42 : decode cX3_parseBent 42 = .ok (.if_icmp .eq 9, 3) := by decide +kernel
theorem dX3_parseBent_45 : decode cX3_parseBent 45 = .ok (.iload_n 2, 1) := by decide +kernel
theorem dX3_parseBent_46 : decode cX3_parseBent 46 = .ok (.iload_n 3, 1) := by decide +kernel
theorem dX3_parseBent_47 : decode cX3_parseBent 47 = .ok (.iadd, 1) := by decide +kernel
theorem dX3_parseBent_48 : decode cX3_parseBent 48 = .ok (.ifCond .ne 5, 3) := by decide +kernel
theorem dX3_parseBent_51 : decode cX3_parseBent 51 = .ok (.iconst 0, 1) := by decide +kernel
theorem dX3_parseBent_52 : decode cX3_parseBent 52 = .ok (.ireturn, 1) := by decide +kernel
theorem dX3_parseBent_53 : decode cX3_parseBent 53 = .ok (.aload_n 1, 1) := by decide +kernel
theorem dX3_parseBent_54 : decode cX3_parseBent 54 = .ok (.iconst 3, 1) := by decide +kernel
theorem dX3_parseBent_55 : decode cX3_parseBent 55 = .ok (.iload_n 2, 1) := by decide +kernel
theorem dX3_parseBent_56 : decode cX3_parseBent 56 = .ok (.iload_n 2, 1) := by decide +kernel
theorem dX3_parseBent_57 : decode cX3_parseBent 57 = .ok (.iload_n 3, 1) := by decide +kernel
theorem dX3_parseBent_58 : decode cX3_parseBent 58 = .ok (.iadd, 1) := by decide +kernel
theorem dX3_parseBent_59 : decode cX3_parseBent 59 = .ok (.invokevirtual 37, 3) := by decide +kernel
theorem dX3_parseBent_62 : decode cX3_parseBent 62 = .ok (.aload_n 0, 1) := by decide +kernel
theorem dX3_parseBent_63 : decode cX3_parseBent 63 = .ok (.ldc 59, 2) := by decide +kernel
theorem dX3_parseBent_65 : decode cX3_parseBent 65 = .ok (.invokevirtual 45, 3) := by decide +kernel
theorem dX3_parseBent_68 : decode cX3_parseBent 68 = .ok (.ireturn, 1) := by decide +kernel
set_option maxRecDepth 20000 in
theorem ggX3_parseList_X3_isNext : GoodIn wsX3_parseList wsX3_isNext := goodIn_r _ [6, 1, 7, 8, 21, 22, 23] (by decide +kernel) (by decide +kernel)
set_option maxRecDepth 20000 in
theorem gX3_parseList_X3_isNext : GoodIn wsX3_parseList (wsV RX3 22 RX3 yX3_isNext wsX3_isNext) := goodIn_app (goodIn_of _ (by decide +kernel)) ggX3_parseList_X3_isNext
set_option maxRecDepth 20000 in
theorem ggX3_parseList_X3_parseNumber : GoodIn wsX3_parseList wsX3_parseNumber := goodIn_r _ [12, 1, 13, 14, 15, 16, 2, 3, 4, 5, 6, 7, 8, 17, 18, 19, 20, 21, 22, 23, 24, 25, 26, 27] (by decide +kernel) (by decide +kernel)
set_option maxRecDepth 20000 in
theorem gX3_parseList_X3_parseNumber : GoodIn wsX3_parseList (wsV RX3 33 RX3 yX3_parseNumber wsX3_parseNumber) := goodIn_app (goodIn_of _ (by decide +kernel)) ggX3_parseList_X3_parseNumber
theorem dX3_parseList_0 : decode cX3_parseList 0 = .ok (.iconst 0, 1) := by decide +kernel
theorem dX3_parseList_1 : decode cX3_parseList 1 = .ok (.istore_n 3, 1) := by decide +kernel
theorem dX3_parseList_2 : decode cX3_parseList 2 = .ok (.aload_n 0, 1) := by decide +kernel
theorem dX3_parseList_3 : decode cX3_parseList 3 = .ok (.bipush 93, 2) := by decide +kernel
theorem dX3_parseList_5 : decode cX3_parseList 5 = .ok (.invokevirtual 22, 3) := by decide +kernel
theorem dX3_parseList_8 : decode cX3_parseList 8 = .ok (.ifCond .ne 7, 3) := by decide +kernel
theorem dX3_parseList_11 : decode cX3_parseList 11 = .ok (.iconst 1, 1) := by decide +kernel
theorem dX3_parseList_12 : decode cX3_parseList 12 = .ok (.goto 4, 3) := by decide +kernel
theorem dX3_parseList_15 : decode cX3_parseList 15 = .ok (.iconst 0, 1) := by decide +kernel
theorem dX3_parseList_16 : decode cX3_parseList 16 = .ok (.istore 4, 2) := by decide +kernel
theorem dX3_parseList_18 : decode cX3_parseList 18 = .ok (.iload 4, 2) := by decide +kernel
theorem dX3_parseList_20 : decode cX3_parseList 20 = .ok (.ifCond .eq 65, 3) := by decide +kernel
theorem dX3_parseList_23 : decode cX3_parseList 23 = .ok (.iload_n 3, 1) := by decide +kernel
theorem dX3_parseList_24 : decode cX3_parseList 24 = .ok (.bipush 6, 2) := by decide +kernel
theorem dX3_parseList_26 : decode cX3_parseList 26 = .ok (.if_icmp .ge 59, 3) := by decide +kernel
theorem dX3_parseList_29 : decode cX3_parseList 29 = .ok (.aload_n 0, 1) := by decide +kernel
theorem dX3_parseList_30 : decode cX3_parseList 30 = .ok (.aload_n 1, 1) := by decide +kernel
theorem dX3_parseList_31 : decode cX3_parseList 31 = .ok (.iload_n 2, 1) := by decide +kernel
theorem dX3_parseList_32 : decode cX3_parseList 32 = .ok (.iload_n 3, 1) := by decide +kernel
theorem dX3_parseList_33 : decode cX3_parseList 33 = .ok (.iadd, 1) := by decide +kernel
theorem dX3_parseList_34 : decode cX3_parseList 34 = .ok (.invokevirtual 33, 3) := by decide +kernel
theorem dX3_parseList_37 : decode cX3_parseList 37 = .ok (.ifCond .ne 5, 3) := by decide +kernel
theorem dX3_parseList_40 : decode cX3_parseList 40 = .ok (.iconst (-1), 1) := by decide +kernel
theorem dX3_parseList_41 : decode cX3_parseList 41 = .ok (.ireturn, 1) := by decide +kernel
theorem dX3_parseList_42 : decode cX3_parseList 42 = .ok (.iinc 3 1, 3) := by decide +kernel
theorem dX3_parseList_45 : decode cX3_parseList 45 = .ok (.iload_n 3, 1) := by decide +kernel
theorem dX3_parseList_46 : decode cX3_parseList 46 = .ok (.bipush 6, 2) := by decide +kernel
theorem dX3_parseList_48 : decode cX3_parseList 48 = .ok (.if_icmp .ge 16, 3) := by decide +kernel
theorem dX3_parseList_51 : decode cX3_parseList 51 = .ok (.aload_n 0, 1) := by decide +kernel
theorem dX3_parseList_52 : decode cX3_parseList 52 = .ok (.bipush 47, 2) := by decide +kernel
theorem dX3_parseList_54 : decode cX3_parseList 54 = .ok (.invokevirtual 22, 3) := by decide +kernel
theorem dX3_parseList_57 : decode cX3_parseList 57 = .ok (.ifCond .eq 7, 3) := by decide +kernel
theorem dX3_parseList_60 : decode cX3_parseList 60 = .ok (.iconst 1, 1) := by decide +kernel
theorem dX3_parseList_61 : decode cX3_parseList 61 = .ok (.goto 4, 3) := by decide +kernel
theorem dX3_parseList_64 : decode cX3_parseList 64 = .ok (.iconst 0, 1) := by decide +kernel
theorem dX3_parseList_65 : decode cX3_parseList 65 = .ok (.istore 4, 2) := by decide +kernel
theorem dX3_parseList_67 : decode cX3_parseList 67 = .ok (.iload 4, 2) := by decide +kernel
theorem dX3_parseList_69 : decode cX3_parseList 69 = .ok (.ifCond .eq (-51), 3) := by decide +kernel
theorem dX3_parseList_72 : decode cX3_parseList 72 = .ok (.aload_n 0, 1) := by decide +kernel
theorem dX3_parseList_73 : decode cX3_parseList 73 = .ok (.dup, 1) := by decide +kernel
theorem dX3_parseList_74 : decode cX3_parseList 74 = .ok (.getfield 19, 3) := by decide +kernel
theorem dX3_parseList_77 : decode cX3_parseList 77 = .ok (.iconst 1, 1) := by decide +kernel
theorem dX3_parseList_78 : decode cX3_parseList 78 = .ok (.iadd, 1) := by decide +kernel
theorem dX3_parseList_79 : decode cX3_parseList 79 = .ok (.putfield 19, 3) := by decide +kernel
theorem dX3_parseList_82 : decode cX3_parseList 82 = .ok (.goto (-64), 3) := by decide +kernel
theorem dX3_parseList_85 : decode cX3_parseList 85 = .ok (.iload_n 3, 1) := by decide +kernel
theorem dX3_parseList_86 : decode cX3_parseList 86 = .ok (.ireturn, 1) := by decide +kernel
set_option maxRecDepth 20000 in
theorem ggX3_parseNumber_X3_isNext : GoodIn wsX3_parseNumber wsX3_isNext := goodIn_r _ [10, 1, 11, 12, 17, 18, 19] (by decide +kernel) (by decide +kernel)
set_option maxRecDepth 20000 in
theorem gX3_parseNumber_X3_isNext : GoodIn wsX3_parseNumber (wsV RX3 22 RX3 yX3_isNext wsX3_isNext) := goodIn_app (goodIn_of _ (by decide +kernel)) ggX3_parseNumber_X3_isNext
set_option maxRecDepth 20000 in
theorem ggX3_parseNumber_X3_nextDigit : GoodIn wsX3_parseNumber wsX3_nextDigit := goodIn_r _ [16, 1, 11, 12, 17, 18, 19] (by decide +kernel) (by decide +kernel)
set_option maxRecDepth 20000 in
theorem gX3_parseNumber_X3_nextDigit : GoodIn wsX3_parseNumber (wsV RX3 61 RX3 yX3_nextDigit wsX3_nextDigit) := goodIn_app (goodIn_of _ (by decide +kernel)) ggX3_parseNumber_X3_nextDigit
theorem dX3_parseNumber_0 : decode cX3_parseNumber 0 = .ok (.aload_n 0, 1) := by decide +kernel
theorem dX3_parseNumber_1 : decode cX3_parseNumber 1 = .ok (.bipush 45, 2) := by decide +kernel
theorem dX3_parseNumber_3 : decode cX3_parseNumber 3 = .ok (.invokevirtual 22, 3) := by decide +kernel
theorem dX3_parseNumber_6 : decode cX3_parseNumber 6 = .ok (.istore_n 3, 1) := by decide +kernel
theorem dX3_parseNumber_7 : decode cX3_parseNumber 7 = .ok (.iload_n 3, 1) := by decide +kernel
theorem dX3_parseNumber_8 : decode cX3_parseNumber 8 = .ok (.ifCond .eq 13, 3) := by decide +kernel
theorem dX3_parseNumber_11 : decode cX3_parseNumber 11 = .ok (.aload_n 0, 1) := by decide +kernel
theorem dX3_parseNumber_12 : decode cX3_parseNumber 12 = .ok (.dup, 1) := by decide +kernel
theorem dX3_parseNumber_13 : decode cX3_parseNumber 13 = .ok (.getfield 19, 3) := by decide +kernel
theorem dX3_parseNumber_16 : decode cX3_parseNumber 16 = .ok (.iconst 1, 1) := by decide +kernel
theorem dX3_parseNumber_17 : decode cX3_parseNumber 17 = .ok (.iadd, 1) := by decide +kernel
theorem dX3_parseNumber_18 : decode cX3_parseNumber 18 = .ok (.putfield 19, 3) := by decide +kernel
theorem dX3_parseNumber_21 : decode cX3_parseNumber 21 = .ok (.aload_n 0, 1) := by decide +kernel
theorem dX3_parseNumber_22 : decode cX3_parseNumber 22 = .ok (.invokevirtual 61, 3) := by decide +kernel
theorem dX3_parseNumber_25 : decode cX3_parseNumber 25 = .ok (.istore 4, 2) := by decide +kernel
theorem dX3_parseNumber_27 : decode cX3_parseNumber 27 = .ok (.iload 4, 2) := by decide +kernel
theorem dX3_parseNumber_29 : decode cX3_parseNumber 29 = .ok (.iload_n 3, 1) := by decide +kernel
theorem dX3_parseNumber_30 : decode cX3_parseNumber 30 = .ok (.ifCond .eq 7, 3) := by decide +kernel
theorem dX3_parseNumber_33 : decode cX3_parseNumber 33 = .ok (.iconst 1, 1) := by decide +kernel
theorem dX3_parseNumber_34 : decode cX3_parseNumber 34 = .ok (.goto 4, 3) := by decide +kernel
theorem dX3_parseNumber_37 : decode cX3_parseNumber 37 = .ok (.iconst 0, 1) := by decide +kernel
theorem dX3_parseNumber_38 : decode cX3_parseNumber 38 = .ok (.if_icmp .ge 5, 3) := by decide +kernel
theorem dX3_parseNumber_41 : decode cX3_parseNumber 41 = .ok (.iconst 0, 1) := by decide +kernel
theorem dX3_parseNumber_42 : decode cX3_parseNumber 42 = .ok (.ireturn, 1) := by decide +kernel
theorem dX3_parseNumber_43 : decode cX3_parseNumber 43 = .ok (.iload_n 3, 1) := by decide +kernel
theorem dX3_parseNumber_44 : decode cX3_parseNumber 44 = .ok (.ifCond .eq 9, 3) := by decide +kernel
theorem dX3_parseNumber_47 : decode cX3_parseNumber 47 = .ok (.ldc2_w 67, 3) := by decide +kernel
theorem dX3_parseNumber_50 : decode cX3_parseNumber 50 = .ok (.goto 6, 3) := by decide +kernel
theorem dX3_parseNumber_53 : decode cX3_parseNumber 53 = .ok (.ldc2_w 69, 3) := by decide +kernel
theorem dX3_parseNumber_56 : decode cX3_parseNumber 56 = .ok (.lstore 5, 2) := by decide +kernel
theorem dX3_parseNumber_58 : decode cX3_parseNumber 58 = .ok (.iload 4, 2) := by decide +kernel
theorem dX3_parseNumber_60 : decode cX3_parseNumber 60 = .ok (.ifCond .ne 7, 3) := by decide +kernel
theorem dX3_parseNumber_63 : decode cX3_parseNumber 63 = .ok (.iconst 1, 1) := by decide +kernel
theorem dX3_parseNumber_64 : decode cX3_parseNumber 64 = .ok (.goto 5, 3) := by decide +kernel
theorem dX3_parseNumber_67 : decode cX3_parseNumber 67 = .ok (.bipush 19, 2) := by decide +kernel
theorem dX3_parseNumber_69 : decode cX3_parseNumber 69 = .ok (.istore 7, 2) := by decide +kernel
theorem dX3_parseNumber_71 : decode cX3_parseNumber 71 = .ok (.lconst 0, 1) := by decide +kernel
theorem dX3_parseNumber_72 : decode cX3_parseNumber 72 = .ok (.lstore 8, 2) := by decide +kernel
theorem dX3_parseNumber_74 : decode cX3_parseNumber 74 = .ok (.iconst 0, 1) := by decide +kernel
theorem dX3_parseNumber_75 : decode cX3_parseNumber 75 = .ok (.istore 10, 2) := by decide +kernel
theorem dX3_parseNumber_77 : decode cX3_parseNumber 77 = .ok (.iload 10, 2) := by decide +kernel
theorem dX3_parseNumber_79 : decode cX3_parseNumber 79 = .ok (.iload 7, 2) := by decide +kernel
theorem dX3_parseNumber_81 : decode cX3_parseNumber 81 = .ok (.if_icmp .ge 58, 3) := by decide +kernel
theorem dX3_parseNumber_84 : decode cX3_parseNumber 84 = .ok (.iload 4, 2) := by decide +kernel
theorem dX3_parseNumber_86 : decode cX3_parseNumber 86 = .ok (.ifCond .lt 53, 3) := by decide +kernel
theorem dX3_parseNumber_89 : decode cX3_parseNumber 89 = .ok (.lload 8, 2) := by decide +kernel
theorem dX3_parseNumber_91 : decode cX3_parseNumber 91 = .ok (.lload 5, 2) := by decide +kernel
theorem dX3_parseNumber_93 : decode cX3_parseNumber 93 = .ok (.iload 4, 2) := by decide +kernel
theorem dX3_parseNumber_95 : decode cX3_parseNumber 95 = .ok (.i2l, 1) := by decide +kernel
theorem dX3_parseNumber_96 : decode cX3_parseNumber 96 = .ok (.ladd, 1) := by decide +kernel
theorem dX3_parseNumber_97 : decode cX3_parseNumber 97 = .ok (.ldc2_w 71, 3) := by decide +kernel
theorem dX3_parseNumber_100 : decode cX3_parseNumber 100 = .ok (.ldiv, 1) := by decide +kernel
theorem dX3_parseNumber_101 : decode cX3_parseNumber 101 = .ok (.lcmp, 1) := by decide +kernel
theorem dX3_parseNumber_102 : decode cX3_parseNumber 102 = .ok (.ifCond .lt 37, 3) := by decide +kernel
theorem dX3_parseNumber_105 : decode cX3_parseNumber 105 = .ok (.lload 8, 2) := by decide +kernel
theorem dX3_parseNumber_107 : decode cX3_parseNumber 107 = .ok (.ldc2_w 71, 3) := by decide +kernel
theorem dX3_parseNumber_110 : decode cX3_parseNumber 110 = .ok (.lmul, 1) := by decide +kernel
theorem dX3_parseNumber_111 : decode cX3_parseNumber 111 = .ok (.iload 4, 2) := by decide +kernel
theorem dX3_parseNumber_113 : decode cX3_parseNumber 113 = .ok (.i2l, 1) := by decide +kernel
theorem dX3_parseNumber_114 : decode cX3_parseNumber 114 = .ok (.lsub, 1) := by decide +kernel
theorem dX3_parseNumber_115 : decode cX3_parseNumber 115 = .ok (.lstore 8, 2) := by decide +kernel
theorem dX3_parseNumber_117 : decode cX3_parseNumber 117 = .ok (.aload_n 0, 1) := by decide +kernel
theorem dX3_parseNumber_118 : decode cX3_parseNumber 118 = .ok (.dup, 1) := by decide +kernel
theorem dX3_parseNumber_119 : decode cX3_parseNumber 119 = .ok (.getfield 19, 3) := by decide +kernel
theorem dX3_parseNumber_122 : decode cX3_parseNumber 122 = .ok (.iconst 1, 1) := by decide +kernel
theorem dX3_parseNumber_123 : decode cX3_parseNumber 123 = .ok (.iadd, 1) := by decide +kernel
theorem dX3_parseNumber_124 : decode cX3_parseNumber 124 = .ok (.putfield 19, 3) := by decide +kernel
theorem dX3_parseNumber_127 : decode cX3_parseNumber 127 = .ok (.aload_n 0, 1) := by decide +kernel
theorem dX3_parseNumber_128 : decode cX3_parseNumber 128 = .ok (.invokevirtual 61, 3) := by decide +kernel
theorem dX3_parseNumber_131 : decode cX3_parseNumber 131 = .ok (.istore 4, 2) := by decide +kernel
theorem dX3_parseNumber_133 : decode cX3_parseNumber 133 = .ok (.iinc 10 1, 3) := by decide +kernel
theorem dX3_parseNumber_136 : decode cX3_parseNumber 136 = .ok (.goto (-59), 3) := by decide +kernel
theorem dX3_parseNumber_139 : decode cX3_parseNumber 139 = .ok (.aload_n 1, 1) := by decide +kernel
theorem dX3_parseNumber_140 : decode cX3_parseNumber 140 = .ok (.getfield 73, 3) := by decide +kernel
theorem dX3_parseNumber_143 : decode cX3_parseNumber 143 = .ok (.iload_n 2, 1) := by decide +kernel
theorem dX3_parseNumber_144 : decode cX3_parseNumber 144 = .ok (.iload_n 3, 1) := by decide +kernel
theorem dX3_parseNumber_145 : decode cX3_parseNumber 145 = .ok (.ifCond .eq 8, 3) := by decide +kernel
theorem dX3_parseNumber_148 : decode cX3_parseNumber 148 = .ok (.lload 8, 2) := by decide +kernel
theorem dX3_parseNumber_150 : decode cX3_parseNumber 150 = .ok (.goto 6, 3) := by decide +kernel
theorem dX3_parseNumber_153 : decode cX3_parseNumber 153 = .ok (.lload 8, 2) := by decide +kernel
theorem dX3_parseNumber_155 : decode cX3_parseNumber 155 = .ok (.lneg, 1) := by decide +kernel
theorem dX3_parseNumber_156 : decode cX3_parseNumber 156 = .ok (.lastore, 1) := by decide +kernel
theorem dX3_parseNumber_157 : decode cX3_parseNumber 157 = .ok (.iconst 1, 1) := by decide +kernel
theorem dX3_parseNumber_158 : decode cX3_parseNumber 158 = .ok (.ireturn, 1) := by decide +kernel
set_option maxRecDepth 20000 in
theorem ggX3_parseWord_J0_length_8abf5 : GoodIn wsX3_parseWord wsJ0_length_8abf5 := goodIn_r _ [6, 7, 8, 9, 10, 5, 11, 12, 13] (by decide +kernel) (by decide +kernel)
set_option maxRecDepth 20000 in
theorem gX3_parseWord_J0_length_8abf5 : GoodIn wsX3_parseWord (wsV RX3 77 RJ0 yJ0_length_8abf5 wsJ0_length_8abf5) := goodIn_app (goodIn_of _ (by decide +kernel)) ggX3_parseWord_J0_length_8abf5
set_option maxRecDepth 20000 in
theorem ggX3_parseWord_J0_charAt_5068e : GoodIn wsX3_parseWord wsJ0_charAt_5068e := goodIn_r _ [17, 7, 18, 19, 20, 5, 21, 12, 13, 22, 23, 24, 25, 26, 27, 28, 29, 30, 31, 32, 33, 34, 35, 36, 37, 38, 39, 40, 41, 42, 43, 44, 45, 46, 47, 48, 49, 50] (by decide +kernel) (by decide +kernel)
set_option maxRecDepth 20000 in
theorem gX3_parseWord_J0_charAt_5068e : GoodIn wsX3_parseWord (wsV RX3 81 RJ0 yJ0_charAt_5068e wsJ0_charAt_5068e) := goodIn_app (goodIn_of _ (by decide +kernel)) ggX3_parseWord_J0_charAt_5068e
set_option maxRecDepth 20000 in
theorem ggX3_parseWord_X3_isNext : GoodIn wsX3_parseWord wsX3_isNext := goodIn_r _ [55, 1, 56, 57, 58, 59, 60] (by decide +kernel) (by decide +kernel)
set_option maxRecDepth 20000 in
theorem gX3_parseWord_X3_isNext : GoodIn wsX3_parseWord (wsV RX3 22 RX3 yX3_isNext wsX3_isNext) := goodIn_app (goodIn_of _ (by decide +kernel)) ggX3_parseWord_X3_isNext
theorem dX3_parseWord_0 : decode cX3_parseWord 0 = .ok (.iconst 0, 1) := by decide +kernel
theorem dX3_parseWord_1 : decode cX3_parseWord 1 = .ok (.istore_n 2, 1) := by decide +kernel
theorem dX3_parseWord_2 : decode cX3_parseWord 2 = .ok (.iload_n 2, 1) := by decide +kernel
theorem dX3_parseWord_3 : decode cX3_parseWord 3 = .ok (.aload_n 1, 1) := by decide +kernel
theorem dX3_parseWord_4 : decode cX3_parseWord 4 = .ok (.invokevirtual 77, 3) := by decide +kernel
theorem dX3_parseWord_7 : decode cX3_parseWord 7 = .ok (.if_icmp .ge 33, 3) := by decide +kernel
theorem dX3_parseWord_10 : decode cX3_parseWord 10 = .ok (.aload_n 0, 1) := by decide +kernel
theorem dX3_parseWord_11 : decode cX3_parseWord 11 = .ok (.aload_n 1, 1) := by decide +kernel
theorem dX3_parseWord_12 : decode cX3_parseWord 12 = .ok (.iload_n 2, 1) := by decide +kernel
theorem dX3_parseWord_13 : decode cX3_parseWord 13 = .ok (.invokevirtual 81, 3) := by decide +kernel
theorem dX3_parseWord_16 : decode cX3_parseWord 16 = .ok (.invokevirtual 22, 3) := by decide +kernel
theorem dX3_parseWord_19 : decode cX3_parseWord 19 = .ok (.ifCond .ne 5, 3) := by decide +kernel
theorem dX3_parseWord_22 : decode cX3_parseWord 22 = .ok (.iconst 0, 1) := by decide +kernel
theorem dX3_parseWord_23 : decode cX3_parseWord 23 = .ok (.ireturn, 1) := by decide +kernel
theorem dX3_parseWord_24 : decode cX3_parseWord 24 = .ok (.aload_n 0, 1) := by decide +kernel
theorem dX3_parseWord_25 : decode cX3_parseWord 25 = .ok (.dup, 1) := by decide +kernel
theorem dX3_parseWord_26 : decode cX3_parseWord 26 = .ok (.getfield 19, 3) := by decide +kernel
theorem dX3_parseWord_29 : decode cX3_parseWord 29 = .ok (.iconst 1, 1) := by decide +kernel
theorem dX3_parseWord_30 : decode cX3_parseWord 30 = .ok (.iadd, 1) := by decide +kernel
theorem dX3_parseWord_31 : decode cX3_parseWord 31 = .ok (.putfield 19, 3) := by decide +kernel
theorem dX3_parseWord_34 : decode cX3_parseWord 34 = .ok (.iinc 2 1, 3) := by decide +kernel
theorem dX3_parseWord_37 : decode cX3_parseWord 37 = .ok (.goto (-35), 3) := by decide +kernel
theorem dX3_parseWord_40 : decode cX3_parseWord 40 = .ok (.iconst 1, 1) := by decide +kernel
theorem dX3_parseWord_41 : decode cX3_parseWord 41 = .ok (.ireturn, 1) := by decide +kernel
theorem dX3_isNext_0 : decode cX3_isNext 0 = .ok (.aload_n 0, 1) := by decide +kernel
theorem dX3_isNext_1 : decode cX3_isNext 1 = .ok (.getfield 19, 3) := by decide +kernel
theorem dX3_isNext_4 : decode cX3_isNext 4 = .ok (.aload_n 0, 1) := by decide +kernel
theorem dX3_isNext_5 : decode cX3_isNext 5 = .ok (.getfield 15, 3) := by decide +kernel
theorem dX3_isNext_8 : decode cX3_isNext 8 = .ok (.if_icmp .ge 20, 3) := by decide +kernel
theorem dX3_isNext_11 : decode cX3_isNext 11 = .ok (.aload_n 0, 1) := by decide +kernel
theorem dX3_isNext_12 : decode cX3_isNext 12 = .ok (.getfield 9, 3) := by decide +kernel
theorem dX3_isNext_15 : decode cX3_isNext 15 = .ok (.aload_n 0, 1) := by decide +kernel
theorem dX3_isNext_16 : decode cX3_isNext 16 = .ok (.getfield 19, 3) := by decide +kernel
theorem dX3_isNext_19 : decode cX3_isNext 19 = .ok (.baload, 1) := by decide +kernel
theorem dX3_isNext_20 : decode cX3_isNext 20 = .ok (.iload_n 1, 1) := by decide +kernel
theorem dX3_isNext_21 : decode cX3_isNext 21 = .ok (.if_icmp .ne 7, 3) := by decide +kernel
theorem dX3_isNext_24 : decode cX3_isNext 24 = .ok (.iconst 1, 1) := by decide +kernel
theorem dX3_isNext_25 : decode cX3_isNext 25 = .ok (.goto 4, 3) := by decide +kernel
theorem dX3_isNext_28 : decode cX3_isNext 28 = .ok (.iconst 0, 1) := by decide +kernel
theorem dX3_isNext_29 : decode cX3_isNext 29 = .ok (.ireturn, 1) := by decide +kernel
theorem dX3_nextDigit_0 : decode cX3_nextDigit 0 = .ok (.aload_n 0, 1) := by decide +kernel
theorem dX3_nextDigit_1 : decode cX3_nextDigit 1 = .ok (.getfield 19, 3) := by decide +kernel
theorem dX3_nextDigit_4 : decode cX3_nextDigit 4 = .ok (.aload_n 0, 1) := by decide +kernel
theorem dX3_nextDigit_5 : decode cX3_nextDigit 5 = .ok (.getfield 15, 3) := by decide +kernel
theorem dX3_nextDigit_8 : decode cX3_nextDigit 8 = .ok (.if_icmp .ge 31, 3) := by decide +kernel
theorem dX3_nextDigit_11 : decode cX3_nextDigit 11 = .ok (.aload_n 0, 1) := by decide +kernel
theorem dX3_nextDigit_12 : decode cX3_nextDigit 12 = .ok (.getfield 9, 3) := by decide +kernel
theorem dX3_nextDigit_15 : decode cX3_nextDigit 15 = .ok (.aload_n 0, 1) := by decide +kernel
theorem dX3_nextDigit_16 : decode cX3_nextDigit 16 = .ok (.getfield 19, 3) := by decide +kernel
theorem dX3_nextDigit_19 : decode cX3_nextDigit 19 = .ok (.baload, 1) := by decide +kernel
theorem dX3_nextDigit_20 : decode cX3_nextDigit 20 = .ok (.bipush 48, 2) := by decide +kernel
theorem dX3_nextDigit_22 : decode cX3_nextDigit 22 = .ok (.if_icmp .lt 17, 3) := by decide +kernel
theorem dX3_nextDigit_25 : decode cX3_nextDigit 25 = .ok (.aload_n 0, 1) := by decide +kernel
theorem dX3_nextDigit_26 : decode cX3_nextDigit 26 = .ok (.getfield 9, 3) := by decide +kernel
theorem dX3_nextDigit_29 : decode cX3_nextDigit 29 = .ok (.aload_n 0, 1) := by decide +kernel
theorem dX3_nextDigit_30 : decode cX3_nextDigit 30 = .ok (.getfield 19, 3) := by decide +kernel
theorem dX3_nextDigit_33 : decode cX3_nextDigit 33 = .ok (.baload, 1) := by decide +kernel
theorem dX3_nextDigit_34 : decode cX3_nextDigit 34 = .ok (.bipush 57, 2) := by decide +kernel
theorem dX3_nextDigit_36 : decode cX3_nextDigit 36 = .ok (.if_icmp .le 5, 3) := by decide +kernel
theorem dX3_nextDigit_39 : decode cX3_nextDigit 39 = .ok (.iconst (-1), 1) := by decide +kernel
theorem dX3_nextDigit_40 : decode cX3_nextDigit 40 = .ok (.ireturn, 1) := by decide +kernel
theorem dX3_nextDigit_41 : decode cX3_nextDigit 41 = .ok (.aload_n 0, 1) := by decide +kernel
theorem dX3_nextDigit_42 : decode cX3_nextDigit 42 = .ok (.getfield 9, 3) := by decide +kernel
theorem dX3_nextDigit_45 : decode cX3_nextDigit 45 = .ok (.aload_n 0, 1) := by decide +kernel
theorem dX3_nextDigit_46 : decode cX3_nextDigit 46 = .ok (.getfield 19, 3) := by decide +kernel
theorem dX3_nextDigit_49 : decode cX3_nextDigit 49 = .ok (.baload, 1) := by decide +kernel
theorem dX3_nextDigit_50 : decode cX3_nextDigit 50 = .ok (.bipush 48, 2) := by decide +kernel
theorem dX3_nextDigit_52 : decode cX3_nextDigit 52 = .ok (.isub, 1) := by decide +kernel
theorem dX3_nextDigit_53 : decode cX3_nextDigit 53 = .ok (.ireturn, 1) := by decide +kernel
