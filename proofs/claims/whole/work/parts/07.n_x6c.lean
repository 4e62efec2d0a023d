theorem dX6_row_53 : decode cX6_row 53 = .ok (.aload_n 0, 1) := by decide +kernel
theorem dX6_row_54 : decode cX6_row 54 = .ok (.dup, 1) := by decide +kernel
theorem dX6_row_55 : decode cX6_row 55 = .ok (.getfield 127, 3) := by decide +kernel
theorem dX6_row_58 : decode cX6_row 58 = .ok (.iconst 1, 1) := by decide +kernel
theorem dX6_row_59 : decode cX6_row 59 = .ok (.iadd, 1) := by decide +kernel
theorem dX6_row_60 : decode cX6_row 60 = .ok (.putfield 127, 3) := by decide +kernel
theorem dX6_row_63 : decode cX6_row 63 = .ok (.aload_n 0, 1) := by decide +kernel
theorem dX6_row_64 : decode cX6_row 64 = .ok (.invokevirtual 159, 3) := by decide +kernel
theorem dX6_row_67 : decode cX6_row 67 = .ok (.aload_n 0, 1) := by decide +kernel
theorem dX6_row_68 : decode cX6_row 68 = .ok (.iload_n 1, 1) := by decide +kernel
theorem dX6_row_69 : decode cX6_row 69 = .ok (.iload_n 2, 1) := by decide +kernel
theorem dX6_row_70 : decode cX6_row 70 = .ok (.iadd, 1) := by decide +kernel
theorem dX6_row_71 : decode cX6_row 71 = .ok (.invokevirtual 162, 3) := by decide +kernel
theorem dX6_row_74 : decode cX6_row 74 = .ok (.iinc 2 1, 3) := by decide +kernel
theorem dX6_row_77 : decode cX6_row 77 = .ok (.goto (-46), 3) := by decide +kernel
theorem dX6_row_80 : decode cX6_row 80 = .ok (.iload_n 2, 1) := by decide +kernel
theorem dX6_row_81 : decode cX6_row 81 = .ok (.ireturn, 1) := by decide +kernel
set_option maxRecDepth 20000 in
theorem ggX6_bent_X6_take : GoodIn wsX6_bent wsX6_take := goodIn_r _ [10, 1, 11, 12, 13, 14, 9, 15, 16, 17, 51, 52, 53, 54, 55, 56, 57, 58, 59, 60, 61, 62, 63, 64, 65, 66, 67, 68, 69, 70, 71, 72, 73, 74] (by decide +kernel) (by decide +kernel)
set_option maxRecDepth 20000 in
theorem gX6_bent_X6_take : GoodIn wsX6_bent (wsV RX6 145 RX6 yX6_take wsX6_take) := goodIn_app (goodIn_of _ (by decide +kernel)) ggX6_bent_X6_take
set_option maxRecDepth 20000 in
theorem ggX6_bent_X6_row : GoodIn wsX6_bent wsX6_row := goodIn_r _ [21, 1, 11, 12, 13, 14, 9, 15, 16, 17, 22, 23, 24, 25, 26, 27, 28, 29, 30, 31, 32, 33, 34, 35, 36, 37, 38, 39, 40, 41, 42, 3, 51, 52, 53, 54, 55, 56, 57, 58, 59, 60, 61, 62, 63, 64, 65, 66, 67, 68, 69, 70, 71, 72, 73, 74] (by decide +kernel) (by decide +kernel)
set_option maxRecDepth 20000 in
theorem gX6_bent_X6_row : GoodIn wsX6_bent (wsV RX6 165 RX6 yX6_row wsX6_row) := goodIn_app (goodIn_of _ (by decide +kernel)) ggX6_bent_X6_row
set_option maxRecDepth 20000 in
theorem ggX6_bent_X6_word : GoodIn wsX6_bent wsX6_word := goodIn_r _ [46, 47, 48, 49, 9, 50, 6, 7, 8, 10, 1, 11, 12, 13, 14, 15, 16, 17, 51, 52, 53, 54, 55, 56, 57, 58, 59, 60, 61, 62, 63, 64, 65, 66, 67, 68, 69, 70, 71, 72, 73, 74] (by decide +kernel) (by decide +kernel)
set_option maxRecDepth 20000 in
theorem gX6_bent_X6_word : GoodIn wsX6_bent (wsV RX6 169 RX6 yX6_word wsX6_word) := goodIn_app (goodIn_of _ (by decide +kernel)) ggX6_bent_X6_word
theorem dX6_bent_0 : decode cX6_bent 0 = .ok (.aload_n 0, 1) := by decide +kernel
theorem dX6_bent_1 : decode cX6_bent 1 = .ok (.bipush 91, 2) := by decide +kernel
theorem dX6_bent_3 : decode cX6_bent 3 = .ok (.invokevirtual 145, 3) := by decide +kernel
theorem dX6_bent_6 : decode cX6_bent 6 = .ok (.aload_n 0, 1) := by decide +kernel
theorem dX6_bent_7 : decode cX6_bent 7 = .ok (.iconst 0, 1) := by decide +kernel
theorem dX6_bent_8 : decode cX6_bent 8 = .ok (.invokevirtual 165, 3) := by decide +kernel
theorem dX6_bent_11 : decode cX6_bent 11 = .ok (.istore_n 1, 1) := by decide +kernel
theorem dX6_bent_12 : decode cX6_bent 12 = .ok (.aload_n 0, 1) := by decide +kernel
theorem dX6_bent_13 : decode cX6_bent 13 = .ok (.bipush 93, 2) := by decide +kernel
theorem dX6_bent_15 : decode cX6_bent 15 = .ok (.invokevirtual 145, 3) := by decide +kernel
theorem dX6_bent_18 : decode cX6_bent 18 = .ok (.aload_n 0, 1) := by decide +kernel
theorem dX6_bent_19 : decode cX6_bent 19 = .ok (.iconst 0, 1) := by decide +kernel
theorem dX6_bent_20 : decode cX6_bent 20 = .ok (.invokevirtual 169, 3) := by decide +kernel
theorem dX6_bent_23 : decode cX6_bent 23 = .ok (.aload_n 0, 1) := by decide +kernel
theorem dX6_bent_24 : decode cX6_bent 24 = .ok (.bipush 91, 2) := by decide +kernel
theorem dX6_bent_26 : decode cX6_bent 26 = .ok (.invokevirtual 145, 3) := by decide +kernel
theorem dX6_bent_29 : decode cX6_bent 29 = .ok (.aload_n 0, 1) := by decide +kernel
theorem dX6_bent_30 : decode cX6_bent 30 = .ok (.iload_n 1, 1) := by decide +kernel
theorem dX6_bent_31 : decode cX6_bent 31 = .ok (.invokevirtual 165, 3) := by decide +kernel
theorem dX6_bent_34 : decode cX6_bent 34 = .ok (.istore_n 2, 1) := by decide +kernel
theorem dX6_bent_35 : decode cX6_bent 35 = .ok (.aload_n 0, 1) := by decide +kernel
theorem dX6_bent_36 : decode cX6_bent 36 = .ok (.aload_n 0, 1) := by decide +kernel
theorem dX6_bent_37 : decode cX6_bent 37 = .ok (.getfield 137, 3) := by decide +kernel
theorem dX6_bent_40 : decode cX6_bent 40 = .ok (.ifCond .ne 9, 3) := by decide +kernel
theorem dX6_bent_43 : decode cX6_bent 43 = .ok (.iload_n 1, 1) := by decide +kernel
theorem dX6_bent_44 : decode cX6_bent 44 = .ok (.iload_n 2, 1) := by decide +kernel
theorem dX6_bent_45 : decode cX6_bent 45 = .ok (.iadd, 1) := by decide +kernel
theorem dX6_bent_46 : decode cX6_bent 46 = .ok (.ifCond .ne 7, 3) := by decide +kernel
theorem dX6_bent_49 : decode cX6_bent 49 = .ok (.iconst 1, 1) := by decide +kernel
theorem dX6_bent_50 : decode cX6_bent 50 = .ok (.goto 4, 3) := by decide +kernel
theorem dX6_bent_53 : decode cX6_bent 53 = .ok (.iconst 0, 1) := by decide +kernel
theorem dX6_bent_54 : decode cX6_bent 54 = .ok (.putfield 137, 3) := by decide +kernel
theorem dX6_bent_57 : decode cX6_bent 57 = .ok (.aload_n 0, 1) := by decide +kernel
theorem dX6_bent_58 : decode cX6_bent 58 = .ok (.bipush 93, 2) := by decide +kernel
theorem dX6_bent_60 : decode cX6_bent 60 = .ok (.invokevirtual 145, 3) := by decide +kernel
theorem dX6_bent_63 : decode cX6_bent 63 = .ok (.aload_n 0, 1) := by decide +kernel
theorem dX6_bent_64 : decode cX6_bent 64 = .ok (.iconst 2, 1) := by decide +kernel
theorem dX6_bent_65 : decode cX6_bent 65 = .ok (.invokevirtual 169, 3) := by decide +kernel
theorem dX6_bent_68 : decode cX6_bent 68 = .ok (.aload_n 0, 1) := by decide +kernel
theorem dX6_bent_69 : decode cX6_bent 69 = .ok (.getfield 7, 3) := by decide +kernel
theorem dX6_bent_72 : decode cX6_bent 72 = .ok (.aload_n 0, 1) := by decide +kernel
theorem dX6_bent_73 : decode cX6_bent 73 = .ok (.getfield 45, 3) := by decide +kernel
theorem dX6_bent_76 : decode cX6_bent 76 = .ok (.iconst 3, 1) := by decide +kernel
theorem dX6_bent_77 : decode cX6_bent 77 = .ok (.iastore, 1) := by decide +kernel
theorem dX6_bent_78 : decode cX6_bent 78 = .ok (.aload_n 0, 1) := by decide +kernel
theorem dX6_bent_79 : decode cX6_bent 79 = .ok (.getfield 13, 3) := by decide +kernel
theorem dX6_bent_82 : decode cX6_bent 82 = .ok (.aload_n 0, 1) := by decide +kernel
theorem dX6_bent_83 : decode cX6_bent 83 = .ok (.getfield 45, 3) := by decide +kernel
theorem dX6_bent_86 : decode cX6_bent 86 = .ok (.iload_n 1, 1) := by decide +kernel
theorem dX6_bent_87 : decode cX6_bent 87 = .ok (.iastore, 1) := by decide +kernel
theorem dX6_bent_88 : decode cX6_bent 88 = .ok (.aload_n 0, 1) := by decide +kernel
theorem dX6_bent_89 : decode cX6_bent 89 = .ok (.getfield 16, 3) := by decide +kernel
theorem dX6_bent_92 : decode cX6_bent 92 = .ok (.aload_n 0, 1) := by decide +kernel
theorem dX6_bent_93 : decode cX6_bent 93 = .ok (.getfield 45, 3) := by decide +kernel
theorem dX6_bent_96 : decode cX6_bent 96 = .ok (.iload_n 1, 1) := by decide +kernel
theorem dX6_bent_97 : decode cX6_bent 97 = .ok (.iload_n 2, 1) := by decide +kernel
theorem dX6_bent_98 : decode cX6_bent 98 = .ok (.iadd, 1) := by decide +kernel
theorem dX6_bent_99 : decode cX6_bent 99 = .ok (.iastore, 1) := by decide +kernel
theorem dX6_bent_100 : decode cX6_bent 100 = .ok (.return_, 1) := by decide +kernel
set_option maxRecDepth 20000 in
theorem ggX6_plain_X6_figure : GoodIn wsX6_plain wsX6_figure := goodIn_r _ [12, 1, 2, 13, 14, 15, 16, 17, 18, 11, 19, 3, 20, 21, 22, 23, 24, 25, 26, 27, 28, 29, 47, 48, 49, 50, 51, 52, 53, 54, 55, 56, 57, 58, 59, 60, 61, 62, 63, 64, 65, 66, 67, 68, 69, 70] (by decide +kernel) (by decide +kernel)
set_option maxRecDepth 20000 in
theorem gX6_plain_X6_figure : GoodIn wsX6_plain (wsV RX6 159 RX6 yX6_figure wsX6_figure) := goodIn_app (goodIn_of _ (by decide +kernel)) ggX6_plain_X6_figure
set_option maxRecDepth 20000 in
theorem ggX6_plain_X6_level : GoodIn wsX6_plain wsX6_level := goodIn_r _ [33, 1, 34, 5, 15, 47, 48, 49, 50, 51, 52, 53, 54, 55, 56, 57, 58, 59, 60, 61, 62, 63, 64, 65, 66, 67, 68, 69, 70] (by decide +kernel) (by decide +kernel)
set_option maxRecDepth 20000 in
theorem gX6_plain_X6_level : GoodIn wsX6_plain (wsV RX6 162 RX6 yX6_level wsX6_level) := goodIn_app (goodIn_of _ (by decide +kernel)) ggX6_plain_X6_level
set_option maxRecDepth 20000 in
theorem ggX6_plain_X6_word : GoodIn wsX6_plain wsX6_word := goodIn_r _ [38, 39, 40, 41, 11, 42, 43, 44, 45, 46, 1, 2, 16, 17, 18, 19, 3, 20, 47, 48, 49, 50, 51, 52, 53, 54, 55, 56, 57, 58, 59, 60, 61, 62, 63, 64, 65, 66, 67, 68, 69, 70] (by decide +kernel) (by decide +kernel)
set_option maxRecDepth 20000 in
theorem gX6_plain_X6_word : GoodIn wsX6_plain (wsV RX6 169 RX6 yX6_word wsX6_word) := goodIn_app (goodIn_of _ (by decide +kernel)) ggX6_plain_X6_word
set_option maxRecDepth 20000 in
theorem ggX6_plain_X6_here : GoodIn wsX6_plain wsX6_here := goodIn_r _ [19, 2, 3, 20, 47, 48, 49, 50, 51, 52, 53, 54, 55, 56, 57, 58, 59, 60, 61, 62, 63, 64, 65, 66, 67, 68, 69, 70] (by decide +kernel) (by decide +kernel)
set_option maxRecDepth 20000 in
theorem gX6_plain_X6_here : GoodIn wsX6_plain (wsV RX6 130 RX6 yX6_here wsX6_here) := goodIn_app (goodIn_of _ (by decide +kernel)) ggX6_plain_X6_here
theorem dX6_plain_0 : decode cX6_plain 0 = .ok (.aload_n 0, 1) := by decide +kernel
theorem dX6_plain_1 : decode cX6_plain 1 = .ok (.invokevirtual 159, 3) := by decide +kernel
theorem dX6_plain_4 : decode cX6_plain 4 = .ok (.aload_n 0, 1) := by decide +kernel
theorem dX6_plain_5 : decode cX6_plain 5 = .ok (.iconst 0, 1) := by decide +kernel
theorem dX6_plain_6 : decode cX6_plain 6 = .ok (.invokevirtual 162, 3) := by decide +kernel
theorem dX6_plain_9 : decode cX6_plain 9 = .ok (.iconst 0, 1) := by decide +kernel
theorem dX6_plain_10 : decode cX6_plain 10 = .ok (.istore_n 1, 1) := by decide +kernel
theorem dX6_plain_11 : decode cX6_plain 11 = .ok (.aload_n 0, 1) := by decide +kernel
theorem dX6_plain_12 : decode cX6_plain 12 = .ok (.getfield 137, 3) := by decide +kernel
theorem dX6_plain_15 : decode cX6_plain 15 = .ok (.ifCond .ne 67, 3) := by decide +kernel
theorem dX6_plain_18 : decode cX6_plain 18 = .ok (.aload_n 0, 1) := by decide +kernel
theorem dX6_plain_19 : decode cX6_plain 19 = .ok (.getfield 127, 3) := by decide +kernel
theorem dX6_plain_22 : decode cX6_plain 22 = .ok (.aload_n 0, 1) := by decide +kernel
theorem dX6_plain_23 : decode cX6_plain 23 = .ok (.getfield 124, 3) := by decide +kernel
theorem dX6_plain_26 : decode cX6_plain 26 = .ok (.if_icmp .ge 56, 3) := by decide +kernel
theorem dX6_plain_29 : decode cX6_plain 29 = .ok (.aload_n 0, 1) := by decide +kernel
theorem dX6_plain_30 : decode cX6_plain 30 = .ok (.iconst 0, 1) := by decide +kernel
theorem dX6_plain_31 : decode cX6_plain 31 = .ok (.invokevirtual 169, 3) := by decide +kernel
theorem dX6_plain_34 : decode cX6_plain 34 = .ok (.aload_n 0, 1) := by decide +kernel
theorem dX6_plain_35 : decode cX6_plain 35 = .ok (.invokevirtual 159, 3) := by decide +kernel
theorem dX6_plain_38 : decode cX6_plain 38 = .ok (.aload_n 0, 1) := by decide +kernel
theorem dX6_plain_39 : decode cX6_plain 39 = .ok (.iconst 1, 1) := by decide +kernel
theorem dX6_plain_40 : decode cX6_plain 40 = .ok (.invokevirtual 162, 3) := by decide +kernel
theorem dX6_plain_43 : decode cX6_plain 43 = .ok (.iconst 1, 1) := by decide +kernel
theorem dX6_plain_44 : decode cX6_plain 44 = .ok (.istore_n 1, 1) := by decide +kernel
theorem dX6_plain_45 : decode cX6_plain 45 = .ok (.aload_n 0, 1) := by decide +kernel
theorem dX6_plain_46 : decode cX6_plain 46 = .ok (.getfield 137, 3) := by decide +kernel
theorem dX6_plain_49 : decode cX6_plain 49 = .ok (.ifCond .ne 28, 3) := by decide +kernel
theorem dX6_plain_52 : decode cX6_plain 52 = .ok (.aload_n 0, 1) := by decide +kernel
theorem dX6_plain_53 : decode cX6_plain 53 = .ok (.invokevirtual 130, 3) := by decide +kernel
theorem dX6_plain_56 : decode cX6_plain 56 = .ok (.bipush 109, 2) := by decide +kernel
theorem dX6_plain_58 : decode cX6_plain 58 = .ok (.if_icmp .ne 19, 3) := by decide +kernel
theorem dX6_plain_61 : decode cX6_plain 61 = .ok (.aload_n 0, 1) := by decide +kernel
theorem dX6_plain_62 : decode cX6_plain 62 = .ok (.iconst 1, 1) := by decide +kernel
theorem dX6_plain_63 : decode cX6_plain 63 = .ok (.invokevirtual 169, 3) := by decide +kernel
theorem dX6_plain_66 : decode cX6_plain 66 = .ok (.aload_n 0, 1) := by decide +kernel
theorem dX6_plain_67 : decode cX6_plain 67 = .ok (.invokevirtual 159, 3) := by decide +kernel
theorem dX6_plain_70 : decode cX6_plain 70 = .ok (.aload_n 0, 1) := by decide +kernel
theorem dX6_plain_71 : decode cX6_plain 71 = .ok (.iconst 2, 1) := by decide +kernel
theorem dX6_plain_72 : decode cX6_plain 72 = .ok (.invokevirtual 162, 3) := by decide +kernel
theorem dX6_plain_75 : decode cX6_plain 75 = .ok (.iconst 2, 1) := by decide +kernel
theorem dX6_plain_76 : decode cX6_plain 76 = .ok (.istore_n 1, 1) := by decide +kernel
theorem dX6_plain_77 : decode cX6_plain 77 = .ok (.aload_n 0, 1) := by decide +kernel
theorem dX6_plain_78 : decode cX6_plain 78 = .ok (.iconst 2, 1) := by decide +kernel
theorem dX6_plain_79 : decode cX6_plain 79 = .ok (.invokevirtual 169, 3) := by decide +kernel
theorem dX6_plain_82 : decode cX6_plain 82 = .ok (.aload_n 0, 1) := by decide +kernel
theorem dX6_plain_83 : decode cX6_plain 83 = .ok (.getfield 7, 3) := by decide +kernel
theorem dX6_plain_86 : decode cX6_plain 86 = .ok (.aload_n 0, 1) := by decide +kernel
theorem dX6_plain_87 : decode cX6_plain 87 = .ok (.getfield 45, 3) := by decide +kernel
theorem dX6_plain_90 : decode cX6_plain 90 = .ok (.iload_n 1, 1) := by decide +kernel
theorem dX6_plain_91 : decode cX6_plain 91 = .ok (.iastore, 1) := by decide +kernel
theorem dX6_plain_92 : decode cX6_plain 92 = .ok (.aload_n 0, 1) := by decide +kernel
theorem dX6_plain_93 : decode cX6_plain 93 = .ok (.getfield 13, 3) := by decide +kernel
theorem dX6_plain_96 : decode cX6_plain 96 = .ok (.aload_n 0, 1) := by decide +kernel
theorem dX6_plain_97 : decode cX6_plain 97 = .ok (.getfield 45, 3) := by decide +kernel
theorem dX6_plain_100 : decode cX6_plain 100 = .ok (.iload_n 1, 1) := by decide +kernel
theorem dX6_plain_101 : decode cX6_plain 101 = .ok (.ifCond .ne 7, 3) := by decide +kernel
theorem dX6_plain_104 : decode cX6_plain 104 = .ok (.iconst 0, 1) := by decide +kernel
theorem dX6_plain_105 : decode cX6_plain 105 = .ok (.goto 4, 3) := by decide +kernel
theorem dX6_plain_108 : decode cX6_plain 108 = .ok (.iconst 1, 1) := by decide +kernel
theorem dX6_plain_109 : decode cX6_plain 109 = .ok (.iastore, 1) := by decide +kernel
theorem dX6_plain_110 : decode cX6_plain 110 = .ok (.aload_n 0, 1) := by decide +kernel
theorem dX6_plain_111 : decode cX6_plain 111 = .ok (.getfield 16, 3) := by decide +kernel
theorem dX6_plain_114 : decode cX6_plain 114 = .ok (.aload_n 0, 1) := by decide +kernel
theorem dX6_plain_115 : decode cX6_plain 115 = .ok (.getfield 45, 3) := by decide +kernel
theorem dX6_plain_118 : decode cX6_plain 118 = .ok (.iload_n 1, 1) := by decide +kernel
theorem dX6_plain_119 : decode cX6_plain 119 = .ok (.iconst 1, 1) := by decide +kernel
theorem dX6_plain_120 : decode cX6_plain 120 = .ok (.iadd, 1) := by decide +kernel
theorem dX6_plain_121 : decode cX6_plain 121 = .ok (.iastore, 1) := by decide +kernel
theorem dX6_plain_122 : decode cX6_plain 122 = .ok (.return_, 1) := by decide +kernel
set_option maxRecDepth 20000 in
theorem ggX6_read_X6_lay : GoodIn wsX6_read wsX6_lay := goodIn_r _ [10, 11, 1, 12, 5, 13, 67, 68, 69, 70, 71, 72, 73, 74, 75, 76, 77, 78, 79, 80, 81, 82, 83, 84, 85, 86, 87, 88, 89, 90] (by decide +kernel) (by decide +kernel)
set_option maxRecDepth 20000 in
theorem gX6_read_X6_lay : GoodIn wsX6_read (wsV RX6 60 RX6 yX6_lay wsX6_lay) := goodIn_app (goodIn_of _ (by decide +kernel)) ggX6_read_X6_lay
set_option maxRecDepth 20000 in
theorem ggX6_read_X6_here : GoodIn wsX6_read wsX6_here := goodIn_r _ [17, 3, 2, 18, 67, 68, 69, 70, 71, 72, 73, 74, 75, 76, 77, 78, 79, 80, 81, 82, 83, 84, 85, 86, 87, 88, 89, 90] (by decide +kernel) (by decide +kernel)
set_option maxRecDepth 20000 in
theorem gX6_read_X6_here : GoodIn wsX6_read (wsV RX6 130 RX6 yX6_here wsX6_here) := goodIn_app (goodIn_of _ (by decide +kernel)) ggX6_read_X6_here
set_option maxRecDepth 20000 in
theorem ggX6_read_X6_bent : GoodIn wsX6_read wsX6_bent := goodIn_r _ [22, 4, 11, 1, 12, 5, 23, 24, 25, 9, 26, 3, 14, 15, 16, 17, 2, 18, 27, 28, 29, 30, 31, 32, 33, 34, 35, 36, 37, 38, 39, 40, 41, 42, 43, 44, 45, 46, 47, 48, 49, 50, 13, 51, 52, 53, 54, 55, 56, 57, 58, 67, 68, 69, 70, 71, 72, 73, 74, 75, 76, 77, 78, 79, 80, 81, 82, 83, 84, 85, 86, 87, 88, 89, 90] (by decide +kernel) (by decide +kernel)
set_option maxRecDepth 20000 in
theorem gX6_read_X6_bent : GoodIn wsX6_read (wsV RX6 172 RX6 yX6_bent wsX6_bent) := goodIn_app (goodIn_of _ (by decide +kernel)) ggX6_read_X6_bent
set_option maxRecDepth 20000 in
theorem ggX6_read_X6_plain : GoodIn wsX6_read wsX6_plain := goodIn_r _ [62, 4, 3, 2, 11, 1, 12, 5, 31, 32, 33, 9, 34, 35, 36, 37, 14, 15, 16, 17, 18, 38, 39, 40, 41, 42, 43, 44, 45, 46, 47, 48, 49, 50, 13, 51, 52, 53, 54, 55, 56, 57, 58, 23, 24, 25, 26, 67, 68, 69, 70, 71, 72, 73, 74, 75, 76, 77, 78, 79, 80, 81, 82, 83, 84, 85, 86, 87, 88, 89, 90] (by decide +kernel) (by decide +kernel)
set_option maxRecDepth 20000 in
theorem gX6_read_X6_plain : GoodIn wsX6_read (wsV RX6 175 RX6 yX6_plain wsX6_plain) := goodIn_app (goodIn_of _ (by decide +kernel)) ggX6_read_X6_plain
set_option maxRecDepth 20000 in
theorem ggX6_read_X6_keepScore : GoodIn wsX6_read wsX6_keepScore := goodIn_r _ [66, 1, 67, 68, 69, 70, 71, 72, 73, 74, 75, 76, 77, 78, 79, 80, 81, 82, 83, 84, 85, 86, 87, 88, 89, 90] (by decide +kernel) (by decide +kernel)
set_option maxRecDepth 20000 in
theorem gX6_read_X6_keepScore : GoodIn wsX6_read (wsV RX6 64 RX6 yX6_keepScore wsX6_keepScore) := goodIn_app (goodIn_of _ (by decide +kernel)) ggX6_read_X6_keepScore
theorem dX6_read_0 : decode cX6_read 0 = .ok (.aload_n 0, 1) := by decide +kernel
theorem dX6_read_1 : decode cX6_read 1 = .ok (.getfield 45, 3) := by decide +kernel
theorem dX6_read_4 : decode cX6_read 4 = .ok (.bipush 60, 2) := by decide +kernel
theorem dX6_read_6 : decode cX6_read 6 = .ok (.if_icmp .ne 11, 3) := by decide +kernel
theorem dX6_read_9 : decode cX6_read 9 = .ok (.aload_n 0, 1) := by decide +kernel
theorem dX6_read_10 : decode cX6_read 10 = .ok (.iconst 0, 1) := by decide +kernel
theorem dX6_read_11 : decode cX6_read 11 = .ok (.putfield 124, 3) := by decide +kernel
theorem dX6_read_14 : decode cX6_read 14 = .ok (.bipush (-4), 2) := by decide +kernel
theorem dX6_read_16 : decode cX6_read 16 = .ok (.ireturn, 1) := by decide +kernel
theorem dX6_read_17 : decode cX6_read 17 = .ok (.aload_n 0, 1) := by decide +kernel
theorem dX6_read_18 : decode cX6_read 18 = .ok (.iconst 0, 1) := by decide +kernel
theorem dX6_read_19 : decode cX6_read 19 = .ok (.putfield 127, 3) := by decide +kernel
theorem dX6_read_22 : decode cX6_read 22 = .ok (.aload_n 0, 1) := by decide +kernel
theorem dX6_read_23 : decode cX6_read 23 = .ok (.iconst 0, 1) := by decide +kernel
theorem dX6_read_24 : decode cX6_read 24 = .ok (.putfield 137, 3) := by decide +kernel
theorem dX6_read_27 : decode cX6_read 27 = .ok (.aload_n 0, 1) := by decide +kernel
theorem dX6_read_28 : decode cX6_read 28 = .ok (.iconst 0, 1) := by decide +kernel
theorem dX6_read_29 : decode cX6_read 29 = .ok (.iconst 0, 1) := by decide +kernel
theorem dX6_read_30 : decode cX6_read 30 = .ok (.iconst 0, 1) := by decide +kernel
theorem dX6_read_31 : decode cX6_read 31 = .ok (.invokevirtual 60, 3) := by decide +kernel
theorem dX6_read_34 : decode cX6_read 34 = .ok (.aload_n 0, 1) := by decide +kernel
theorem dX6_read_35 : decode cX6_read 35 = .ok (.invokevirtual 130, 3) := by decide +kernel
theorem dX6_read_38 : decode cX6_read 38 = .ok (.bipush 91, 2) := by decide +kernel
theorem dX6_read_40 : decode cX6_read 40 = .ok (.if_icmp .ne 10, 3) := by decide +kernel
theorem dX6_read_43 : decode cX6_read 43 = .ok (.aload_n 0, 1) := by decide +kernel
theorem dX6_read_44 : decode cX6_read 44 = .ok (.invokevirtual 172, 3) := by decide +kernel
theorem dX6_read_47 : decode cX6_read 47 = .ok (.goto 7, 3) := by decide +kernel
theorem dX6_read_50 : decode cX6_read 50 = .ok (.aload_n 0, 1) := by decide +kernel
theorem dX6_read_51 : decode cX6_read 51 = .ok (.invokevirtual 175, 3) := by decide +kernel
theorem dX6_read_54 : decode cX6_read 54 = .ok (.aload_n 0, 1) := by decide +kernel
theorem dX6_read_55 : decode cX6_read 55 = .ok (.getfield 137, 3) := by decide +kernel
theorem dX6_read_58 : decode cX6_read 58 = .ok (.ifCond .ne 30, 3) := by decide +kernel
theorem dX6_read_61 : decode cX6_read 61 = .ok (.aload_n 0, 1) := by decide +kernel
theorem dX6_read_62 : decode cX6_read 62 = .ok (.getfield 127, 3) := by decide +kernel
theorem dX6_read_65 : decode cX6_read 65 = .ok (.aload_n 0, 1) := by decide +kernel
theorem dX6_read_66 : decode cX6_read 66 = .ok (.getfield 124, 3) := by decide +kernel
theorem dX6_read_69 : decode cX6_read 69 = .ok (.if_icmp .ne 19, 3) := by decide +kernel
theorem dX6_read_72 : decode cX6_read 72 = .ok (.aload_n 0, 1) := by decide +kernel
theorem dX6_read_73 : decode cX6_read 73 = .ok (.getfield 16, 3) := by decide +kernel
theorem dX6_read_76 : decode cX6_read 76 = .ok (.aload_n 0, 1) := by decide +kernel
theorem dX6_read_77 : decode cX6_read 77 = .ok (.getfield 45, 3) := by decide +kernel
theorem dX6_read_80 : decode cX6_read 80 = .ok (.iaload, 1) := by decide +kernel
theorem dX6_read_81 : decode cX6_read 81 = .ok (.ifCond .le 7, 3) := by decide +kernel
theorem dX6_read_84 : decode cX6_read 84 = .ok (.iconst 1, 1) := by decide +kernel
theorem dX6_read_85 : decode cX6_read 85 = .ok (.goto 4, 3) := by decide +kernel
theorem dX6_read_88 : decode cX6_read 88 = .ok (.iconst 0, 1) := by decide +kernel
theorem dX6_read_89 : decode cX6_read 89 = .ok (.istore_n 1, 1) := by decide +kernel
theorem dX6_read_90 : decode cX6_read 90 = .ok (.aload_n 0, 1) := by decide +kernel
theorem dX6_read_91 : decode cX6_read 91 = .ok (.getfield 127, 3) := by decide +kernel
theorem dX6_read_94 : decode cX6_read 94 = .ok (.istore_n 2, 1) := by decide +kernel
theorem dX6_read_95 : decode cX6_read 95 = .ok (.aload_n 0, 1) := by decide +kernel
theorem dX6_read_96 : decode cX6_read 96 = .ok (.iconst 0, 1) := by decide +kernel
theorem dX6_read_97 : decode cX6_read 97 = .ok (.putfield 124, 3) := by decide +kernel
theorem dX6_read_100 : decode cX6_read 100 = .ok (.iload_n 1, 1) := by decide +kernel
theorem dX6_read_101 : decode cX6_read 101 = .ok (.ifCond .eq 10, 3) := by decide +kernel
theorem dX6_read_104 : decode cX6_read 104 = .ok (.aload_n 0, 1) := by decide +kernel
theorem dX6_read_105 : decode cX6_read 105 = .ok (.invokevirtual 64, 3) := by decide +kernel
theorem dX6_read_108 : decode cX6_read 108 = .ok (.goto 7, 3) := by decide +kernel
theorem dX6_read_111 : decode cX6_read 111 = .ok (.bipush (-100), 2) := by decide +kernel
theorem dX6_read_113 : decode cX6_read 113 = .ok (.iload_n 2, 1) := by decide +kernel
theorem dX6_read_114 : decode cX6_read 114 = .ok (.isub, 1) := by decide +kernel
theorem dX6_read_115 : decode cX6_read 115 = .ok (.ireturn, 1) := by decide +kernel
theorem dX6_write_0 : decode cX6_write 0 = .ok (.aload_n 0, 1) := by decide +kernel
theorem dX6_write_1 : decode cX6_write 1 = .ok (.getfield 39, 3) := by decide +kernel
theorem dX6_write_4 : decode cX6_write 4 = .ok (.aload_n 0, 1) := by decide +kernel
theorem dX6_write_5 : decode cX6_write 5 = .ok (.getfield 178, 3) := by decide +kernel
theorem dX6_write_8 : decode cX6_write 8 = .ok (.iload_n 1, 1) := by decide +kernel
theorem dX6_write_9 : decode cX6_write 9 = .ok (.iastore, 1) := by decide +kernel
theorem dX6_write_10 : decode cX6_write 10 = .ok (.aload_n 0, 1) := by decide +kernel
theorem dX6_write_11 : decode cX6_write 11 = .ok (.dup, 1) := by decide +kernel
theorem dX6_write_12 : decode cX6_write 12 = .ok (.getfield 178, 3) := by decide +kernel
theorem dX6_write_15 : decode cX6_write 15 = .ok (.iconst 1, 1) := by decide +kernel
theorem dX6_write_16 : decode cX6_write 16 = .ok (.iadd, 1) := by decide +kernel
theorem dX6_write_17 : decode cX6_write 17 = .ok (.putfield 178, 3) := by decide +kernel
theorem dX6_write_20 : decode cX6_write 20 = .ok (.return_, 1) := by decide +kernel
set_option maxRecDepth 20000 in
theorem ggX6_writeNumber_X6_write : GoodIn wsX6_writeNumber wsX6_write := goodIn_r _ [8, 9, 10, 11, 12, 13, 14, 15, 16, 17, 18, 19, 20, 21, 22, 23, 24, 25, 26, 27, 28, 29, 30, 31, 32, 33, 34] (by decide +kernel) (by decide +kernel)
set_option maxRecDepth 20000 in
theorem gX6_writeNumber_X6_write : GoodIn wsX6_writeNumber (wsV RX6 181 RX6 yX6_write wsX6_write) := goodIn_app (goodIn_of _ (by decide +kernel)) ggX6_writeNumber_X6_write
theorem dX6_writeNumber_0 : decode cX6_writeNumber 0 = .ok (.lload_n 1, 1) := by decide +kernel
theorem dX6_writeNumber_1 : decode cX6_writeNumber 1 = .ok (.lconst 0, 1) := by decide +kernel
theorem dX6_writeNumber_2 : decode cX6_writeNumber 2 = .ok (.lcmp, 1) := by decide +kernel
theorem dX6_writeNumber_3 : decode cX6_writeNumber 3 = .ok (.ifCond .ge 9, 3) := by decide +kernel
theorem dX6_writeNumber_6 : decode cX6_writeNumber 6 = .ok (.aload_n 0, 1) := by decide +kernel
theorem dX6_writeNumber_7 : decode cX6_writeNumber 7 = .ok (.bipush 45, 2) := by decide +kernel
theorem dX6_writeNumber_9 : decode cX6_writeNumber 9 = .ok (.invokevirtual 181, 3) := by decide +kernel
theorem dX6_writeNumber_12 : decode cX6_writeNumber 12 = .ok (.lconst 1, 1) := by decide +kernel
theorem dX6_writeNumber_13 : decode cX6_writeNumber 13 = .ok (.lstore_n 3, 1) := by decide +kernel
theorem dX6_writeNumber_14 : decode cX6_writeNumber 14 = .ok (.lload_n 1, 1) := by decide +kernel
theorem dX6_writeNumber_15 : decode cX6_writeNumber 15 = .ok (.lload_n 3, 1) := by decide +kernel
theorem dX6_writeNumber_16 : decode cX6_writeNumber 16 = .ok (.ldiv, 1) := by decide +kernel
theorem dX6_writeNumber_17 : decode cX6_writeNumber 17 = .ok (.ldc2_w 184, 3) := by decide +kernel
theorem dX6_writeNumber_20 : decode cX6_writeNumber 20 = .ok (.lcmp, 1) := by decide +kernel
theorem dX6_writeNumber_21 : decode cX6_writeNumber 21 = .ok (.ifCond .gt 13, 3) := by decide +kernel
theorem dX6_writeNumber_24 : decode cX6_writeNumber 24 = .ok (.lload_n 1, 1) := by decide +kernel
theorem dX6_writeNumber_25 : decode cX6_writeNumber 25 = .ok (.lload_n 3, 1) := by decide +kernel
theorem dX6_writeNumber_26 : decode cX6_writeNumber 26 = .ok (.ldiv, 1) := by decide +kernel
theorem dX6_writeNumber_27 : decode cX6_writeNumber 27 = .ok (.ldc2_w 186, 3) := by decide +kernel
theorem dX6_writeNumber_30 : decode cX6_writeNumber 30 = .ok (.lcmp, 1) := by decide +kernel
theorem dX6_writeNumber_31 : decode cX6_writeNumber 31 = .ok (.ifCond .ge 12, 3) := by decide +kernel
theorem dX6_writeNumber_34 : decode cX6_writeNumber 34 = .ok (.lload_n 3, 1) := by decide +kernel
theorem dX6_writeNumber_35 : decode cX6_writeNumber 35 = .ok (.ldc2_w 154, 3) := by decide +kernel
theorem dX6_writeNumber_38 : decode cX6_writeNumber 38 = .ok (.lmul, 1) := by decide +kernel
theorem dX6_writeNumber_39 : decode cX6_writeNumber 39 = .ok (.lstore_n 3, 1) := by decide +kernel
theorem dX6_writeNumber_40 : decode cX6_writeNumber 40 = .ok (.goto (-26), 3) := by decide +kernel
theorem dX6_writeNumber_43 : decode cX6_writeNumber 43 = .ok (.lload_n 3, 1) := by decide +kernel
theorem dX6_writeNumber_44 : decode cX6_writeNumber 44 = .ok (.lstore 5, 2) := by decide +kernel
theorem dX6_writeNumber_46 : decode cX6_writeNumber 46 = .ok (.lload 5, 2) := by decide +kernel
theorem dX6_writeNumber_48 : decode cX6_writeNumber 48 = .ok (.lconst 0, 1) := by decide +kernel
theorem dX6_writeNumber_49 : decode cX6_writeNumber 49 = .ok (.lcmp, 1) := by decide +kernel
theorem dX6_writeNumber_50 : decode cX6_writeNumber 50 = .ok (.ifCond .le 47, 3) := by decide +kernel
theorem dX6_writeNumber_53 : decode cX6_writeNumber 53 = .ok (.lload_n 1, 1) := by decide +kernel
theorem dX6_writeNumber_54 : decode cX6_writeNumber 54 = .ok (.lload 5, 2) := by decide +kernel
theorem dX6_writeNumber_56 : decode cX6_writeNumber 56 = .ok (.ldiv, 1) := by decide +kernel
theorem dX6_writeNumber_57 : decode cX6_writeNumber 57 = .ok (.ldc2_w 154, 3) := by decide +kernel
theorem dX6_writeNumber_60 : decode cX6_writeNumber 60 = .ok (.lrem, 1) := by decide +kernel
theorem dX6_writeNumber_61 : decode cX6_writeNumber 61 = .ok (.lstore 7, 2) := by decide +kernel
theorem dX6_writeNumber_63 : decode cX6_writeNumber 63 = .ok (.aload_n 0, 1) := by decide +kernel
theorem dX6_writeNumber_64 : decode cX6_writeNumber 64 = .ok (.bipush 48, 2) := by decide +kernel
theorem dX6_writeNumber_66 : decode cX6_writeNumber 66 = .ok (.lload 7, 2) := by decide +kernel
theorem dX6_writeNumber_68 : decode cX6_writeNumber 68 = .ok (.lconst 0, 1) := by decide +kernel
theorem dX6_writeNumber_69 : decode cX6_writeNumber 69 = .ok (.lcmp, 1) := by decide +kernel
theorem dX6_writeNumber_70 : decode cX6_writeNumber 70 = .ok (.ifCond .ge 9, 3) := by decide +kernel
theorem dX6_writeNumber_73 : decode cX6_writeNumber 73 = .ok (.lload 7, 2) := by decide +kernel
theorem dX6_writeNumber_75 : decode cX6_writeNumber 75 = .ok (.lneg, 1) := by decide +kernel
theorem dX6_writeNumber_76 : decode cX6_writeNumber 76 = .ok (.goto 5, 3) := by decide +kernel
theorem dX6_writeNumber_79 : decode cX6_writeNumber 79 = .ok (.lload 7, 2) := by decide +kernel
theorem dX6_writeNumber_81 : decode cX6_writeNumber 81 = .ok (.l2i, 1) := by decide +kernel
theorem dX6_writeNumber_82 : decode cX6_writeNumber 82 = .ok (.iadd, 1) := by decide +kernel
theorem dX6_writeNumber_83 : decode cX6_writeNumber 83 = .ok (.invokevirtual 181, 3) := by decide +kernel
theorem dX6_writeNumber_86 : decode cX6_writeNumber 86 = .ok (.lload 5, 2) := by decide +kernel
theorem dX6_writeNumber_88 : decode cX6_writeNumber 88 = .ok (.ldc2_w 154, 3) := by decide +kernel
theorem dX6_writeNumber_91 : decode cX6_writeNumber 91 = .ok (.ldiv, 1) := by decide +kernel
theorem dX6_writeNumber_92 : decode cX6_writeNumber 92 = .ok (.lstore 5, 2) := by decide +kernel
theorem dX6_writeNumber_94 : decode cX6_writeNumber 94 = .ok (.goto (-48), 3) := by decide +kernel
theorem dX6_writeNumber_97 : decode cX6_writeNumber 97 = .ok (.return_, 1) := by decide +kernel
set_option maxRecDepth 20000 in
theorem ggX6_writeWord_X6_letter : GoodIn wsX6_writeWord wsX6_letter := goodIn_r _ [5] (by decide +kernel) (by decide +kernel)
set_option maxRecDepth 20000 in
theorem gX6_writeWord_X6_letter : GoodIn wsX6_writeWord (va_wsS RX6 141 yX6_letter wsX6_letter) := goodIn_app (goodIn_of _ (by decide +kernel)) ggX6_writeWord_X6_letter
set_option maxRecDepth 20000 in
theorem ggX6_writeWord_X6_write : GoodIn wsX6_writeWord wsX6_write := goodIn_r _ [9, 10, 11, 12, 13, 14, 15, 16, 17, 18, 19, 20, 21, 22, 23, 24, 25, 26, 27, 28, 29, 30, 31, 32, 33, 34, 35] (by decide +kernel) (by decide +kernel)
set_option maxRecDepth 20000 in
theorem gX6_writeWord_X6_write : GoodIn wsX6_writeWord (wsV RX6 181 RX6 yX6_write wsX6_write) := goodIn_app (goodIn_of _ (by decide +kernel)) ggX6_writeWord_X6_write
theorem dX6_writeWord_0 : decode cX6_writeWord 0 = .ok (.iload_n 1, 1) := by decide +kernel
theorem dX6_writeWord_1 : decode cX6_writeWord 1 = .ok (.ifCond .ne 7, 3) := by decide +kernel
theorem dX6_writeWord_4 : decode cX6_writeWord 4 = .ok (.iconst 4, 1) := by decide +kernel
theorem dX6_writeWord_5 : decode cX6_writeWord 5 = .ok (.goto 14, 3) := by decide +kernel
theorem dX6_writeWord_8 : decode cX6_writeWord 8 = .ok (.iload_n 1, 1) := by decide +kernel
theorem dX6_writeWord_9 : decode cX6_writeWord 9 = .ok (.iconst 1, 1) := by decide +kernel
theorem dX6_writeWord_10 : decode cX6_writeWord 10 = .ok (.if_icmp .ne 8, 3) := by decide +kernel
theorem dX6_writeWord_13 : decode cX6_writeWord 13 = .ok (.bipush 6, 2) := by decide +kernel
theorem dX6_writeWord_15 : decode cX6_writeWord 15 = .ok (.goto 4, 3) := by decide +kernel
theorem dX6_writeWord_18 : decode cX6_writeWord 18 = .ok (.iconst 4, 1) := by decide +kernel
theorem dX6_writeWord_19 : decode cX6_writeWord 19 = .ok (.istore_n 2, 1) := by decide +kernel
theorem dX6_writeWord_20 : decode cX6_writeWord 20 = .ok (.iload_n 1, 1) := by decide +kernel
theorem dX6_writeWord_21 : decode cX6_writeWord 21 = .ok (.ifCond .ne 33, 3) := by decide +kernel
theorem dX6_writeWord_24 : decode cX6_writeWord 24 = .ok (.bipush 104, 2) := by decide +kernel
theorem dX6_writeWord_26 : decode cX6_writeWord 26 = .ok (.iconst 0, 1) := by decide +kernel
theorem dX6_writeWord_27 : decode cX6_writeWord 27 = .ok (.invokestatic 141, 3) := by decide +kernel
theorem dX6_writeWord_30 : decode cX6_writeWord 30 = .ok (.bipush 97, 2) := by decide +kernel
theorem dX6_writeWord_32 : decode cX6_writeWord 32 = .ok (.iconst 1, 1) := by decide +kernel
theorem dX6_writeWord_33 : decode cX6_writeWord 33 = .ok (.invokestatic 141, 3) := by decide +kernel
theorem dX6_writeWord_36 : decode cX6_writeWord 36 = .ok (.lor, 1) := by decide +kernel
theorem dX6_writeWord_37 : decode cX6_writeWord 37 = .ok (.bipush 114, 2) := by decide +kernel
theorem dX6_writeWord_39 : decode cX6_writeWord 39 = .ok (.iconst 2, 1) := by decide +kernel
theorem dX6_writeWord_40 : decode cX6_writeWord 40 = .ok (.invokestatic 141, 3) := by decide +kernel
theorem dX6_writeWord_43 : decode cX6_writeWord 43 = .ok (.lor, 1) := by decide +kernel
theorem dX6_writeWord_44 : decode cX6_writeWord 44 = .ok (.bipush 100, 2) := by decide +kernel
theorem dX6_writeWord_46 : decode cX6_writeWord 46 = .ok (.iconst 3, 1) := by decide +kernel
theorem dX6_writeWord_47 : decode cX6_writeWord 47 = .ok (.invokestatic 141, 3) := by decide +kernel
theorem dX6_writeWord_50 : decode cX6_writeWord 50 = .ok (.lor, 1) := by decide +kernel
theorem dX6_writeWord_51 : decode cX6_writeWord 51 = .ok (.goto 79, 3) := by decide +kernel
theorem dX6_writeWord_54 : decode cX6_writeWord 54 = .ok (.iload_n 1, 1) := by decide +kernel
theorem dX6_writeWord_55 : decode cX6_writeWord 55 = .ok (.iconst 1, 1) := by decide +kernel
theorem dX6_writeWord_56 : decode cX6_writeWord 56 = .ok (.if_icmp .ne 47, 3) := by decide +kernel
theorem dX6_writeWord_59 : decode cX6_writeWord 59 = .ok (.bipush 109, 2) := by decide +kernel
theorem dX6_writeWord_61 : decode cX6_writeWord 61 = .ok (.iconst 0, 1) := by decide +kernel
theorem dX6_writeWord_62 : decode cX6_writeWord 62 = .ok (.invokestatic 141, 3) := by decide +kernel
theorem dX6_writeWord_65 : decode cX6_writeWord 65 = .ok (.bipush 101, 2) := by decide +kernel
theorem dX6_writeWord_67 : decode cX6_writeWord 67 = .ok (.iconst 1, 1) := by decide +kernel
theorem dX6_writeWord_68 : decode cX6_writeWord 68 = .ok (.invokestatic 141, 3) := by decide +kernel
theorem dX6_writeWord_71 : decode cX6_writeWord 71 = .ok (.lor, 1) := by decide +kernel
theorem dX6_writeWord_72 : decode cX6_writeWord 72 = .ok (.bipush 100, 2) := by decide +kernel
theorem dX6_writeWord_74 : decode cX6_writeWord 74 = .ok (.iconst 2, 1) := by decide +kernel
theorem dX6_writeWord_75 : decode cX6_writeWord 75 = .ok (.invokestatic 141, 3) := by decide +kernel
theorem dX6_writeWord_78 : decode cX6_writeWord 78 = .ok (.lor, 1) := by decide +kernel
theorem dX6_writeWord_79 : decode cX6_writeWord 79 = .ok (.bipush 105, 2) := by decide +kernel
theorem dX6_writeWord_81 : decode cX6_writeWord 81 = .ok (.iconst 3, 1) := by decide +kernel
theorem dX6_writeWord_82 : decode cX6_writeWord 82 = .ok (.invokestatic 141, 3) := by decide +kernel
theorem dX6_writeWord_85 : decode cX6_writeWord 85 = .ok (.lor, 1) := by decide +kernel
theorem dX6_writeWord_86 : decode cX6_writeWord 86 = .ok (.bipush 117, 2) := by decide +kernel
theorem dX6_writeWord_88 : decode cX6_writeWord 88 = .ok (.iconst 4, 1) := by decide +kernel
theorem dX6_writeWord_89 : decode cX6_writeWord 89 = .ok (.invokestatic 141, 3) := by decide +kernel
theorem dX6_writeWord_92 : decode cX6_writeWord 92 = .ok (.lor, 1) := by decide +kernel
theorem dX6_writeWord_93 : decode cX6_writeWord 93 = .ok (.bipush 109, 2) := by decide +kernel
theorem dX6_writeWord_95 : decode cX6_writeWord 95 = .ok (.iconst 5, 1) := by decide +kernel
theorem dX6_writeWord_96 : decode cX6_writeWord 96 = .ok (.invokestatic 141, 3) := by decide +kernel
theorem dX6_writeWord_99 : decode cX6_writeWord 99 = .ok (.lor, 1) := by decide +kernel
theorem dX6_writeWord_100 : decode cX6_writeWord 100 = .ok (.goto 30, 3) := by decide +kernel
theorem dX6_writeWord_103 : decode cX6_writeWord 103 = .ok (.bipush 115, 2) := by decide +kernel
theorem dX6_writeWord_105 : decode cX6_writeWord 105 = .ok (.iconst 0, 1) := by decide +kernel
theorem dX6_writeWord_106 : decode cX6_writeWord 106 = .ok (.invokestatic 141, 3) := by decide +kernel
theorem dX6_writeWord_109 : decode cX6_writeWord 109 = .ok (.bipush 111, 2) := by decide +kernel
theorem dX6_writeWord_111 : decode cX6_writeWord 111 = .ok (.iconst 1, 1) := by decide +kernel
theorem dX6_writeWord_112 : decode cX6_writeWord 112 = .ok (.invokestatic 141, 3) := by decide +kernel
theorem dX6_writeWord_115 : decode cX6_writeWord 115 = .ok (.lor, 1) := by decide +kernel
theorem dX6_writeWord_116 : decode cX6_writeWord 116 = .ok (.bipush 102, 2) := by decide +kernel
theorem dX6_writeWord_118 : decode cX6_writeWord 118 = .ok (.iconst 2, 1) := by decide +kernel
theorem dX6_writeWord_119 : decode cX6_writeWord 119 = .ok (.invokestatic 141, 3) := by decide +kernel
theorem dX6_writeWord_122 : decode cX6_writeWord 122 = .ok (.lor, 1) := by decide +kernel
theorem dX6_writeWord_123 : decode cX6_writeWord 123 = .ok (.bipush 116, 2) := by decide +kernel
theorem dX6_writeWord_125 : decode cX6_writeWord 125 = .ok (.iconst 3, 1) := by decide +kernel
theorem dX6_writeWord_126 : decode cX6_writeWord 126 = .ok (.invokestatic 141, 3) := by decide +kernel
theorem dX6_writeWord_129 : decode cX6_writeWord 129 = .ok (.lor, 1) := by decide +kernel
theorem dX6_writeWord_130 : decode cX6_writeWord 130 = .ok (.lstore_n 3, 1) := by decide +kernel
theorem dX6_writeWord_131 : decode cX6_writeWord 131 = .ok (.iconst 0, 1) := by decide +kernel
theorem dX6_writeWord_132 : decode cX6_writeWord 132 = .ok (.istore 5, 2) := by decide +kernel
theorem dX6_writeWord_134 : decode cX6_writeWord 134 = .ok (.iload 5, 2) := by decide +kernel
theorem dX6_writeWord_136 : decode cX6_writeWord 136 = .ok (.iload_n 2, 1) := by decide +kernel
theorem dX6_writeWord_137 : decode cX6_writeWord 137 = .ok (.if_icmp .ge 25, 3) := by decide +kernel
theorem dX6_writeWord_140 : decode cX6_writeWord 140 = .ok (.aload_n 0, 1) := by decide +kernel
theorem dX6_writeWord_141 : decode cX6_writeWord 141 = .ok (.lload_n 3, 1) := by decide +kernel
theorem dX6_writeWord_142 : decode cX6_writeWord 142 = .ok (.bipush 7, 2) := by decide +kernel
theorem dX6_writeWord_144 : decode cX6_writeWord 144 = .ok (.iload 5, 2) := by decide +kernel
theorem dX6_writeWord_146 : decode cX6_writeWord 146 = .ok (.imul, 1) := by decide +kernel
theorem dX6_writeWord_147 : decode cX6_writeWord 147 = .ok (.lshr, 1) := by decide +kernel
theorem dX6_writeWord_148 : decode cX6_writeWord 148 = .ok (.ldc2_w 122, 3) := by decide +kernel
theorem dX6_writeWord_151 : decode cX6_writeWord 151 = .ok (.land, 1) := by decide +kernel
theorem dX6_writeWord_152 : decode cX6_writeWord 152 = .ok (.l2i, 1) := by decide +kernel
theorem dX6_writeWord_153 : decode cX6_writeWord 153 = .ok (.invokevirtual 181, 3) := by decide +kernel
theorem dX6_writeWord_156 : decode cX6_writeWord 156 = .ok (.iinc 5 1, 3) := by decide +kernel
theorem dX6_writeWord_159 : decode cX6_writeWord 159 = .ok (.goto (-25), 3) := by decide +kernel
theorem dX6_writeWord_162 : decode cX6_writeWord 162 = .ok (.return_, 1) := by decide +kernel
set_option maxRecDepth 20000 in
theorem ggX6_writeRow_X6_write : GoodIn wsX6_writeRow wsX6_write := goodIn_r _ [6, 7, 8, 16, 17, 18, 19, 20, 21, 22, 23, 24, 25, 26, 27, 28, 29, 30, 31, 32, 33, 34, 35, 36, 37, 38, 39] (by decide +kernel) (by decide +kernel)
set_option maxRecDepth 20000 in
theorem gX6_writeRow_X6_write : GoodIn wsX6_writeRow (wsV RX6 181 RX6 yX6_write wsX6_write) := goodIn_app (goodIn_of _ (by decide +kernel)) ggX6_writeRow_X6_write
set_option maxRecDepth 20000 in
theorem ggX6_writeRow_X6_writeNumber : GoodIn wsX6_writeRow wsX6_writeNumber := goodIn_r _ [12, 13, 14, 15, 2, 3, 4, 5, 6, 7, 8, 16, 17, 18, 19, 20, 21, 22, 23, 24, 25, 26, 27, 28, 29, 30, 31, 32, 33, 34, 35, 36, 37, 38, 39] (by decide +kernel) (by decide +kernel)
set_option maxRecDepth 20000 in
theorem gX6_writeRow_X6_writeNumber : GoodIn wsX6_writeRow (wsV RX6 188 RX6 yX6_writeNumber wsX6_writeNumber) := goodIn_app (goodIn_of _ (by decide +kernel)) ggX6_writeRow_X6_writeNumber
theorem dX6_writeRow_0 : decode cX6_writeRow 0 = .ok (.aload_n 0, 1) := by decide +kernel
theorem dX6_writeRow_1 : decode cX6_writeRow 1 = .ok (.bipush 91, 2) := by decide +kernel
theorem dX6_writeRow_3 : decode cX6_writeRow 3 = .ok (.invokevirtual 181, 3) := by decide +kernel
theorem dX6_writeRow_6 : decode cX6_writeRow 6 = .ok (.iload_n 2, 1) := by decide +kernel
theorem dX6_writeRow_7 : decode cX6_writeRow 7 = .ok (.istore 4, 2) := by decide +kernel
theorem dX6_writeRow_9 : decode cX6_writeRow 9 = .ok (.iload 4, 2) := by decide +kernel
theorem dX6_writeRow_11 : decode cX6_writeRow 11 = .ok (.iload_n 3, 1) := by decide +kernel
theorem dX6_writeRow_12 : decode cX6_writeRow 12 = .ok (.if_icmp .ge 37, 3) := by decide +kernel
theorem dX6_writeRow_15 : decode cX6_writeRow 15 = .ok (.iload 4, 2) := by decide +kernel
theorem dX6_writeRow_17 : decode cX6_writeRow 17 = .ok (.iload_n 2, 1) := by decide +kernel
theorem dX6_writeRow_18 : decode cX6_writeRow 18 = .ok (.if_icmp .le 9, 3) := by decide +kernel
theorem dX6_writeRow_21 : decode cX6_writeRow 21 = .ok (.aload_n 0, 1) := by decide +kernel
theorem dX6_writeRow_22 : decode cX6_writeRow 22 = .ok (.bipush 47, 2) := by decide +kernel
theorem dX6_writeRow_24 : decode cX6_writeRow 24 = .ok (.invokevirtual 181, 3) := by decide +kernel
theorem dX6_writeRow_27 : decode cX6_writeRow 27 = .ok (.aload_n 0, 1) := by decide +kernel
theorem dX6_writeRow_28 : decode cX6_writeRow 28 = .ok (.aload_n 0, 1) := by decide +kernel
theorem dX6_writeRow_29 : decode cX6_writeRow 29 = .ok (.getfield 19, 3) := by decide +kernel
theorem dX6_writeRow_32 : decode cX6_writeRow 32 = .ok (.bipush 12, 2) := by decide +kernel
theorem dX6_writeRow_34 : decode cX6_writeRow 34 = .ok (.iload_n 1, 1) := by decide +kernel
theorem dX6_writeRow_35 : decode cX6_writeRow 35 = .ok (.imul, 1) := by decide +kernel
theorem dX6_writeRow_36 : decode cX6_writeRow 36 = .ok (.iload 4, 2) := by decide +kernel
theorem dX6_writeRow_38 : decode cX6_writeRow 38 = .ok (.iadd, 1) := by decide +kernel
theorem dX6_writeRow_39 : decode cX6_writeRow 39 = .ok (.laload, 1) := by decide +kernel
theorem dX6_writeRow_40 : decode cX6_writeRow 40 = .ok (.invokevirtual 188, 3) := by decide +kernel
theorem dX6_writeRow_43 : decode cX6_writeRow 43 = .ok (.iinc 4 1, 3) := by decide +kernel
theorem dX6_writeRow_46 : decode cX6_writeRow 46 = .ok (.goto (-37), 3) := by decide +kernel
theorem dX6_writeRow_49 : decode cX6_writeRow 49 = .ok (.aload_n 0, 1) := by decide +kernel
theorem dX6_writeRow_50 : decode cX6_writeRow 50 = .ok (.bipush 93, 2) := by decide +kernel
theorem dX6_writeRow_52 : decode cX6_writeRow 52 = .ok (.invokevirtual 181, 3) := by decide +kernel
theorem dX6_writeRow_55 : decode cX6_writeRow 55 = .ok (.return_, 1) := by decide +kernel
set_option maxRecDepth 20000 in
theorem ggX6_print_X6_isNumber : GoodIn wsX6_print wsX6_isNumber := goodIn_r _ [10, 11, 12, 13, 9, 14, 43, 44, 45, 46, 47, 48, 49, 50, 51, 52, 53, 54, 55, 56, 57, 58, 59, 60, 61, 62, 63, 64, 65, 66] (by decide +kernel) (by decide +kernel)
set_option maxRecDepth 20000 in
theorem gX6_print_X6_isNumber : GoodIn wsX6_print (wsV RX6 68 RX6 yX6_isNumber wsX6_isNumber) := goodIn_app (goodIn_of _ (by decide +kernel)) ggX6_print_X6_isNumber
set_option maxRecDepth 20000 in
theorem ggX6_print_X6_isNothing : GoodIn wsX6_print wsX6_isNothing := goodIn_r _ [18, 2, 43, 44, 45, 46, 47, 48, 49, 50, 51, 52, 53, 54, 55, 56, 57, 58, 59, 60, 61, 62, 63, 64, 65, 66] (by decide +kernel) (by decide +kernel)
set_option maxRecDepth 20000 in
theorem gX6_print_X6_isNothing : GoodIn wsX6_print (wsV RX6 72 RX6 yX6_isNothing wsX6_isNothing) := goodIn_app (goodIn_of _ (by decide +kernel)) ggX6_print_X6_isNothing
set_option maxRecDepth 20000 in
theorem ggX6_print_X6_writeRow : GoodIn wsX6_print wsX6_writeRow := goodIn_r _ [22, 5, 23, 24, 25, 9, 26, 27, 1, 28, 29, 30, 31, 32, 33, 34, 43, 44, 45, 46, 47, 48, 49, 50, 51, 52, 53, 54, 55, 56, 57, 58, 59, 60, 61, 62, 63, 64, 65, 66] (by decide +kernel) (by decide +kernel)
set_option maxRecDepth 20000 in
theorem gX6_print_X6_writeRow : GoodIn wsX6_print (wsV RX6 192 RX6 yX6_writeRow wsX6_writeRow) := goodIn_app (goodIn_of _ (by decide +kernel)) ggX6_print_X6_writeRow
set_option maxRecDepth 20000 in
theorem ggX6_print_X6_writeWord : GoodIn wsX6_print wsX6_writeWord := goodIn_r _ [38, 39, 40, 41, 9, 42, 23, 24, 25, 26, 27, 1, 43, 44, 45, 46, 47, 48, 49, 50, 51, 52, 53, 54, 55, 56, 57, 58, 59, 60, 61, 62, 63, 64, 65, 66] (by decide +kernel) (by decide +kernel)
set_option maxRecDepth 20000 in
theorem gX6_print_X6_writeWord : GoodIn wsX6_print (wsV RX6 195 RX6 yX6_writeWord wsX6_writeWord) := goodIn_app (goodIn_of _ (by decide +kernel)) ggX6_print_X6_writeWord
set_option maxRecDepth 20000 in
theorem ggX6_print_X6_write : GoodIn wsX6_print wsX6_write := goodIn_r _ [26, 27, 1, 43, 44, 45, 46, 47, 48, 49, 50, 51, 52, 53, 54, 55, 56, 57, 58, 59, 60, 61, 62, 63, 64, 65, 66] (by decide +kernel) (by decide +kernel)
set_option maxRecDepth 20000 in
theorem gX6_print_X6_write : GoodIn wsX6_print (wsV RX6 181 RX6 yX6_write wsX6_write) := goodIn_app (goodIn_of _ (by decide +kernel)) ggX6_print_X6_write
set_option maxRecDepth 20000 in
theorem ggX6_print_X6_writeNumber : GoodIn wsX6_print wsX6_writeNumber := goodIn_r _ [31, 32, 33, 34, 23, 24, 25, 9, 26, 27, 1, 43, 44, 45, 46, 47, 48, 49, 50, 51, 52, 53, 54, 55, 56, 57, 58, 59, 60, 61, 62, 63, 64, 65, 66] (by decide +kernel) (by decide +kernel)
set_option maxRecDepth 20000 in
theorem gX6_print_X6_writeNumber : GoodIn wsX6_print (wsV RX6 188 RX6 yX6_writeNumber wsX6_writeNumber) := goodIn_app (goodIn_of _ (by decide +kernel)) ggX6_print_X6_writeNumber
theorem dX6_print_0 : decode cX6_print 0 = .ok (.aload_n 0, 1) := by decide +kernel
theorem dX6_print_1 : decode cX6_print 1 = .ok (.iload_n 1, 1) := by decide +kernel
theorem dX6_print_2 : decode cX6_print 2 = .ok (.invokevirtual 68, 3) := by decide +kernel
theorem dX6_print_5 : decode cX6_print 5 = .ok (.ifCond .ne 6, 3) := by decide +kernel
theorem dX6_print_8 : decode cX6_print 8 = .ok (.bipush (-2), 2) := by decide +kernel
theorem dX6_print_10 : decode cX6_print 10 = .ok (.ireturn, 1) := by decide +kernel
theorem dX6_print_11 : decode cX6_print 11 = .ok (.aload_n 0, 1) := by decide +kernel
theorem dX6_print_12 : decode cX6_print 12 = .ok (.iload_n 1, 1) := by decide +kernel
theorem dX6_print_13 : decode cX6_print 13 = .ok (.invokevirtual 72, 3) := by decide +kernel
theorem dX6_print_16 : decode cX6_print 16 = .ok (.ifCond .eq 6, 3) := by decide +kernel
theorem dX6_print_19 : decode cX6_print 19 = .ok (.bipush (-11), 2) := by decide +kernel
theorem dX6_print_21 : decode cX6_print 21 = .ok (.ireturn, 1) := by decide +kernel
theorem dX6_print_22 : decode cX6_print 22 = .ok (.aload_n 0, 1) := by decide +kernel
theorem dX6_print_23 : decode cX6_print 23 = .ok (.iconst 0, 1) := by decide +kernel
theorem dX6_print_24 : decode cX6_print 24 = .ok (.putfield 178, 3) := by decide +kernel
theorem dX6_print_27 : decode cX6_print 27 = .ok (.aload_n 0, 1) := by decide +kernel
theorem dX6_print_28 : decode cX6_print 28 = .ok (.getfield 7, 3) := by decide +kernel
theorem dX6_print_31 : decode cX6_print 31 = .ok (.iload_n 1, 1) := by decide +kernel
theorem dX6_print_32 : decode cX6_print 32 = .ok (.iaload, 1) := by decide +kernel
theorem dX6_print_33 : decode cX6_print 33 = .ok (.iconst 3, 1) := by decide +kernel
theorem dX6_print_34 : decode cX6_print 34 = .ok (.if_icmp .ne 53, 3) := by decide +kernel
theorem dX6_print_37 : decode cX6_print 37 = .ok (.aload_n 0, 1) := by decide +kernel
theorem dX6_print_38 : decode cX6_print 38 = .ok (.iload_n 1, 1) := by decide +kernel
theorem dX6_print_39 : decode cX6_print 39 = .ok (.iconst 0, 1) := by decide +kernel
theorem dX6_print_40 : decode cX6_print 40 = .ok (.aload_n 0, 1) := by decide +kernel
theorem dX6_print_41 : decode cX6_print 41 = .ok (.getfield 13, 3) := by decide +kernel
theorem dX6_print_44 : decode cX6_print 44 = .ok (.iload_n 1, 1) := by decide +kernel
theorem dX6_print_45 : decode cX6_print 45 = .ok (.iaload, 1) := by decide +kernel
theorem dX6_print_46 : decode cX6_print 46 = .ok (.invokevirtual 192, 3) := by decide +kernel
theorem dX6_print_49 : decode cX6_print 49 = .ok (.aload_n 0, 1) := by decide +kernel
theorem dX6_print_50 : decode cX6_print 50 = .ok (.iconst 0, 1) := by decide +kernel
theorem dX6_print_51 : decode cX6_print 51 = .ok (.invokevirtual 195, 3) := by decide +kernel
theorem dX6_print_54 : decode cX6_print 54 = .ok (.aload_n 0, 1) := by decide +kernel
theorem dX6_print_55 : decode cX6_print 55 = .ok (.bipush 47, 2) := by decide +kernel
theorem dX6_print_57 : decode cX6_print 57 = .ok (.invokevirtual 181, 3) := by decide +kernel
theorem dX6_print_60 : decode cX6_print 60 = .ok (.aload_n 0, 1) := by decide +kernel
theorem dX6_print_61 : decode cX6_print 61 = .ok (.iload_n 1, 1) := by decide +kernel
theorem dX6_print_62 : decode cX6_print 62 = .ok (.aload_n 0, 1) := by decide +kernel
theorem dX6_print_63 : decode cX6_print 63 = .ok (.getfield 13, 3) := by decide +kernel
theorem dX6_print_66 : decode cX6_print 66 = .ok (.iload_n 1, 1) := by decide +kernel
theorem dX6_print_67 : decode cX6_print 67 = .ok (.iaload, 1) := by decide +kernel
theorem dX6_print_68 : decode cX6_print 68 = .ok (.aload_n 0, 1) := by decide +kernel
theorem dX6_print_69 : decode cX6_print 69 = .ok (.getfield 16, 3) := by decide +kernel
theorem dX6_print_72 : decode cX6_print 72 = .ok (.iload_n 1, 1) := by decide +kernel
theorem dX6_print_73 : decode cX6_print 73 = .ok (.iaload, 1) := by decide +kernel
theorem dX6_print_74 : decode cX6_print 74 = .ok (.invokevirtual 192, 3) := by decide +kernel
theorem dX6_print_77 : decode cX6_print 77 = .ok (.aload_n 0, 1) := by decide +kernel
theorem dX6_print_78 : decode cX6_print 78 = .ok (.iconst 2, 1) := by decide +kernel
theorem dX6_print_79 : decode cX6_print 79 = .ok (.invokevirtual 195, 3) := by decide +kernel
theorem dX6_print_82 : decode cX6_print 82 = .ok (.aload_n 0, 1) := by decide +kernel
theorem dX6_print_83 : decode cX6_print 83 = .ok (.getfield 178, 3) := by decide +kernel
theorem dX6_print_86 : decode cX6_print 86 = .ok (.ireturn, 1) := by decide +kernel
theorem dX6_print_87 : decode cX6_print 87 = .ok (.aload_n 0, 1) := by decide +kernel
theorem dX6_print_88 : decode cX6_print 88 = .ok (.aload_n 0, 1) := by decide +kernel
theorem dX6_print_89 : decode cX6_print 89 = .ok (.getfield 19, 3) := by decide +kernel
theorem dX6_print_92 : decode cX6_print 92 = .ok (.bipush 12, 2) := by decide +kernel
theorem dX6_print_94 : decode cX6_print 94 = .ok (.iload_n 1, 1) := by decide +kernel
theorem dX6_print_95 : decode cX6_print 95 = .ok (.imul, 1) := by decide +kernel
theorem dX6_print_96 : decode cX6_print 96 = .ok (.laload, 1) := by decide +kernel
theorem dX6_print_97 : decode cX6_print 97 = .ok (.invokevirtual 188, 3) := by decide +kernel
theorem dX6_print_100 : decode cX6_print 100 = .ok (.aload_n 0, 1) := by decide +kernel
theorem dX6_print_101 : decode cX6_print 101 = .ok (.getfield 7, 3) := by decide +kernel
theorem dX6_print_104 : decode cX6_print 104 = .ok (.iload_n 1, 1) := by decide +kernel
theorem dX6_print_105 : decode cX6_print 105 = .ok (.iaload, 1) := by decide +kernel
theorem dX6_print_106 : decode cX6_print 106 = .ok (.ifCond .le 70, 3) := by decide +kernel
theorem dX6_print_109 : decode cX6_print 109 = .ok (.aload_n 0, 1) := by decide +kernel
theorem dX6_print_110 : decode cX6_print 110 = .ok (.iconst 0, 1) := by decide +kernel
theorem dX6_print_111 : decode cX6_print 111 = .ok (.invokevirtual 195, 3) := by decide +kernel
theorem dX6_print_114 : decode cX6_print 114 = .ok (.aload_n 0, 1) := by decide +kernel
theorem dX6_print_115 : decode cX6_print 115 = .ok (.bipush 47, 2) := by decide +kernel
theorem dX6_print_117 : decode cX6_print 117 = .ok (.invokevirtual 181, 3) := by decide +kernel
theorem dX6_print_120 : decode cX6_print 120 = .ok (.aload_n 0, 1) := by decide +kernel
theorem dX6_print_121 : decode cX6_print 121 = .ok (.aload_n 0, 1) := by decide +kernel
theorem dX6_print_122 : decode cX6_print 122 = .ok (.getfield 19, 3) := by decide +kernel
theorem dX6_print_125 : decode cX6_print 125 = .ok (.bipush 12, 2) := by decide +kernel
theorem dX6_print_127 : decode cX6_print 127 = .ok (.iload_n 1, 1) := by decide +kernel
theorem dX6_print_128 : decode cX6_print 128 = .ok (.imul, 1) := by decide +kernel
theorem dX6_print_129 : decode cX6_print 129 = .ok (.iconst 1, 1) := by decide +kernel
theorem dX6_print_130 : decode cX6_print 130 = .ok (.iadd, 1) := by decide +kernel
theorem dX6_print_131 : decode cX6_print 131 = .ok (.laload, 1) := by decide +kernel
theorem dX6_print_132 : decode cX6_print 132 = .ok (.invokevirtual 188, 3) := by decide +kernel
theorem dX6_print_135 : decode cX6_print 135 = .ok (.aload_n 0, 1) := by decide +kernel
theorem dX6_print_136 : decode cX6_print 136 = .ok (.getfield 7, 3) := by decide +kernel
theorem dX6_print_139 : decode cX6_print 139 = .ok (.iload_n 1, 1) := by decide +kernel
theorem dX6_print_140 : decode cX6_print 140 = .ok (.iaload, 1) := by decide +kernel
theorem dX6_print_141 : decode cX6_print 141 = .ok (.iconst 2, 1) := by decide +kernel
theorem dX6_print_142 : decode cX6_print 142 = .ok (.if_icmp .ne 29, 3) := by decide +kernel
theorem dX6_print_145 : decode cX6_print 145 = .ok (.aload_n 0, 1) := by decide +kernel
theorem dX6_print_146 : decode cX6_print 146 = .ok (.iconst 1, 1) := by decide +kernel
theorem dX6_print_147 : decode cX6_print 147 = .ok (.invokevirtual 195, 3) := by decide +kernel
theorem dX6_print_150 : decode cX6_print 150 = .ok (.aload_n 0, 1) := by decide +kernel
theorem dX6_print_151 : decode cX6_print 151 = .ok (.bipush 47, 2) := by decide +kernel
theorem dX6_print_153 : decode cX6_print 153 = .ok (.invokevirtual 181, 3) := by decide +kernel
theorem dX6_print_156 : decode cX6_print 156 = .ok (.aload_n 0, 1) := by decide +kernel
theorem dX6_print_157 : decode cX6_print 157 = .ok (.aload_n 0, 1) := by decide +kernel
theorem dX6_print_158 : decode cX6_print 158 = .ok (.getfield 19, 3) := by decide +kernel
theorem dX6_print_161 : decode cX6_print 161 = .ok (.bipush 12, 2) := by decide +kernel
theorem dX6_print_163 : decode cX6_print 163 = .ok (.iload_n 1, 1) := by decide +kernel
theorem dX6_print_164 : decode cX6_print 164 = .ok (.imul, 1) := by decide +kernel
theorem dX6_print_165 : decode cX6_print 165 = .ok (.iconst 2, 1) := by decide +kernel
theorem dX6_print_166 : decode cX6_print 166 = .ok (.iadd, 1) := by decide +kernel
theorem dX6_print_167 : decode cX6_print 167 = .ok (.laload, 1) := by decide +kernel
theorem dX6_print_168 : decode cX6_print 168 = .ok (.invokevirtual 188, 3) := by decide +kernel
theorem dX6_print_171 : decode cX6_print 171 = .ok (.aload_n 0, 1) := by decide +kernel
theorem dX6_print_172 : decode cX6_print 172 = .ok (.iconst 2, 1) := by decide +kernel
theorem dX6_print_173 : decode cX6_print 173 = .ok (.invokevirtual 195, 3) := by decide +kernel
theorem dX6_print_176 : decode cX6_print 176 = .ok (.aload_n 0, 1) := by decide +kernel
theorem dX6_print_177 : decode cX6_print 177 = .ok (.getfield 178, 3) := by decide +kernel
theorem dX6_print_180 : decode cX6_print 180 = .ok (.ireturn, 1) := by decide +kernel
set_option maxRecDepth 20000 in
theorem ggX6_out_X6_in : GoodIn wsX6_out wsX6_in := goodIn_r _ [6] (by decide +kernel) (by decide +kernel)
set_option maxRecDepth 20000 in
theorem gX6_out_X6_in : GoodIn wsX6_out (va_wsS RX6 48 yX6_in wsX6_in) := goodIn_app (goodIn_of _ (by decide +kernel)) ggX6_out_X6_in
theorem dX6_out_0 : decode cX6_out 0 = .ok (.iload_n 1, 1) := by decide +kernel
theorem dX6_out_1 : decode cX6_out 1 = .ok (.i2l, 1) := by decide +kernel
theorem dX6_out_2 : decode cX6_out 2 = .ok (.lconst 0, 1) := by decide +kernel
theorem dX6_out_3 : decode cX6_out 3 = .ok (.aload_n 0, 1) := by decide +kernel
theorem dX6_out_4 : decode cX6_out 4 = .ok (.getfield 178, 3) := by decide +kernel
theorem dX6_out_7 : decode cX6_out 7 = .ok (.iconst 1, 1) := by decide +kernel
theorem dX6_out_8 : decode cX6_out 8 = .ok (.isub, 1) := by decide +kernel
theorem dX6_out_9 : decode cX6_out 9 = .ok (.i2l, 1) := by decide +kernel
theorem dX6_out_10 : decode cX6_out 10 = .ok (.invokestatic 48, 3) := by decide +kernel
theorem dX6_out_13 : decode cX6_out 13 = .ok (.ifCond .eq 12, 3) := by decide +kernel
theorem dX6_out_16 : decode cX6_out 16 = .ok (.aload_n 0, 1) := by decide +kernel
theorem dX6_out_17 : decode cX6_out 17 = .ok (.getfield 39, 3) := by decide +kernel
theorem dX6_out_20 : decode cX6_out 20 = .ok (.iload_n 1, 1) := by decide +kernel
theorem dX6_out_21 : decode cX6_out 21 = .ok (.iaload, 1) := by decide +kernel
theorem dX6_out_22 : decode cX6_out 22 = .ok (.goto 4, 3) := by decide +kernel
theorem dX6_out_25 : decode cX6_out 25 = .ok (.iconst (-1), 1) := by decide +kernel
theorem dX6_out_26 : decode cX6_out 26 = .ok (.ireturn, 1) := by decide +kernel
set_option maxRecDepth 20000 in
theorem ggX6_plan_X6_isNumber : GoodIn wsX6_plan wsX6_isNumber := goodIn_r _ [13, 14, 15, 16, 12, 17, 22, 23, 24, 25, 26, 27, 28, 29, 30, 31, 32, 33, 34, 35, 36, 37, 38, 39, 40, 41, 42, 43, 44, 45] (by decide +kernel) (by decide +kernel)
set_option maxRecDepth 20000 in
theorem gX6_plan_X6_isNumber : GoodIn wsX6_plan (wsV RX6 68 RX6 yX6_isNumber wsX6_isNumber) := goodIn_app (goodIn_of _ (by decide +kernel)) ggX6_plan_X6_isNumber
set_option maxRecDepth 20000 in
theorem ggX6_plan_X6_isNothing : GoodIn wsX6_plan wsX6_isNothing := goodIn_r _ [21, 2, 22, 23, 24, 25, 26, 27, 28, 29, 30, 31, 32, 33, 34, 35, 36, 37, 38, 39, 40, 41, 42, 43, 44, 45] (by decide +kernel) (by decide +kernel)
set_option maxRecDepth 20000 in
theorem gX6_plan_X6_isNothing : GoodIn wsX6_plan (wsV RX6 72 RX6 yX6_isNothing wsX6_isNothing) := goodIn_app (goodIn_of _ (by decide +kernel)) ggX6_plan_X6_isNothing
theorem dX6_plan_0 : decode cX6_plan 0 = .ok (.aload_n 0, 1) := by decide +kernel
theorem dX6_plan_1 : decode cX6_plan 1 = .ok (.iload_n 1, 1) := by decide +kernel
theorem dX6_plan_2 : decode cX6_plan 2 = .ok (.invokevirtual 68, 3) := by decide +kernel
theorem dX6_plan_5 : decode cX6_plan 5 = .ok (.ifCond .ne 6, 3) := by decide +kernel
theorem dX6_plan_8 : decode cX6_plan 8 = .ok (.bipush (-2), 2) := by decide +kernel
theorem dX6_plan_10 : decode cX6_plan 10 = .ok (.ireturn, 1) := by decide +kernel
theorem dX6_plan_11 : decode cX6_plan 11 = .ok (.aload_n 0, 1) := by decide +kernel
theorem dX6_plan_12 : decode cX6_plan 12 = .ok (.iload_n 1, 1) := by decide +kernel
theorem dX6_plan_13 : decode cX6_plan 13 = .ok (.invokevirtual 72, 3) := by decide +kernel
theorem dX6_plan_16 : decode cX6_plan 16 = .ok (.ifCond .eq 6, 3) := by decide +kernel
theorem dX6_plan_19 : decode cX6_plan 19 = .ok (.bipush (-11), 2) := by decide +kernel
theorem dX6_plan_21 : decode cX6_plan 21 = .ok (.ireturn, 1) := by decide +kernel
theorem dX6_plan_22 : decode cX6_plan 22 = .ok (.aload_n 0, 1) := by decide +kernel
theorem dX6_plan_23 : decode cX6_plan 23 = .ok (.getfield 198, 3) := by decide +kernel
theorem dX6_plan_26 : decode cX6_plan 26 = .ok (.istore_n 2, 1) := by decide +kernel
theorem dX6_plan_27 : decode cX6_plan 27 = .ok (.aload_n 0, 1) := by decide +kernel
theorem dX6_plan_28 : decode cX6_plan 28 = .ok (.aload_n 0, 1) := by decide +kernel
theorem dX6_plan_29 : decode cX6_plan 29 = .ok (.getfield 7, 3) := by decide +kernel
theorem dX6_plan_32 : decode cX6_plan 32 = .ok (.iload_n 1, 1) := by decide +kernel
theorem dX6_plan_33 : decode cX6_plan 33 = .ok (.iaload, 1) := by decide +kernel
theorem dX6_plan_34 : decode cX6_plan 34 = .ok (.putfield 52, 3) := by decide +kernel
theorem dX6_plan_37 : decode cX6_plan 37 = .ok (.aload_n 0, 1) := by decide +kernel
theorem dX6_plan_38 : decode cX6_plan 38 = .ok (.aload_n 0, 1) := by decide +kernel
theorem dX6_plan_39 : decode cX6_plan 39 = .ok (.getfield 13, 3) := by decide +kernel
theorem dX6_plan_42 : decode cX6_plan 42 = .ok (.iload_n 1, 1) := by decide +kernel
theorem dX6_plan_43 : decode cX6_plan 43 = .ok (.iaload, 1) := by decide +kernel
theorem dX6_plan_44 : decode cX6_plan 44 = .ok (.putfield 55, 3) := by decide +kernel
theorem dX6_plan_47 : decode cX6_plan 47 = .ok (.aload_n 0, 1) := by decide +kernel
theorem dX6_plan_48 : decode cX6_plan 48 = .ok (.aload_n 0, 1) := by decide +kernel
theorem dX6_plan_49 : decode cX6_plan 49 = .ok (.getfield 16, 3) := by decide +kernel
theorem dX6_plan_52 : decode cX6_plan 52 = .ok (.iload_n 1, 1) := by decide +kernel
theorem dX6_plan_53 : decode cX6_plan 53 = .ok (.iaload, 1) := by decide +kernel
theorem dX6_plan_54 : decode cX6_plan 54 = .ok (.putfield 23, 3) := by decide +kernel
theorem dX6_plan_57 : decode cX6_plan 57 = .ok (.aload_n 0, 1) := by decide +kernel
theorem dX6_plan_58 : decode cX6_plan 58 = .ok (.iconst 0, 1) := by decide +kernel
theorem dX6_plan_59 : decode cX6_plan 59 = .ok (.putfield 198, 3) := by decide +kernel
theorem dX6_plan_62 : decode cX6_plan 62 = .ok (.aload_n 0, 1) := by decide +kernel
theorem dX6_plan_63 : decode cX6_plan 63 = .ok (.iconst 0, 1) := by decide +kernel
theorem dX6_plan_64 : decode cX6_plan 64 = .ok (.putfield 201, 3) := by decide +kernel
theorem dX6_plan_67 : decode cX6_plan 67 = .ok (.iload_n 2, 1) := by decide +kernel
theorem dX6_plan_68 : decode cX6_plan 68 = .ok (.ireturn, 1) := by decide +kernel
set_option maxRecDepth 20000 in
theorem ggX6_rule_X6_isNumber : GoodIn wsX6_rule wsX6_isNumber := goodIn_r _ [9, 10, 11, 12, 8, 13, 28, 29, 30, 31, 32, 33, 34, 35, 36, 37, 38, 39, 40, 41, 42, 43, 44, 45, 46, 47, 48, 49, 50, 51] (by decide +kernel) (by decide +kernel)
set_option maxRecDepth 20000 in
theorem gX6_rule_X6_isNumber : GoodIn wsX6_rule (wsV RX6 68 RX6 yX6_isNumber wsX6_isNumber) := goodIn_app (goodIn_of _ (by decide +kernel)) ggX6_rule_X6_isNumber
set_option maxRecDepth 20000 in
theorem ggX6_rule_X6_isNothing : GoodIn wsX6_rule wsX6_isNothing := goodIn_r _ [17, 18, 28, 29, 30, 31, 32, 33, 34, 35, 36, 37, 38, 39, 40, 41, 42, 43, 44, 45, 46, 47, 48, 49, 50, 51] (by decide +kernel) (by decide +kernel)
set_option maxRecDepth 20000 in
theorem gX6_rule_X6_isNothing : GoodIn wsX6_rule (wsV RX6 72 RX6 yX6_isNothing wsX6_isNothing) := goodIn_app (goodIn_of _ (by decide +kernel)) ggX6_rule_X6_isNothing
set_option maxRecDepth 20000 in
theorem ggX6_rule_X6_isLikePlan : GoodIn wsX6_rule wsX6_isLikePlan := goodIn_r _ [22, 18, 23, 24, 25, 26, 27, 28, 29, 30, 31, 32, 33, 34, 35, 36, 37, 38, 39, 40, 41, 42, 43, 44, 45, 46, 47, 48, 49, 50, 51] (by decide +kernel) (by decide +kernel)
set_option maxRecDepth 20000 in
theorem gX6_rule_X6_isLikePlan : GoodIn wsX6_rule (wsV RX6 204 RX6 yX6_isLikePlan wsX6_isLikePlan) := goodIn_app (goodIn_of _ (by decide +kernel)) ggX6_rule_X6_isLikePlan
theorem dX6_rule_0 : decode cX6_rule 0 = .ok (.aload_n 0, 1) := by decide +kernel
theorem dX6_rule_1 : decode cX6_rule 1 = .ok (.iload_n 1, 1) := by decide +kernel
theorem dX6_rule_2 : decode cX6_rule 2 = .ok (.invokevirtual 68, 3) := by decide +kernel
theorem dX6_rule_5 : decode cX6_rule 5 = .ok (.ifCond .ne 6, 3) := by decide +kernel
theorem dX6_rule_8 : decode cX6_rule 8 = .ok (.bipush (-2), 2) := by decide +kernel
theorem dX6_rule_10 : decode cX6_rule 10 = .ok (.ireturn, 1) := by decide +kernel
theorem dX6_rule_11 : decode cX6_rule 11 = .ok (.aload_n 0, 1) := by decide +kernel
theorem dX6_rule_12 : decode cX6_rule 12 = .ok (.getfield 198, 3) := by decide +kernel
theorem dX6_rule_15 : decode cX6_rule 15 = .ok (.bipush 12, 2) := by decide +kernel
theorem dX6_rule_17 : decode cX6_rule 17 = .ok (.if_icmp .ne 6, 3) := by decide +kernel
theorem dX6_rule_20 : decode cX6_rule 20 = .ok (.bipush (-4), 2) := by decide +kernel
theorem dX6_rule_22 : decode cX6_rule 22 = .ok (.ireturn, 1) := by decide +kernel
theorem dX6_rule_23 : decode cX6_rule 23 = .ok (.aload_n 0, 1) := by decide +kernel
theorem dX6_rule_24 : decode cX6_rule 24 = .ok (.iload_n 1, 1) := by decide +kernel
theorem dX6_rule_25 : decode cX6_rule 25 = .ok (.invokevirtual 72, 3) := by decide +kernel
theorem dX6_rule_28 : decode cX6_rule 28 = .ok (.ifCond .eq 6, 3) := by decide +kernel
theorem dX6_rule_31 : decode cX6_rule 31 = .ok (.bipush (-11), 2) := by decide +kernel
theorem dX6_rule_33 : decode cX6_rule 33 = .ok (.ireturn, 1) := by decide +kernel
theorem dX6_rule_34 : decode cX6_rule 34 = .ok (.aload_n 0, 1) := by decide +kernel
theorem dX6_rule_35 : decode cX6_rule 35 = .ok (.iload_n 1, 1) := by decide +kernel
theorem dX6_rule_36 : decode cX6_rule 36 = .ok (.invokevirtual 204, 3) := by decide +kernel
theorem dX6_rule_39 : decode cX6_rule 39 = .ok (.ifCond .ne 6, 3) := by decide +kernel
theorem dX6_rule_42 : decode cX6_rule 42 = .ok (.bipush (-12), 2) := by decide +kernel
theorem dX6_rule_44 : decode cX6_rule 44 = .ok (.ireturn, 1) := by decide +kernel
theorem dX6_rule_45 : decode cX6_rule 45 = .ok (.iconst 0, 1) := by decide +kernel
theorem dX6_rule_46 : decode cX6_rule 46 = .ok (.istore_n 2, 1) := by decide +kernel
theorem dX6_rule_47 : decode cX6_rule 47 = .ok (.iload_n 2, 1) := by decide +kernel
theorem dX6_rule_48 : decode cX6_rule 48 = .ok (.bipush 12, 2) := by decide +kernel
theorem dX6_rule_50 : decode cX6_rule 50 = .ok (.if_icmp .ge 34, 3) := by decide +kernel
theorem dX6_rule_53 : decode cX6_rule 53 = .ok (.aload_n 0, 1) := by decide +kernel
theorem dX6_rule_54 : decode cX6_rule 54 = .ok (.getfield 27, 3) := by decide +kernel
theorem dX6_rule_57 : decode cX6_rule 57 = .ok (.bipush 12, 2) := by decide +kernel
theorem dX6_rule_59 : decode cX6_rule 59 = .ok (.aload_n 0, 1) := by decide +kernel
theorem dX6_rule_60 : decode cX6_rule 60 = .ok (.getfield 198, 3) := by decide +kernel
theorem dX6_rule_63 : decode cX6_rule 63 = .ok (.imul, 1) := by decide +kernel
theorem dX6_rule_64 : decode cX6_rule 64 = .ok (.iload_n 2, 1) := by decide +kernel
