theorem dX0_init_0 : decode cX0_init 0 = .ok (.aload_n 0, 1) := by decide +kernel
theorem dX0_init_1 : decode cX0_init 1 = .ok (.invokespecial 3, 3) := by decide +kernel
theorem dX0_init_4 : decode cX0_init 4 = .ok (.aload_n 0, 1) := by decide +kernel
theorem dX0_init_5 : decode cX0_init 5 = .ok (.sipush 263, 3) := by decide +kernel
theorem dX0_init_8 : decode cX0_init 8 = .ok (.newarray .byte, 2) := by decide +kernel
theorem dX0_init_10 : decode cX0_init 10 = .ok (.putfield 9, 3) := by decide +kernel
theorem dX0_init_13 : decode cX0_init 13 = .ok (.aload_n 0, 1) := by decide +kernel
theorem dX0_init_14 : decode cX0_init 14 = .ok (.bipush 19, 2) := by decide +kernel
theorem dX0_init_16 : decode cX0_init 16 = .ok (.newarray .byte, 2) := by decide +kernel
theorem dX0_init_18 : decode cX0_init 18 = .ok (.putfield 15, 3) := by decide +kernel
theorem dX0_init_21 : decode cX0_init 21 = .ok (.return_, 1) := by decide +kernel
set_option maxRecDepth 20000 in
theorem ggX0_write_X0_writeBent : GoodIn wsX0_write wsX0_writeBent := goodIn_r _ [7, 8, 9, 10, 11, 12, 6, 13, 14, 15, 16, 17, 18, 19, 20, 21, 22, 23, 24, 25, 26, 27, 28, 29, 30, 31, 32, 33, 34, 35, 36, 37, 38, 39, 40, 41, 42, 43, 44, 45, 46, 47, 48, 49, 50, 51, 52, 53, 54, 55, 56, 57, 58, 59, 60, 61, 62, 63, 64, 65, 66, 1, 67, 68, 69, 70, 71, 72, 73, 74, 75, 76, 77, 78, 79, 87, 88, 89, 90, 84, 85, 86] (by decide +kernel) (by decide +kernel)
set_option maxRecDepth 20000 in
theorem gX0_write_X0_writeBent : GoodIn wsX0_write (wsV RX0 27 RX0 yX0_writeBent wsX0_writeBent) := goodIn_app (goodIn_of _ (by decide +kernel)) ggX0_write_X0_writeBent
set_option maxRecDepth 20000 in
theorem ggX0_write_X0_writePlain : GoodIn wsX0_write wsX0_writePlain := goodIn_r _ [83, 72, 2, 73, 74, 75, 6, 76, 77, 78, 79, 63, 64, 65, 66, 1, 67, 10, 11, 12, 13, 14, 15, 16, 17, 18, 19, 20, 21, 22, 23, 24, 25, 26, 27, 28, 29, 30, 31, 32, 33, 34, 35, 36, 37, 38, 39, 40, 41, 42, 43, 44, 45, 46, 47, 48, 49, 50, 51, 52, 53, 54, 55, 56, 57, 58, 59, 60, 61, 62, 87, 88, 89, 90, 84, 85, 86] (by decide +kernel) (by decide +kernel)
set_option maxRecDepth 20000 in
theorem gX0_write_X0_writePlain : GoodIn wsX0_write (wsV RX0 31 RX0 yX0_writePlain wsX0_writePlain) := goodIn_app (goodIn_of _ (by decide +kernel)) ggX0_write_X0_writePlain
theorem dX0_write_0 : decode cX0_write 0 = .ok (.aload_n 0, 1) := by decide +kernel
theorem dX0_write_1 : decode cX0_write 1 = .ok (.iconst 0, 1) := by decide +kernel
theorem dX0_write_2 : decode cX0_write 2 = .ok (.putfield 18, 3) := by decide +kernel
theorem dX0_write_5 : decode cX0_write 5 = .ok (.aload_n 1, 1) := by decide +kernel
theorem dX0_write_6 : decode cX0_write 6 = .ok (.getfield 22, 3) := by decide +kernel
theorem dX0_write_9 : decode cX0_write 9 = .ok (.iconst 3, 1) := by decide +kernel
theorem dX0_write_10 : decode cX0_write 10 = .ok (.if_icmp .ne 11, 3) := by decide +kernel
theorem dX0_write_13 : decode cX0_write 13 = .ok (.aload_n 0, 1) := by decide +kernel
theorem dX0_write_14 : decode cX0_write 14 = .ok (.aload_n 1, 1) := by decide +kernel
theorem dX0_write_15 : decode cX0_write 15 = .ok (.invokevirtual 27, 3) := by decide +kernel
theorem dX0_write_18 : decode cX0_write 18 = .ok (.goto 8, 3) := by decide +kernel
theorem dX0_write_21 : decode cX0_write 21 = .ok (.aload_n 0, 1) := by decide +kernel
theorem dX0_write_22 : decode cX0_write 22 = .ok (.aload_n 1, 1) := by decide +kernel
theorem dX0_write_23 : decode cX0_write 23 = .ok (.invokevirtual 31, 3) := by decide +kernel
theorem dX0_write_26 : decode cX0_write 26 = .ok (.return_, 1) := by decide +kernel
set_option maxRecDepth 20000 in
theorem ggX0_writePlain_X0_writeNumber : GoodIn wsX0_writePlain wsX0_writeNumber := goodIn_r _ [7, 8, 9, 10, 11, 12, 13, 6, 14, 15, 16, 74, 75, 76] (by decide +kernel) (by decide +kernel)
set_option maxRecDepth 20000 in
theorem gX0_writePlain_X0_writeNumber : GoodIn wsX0_writePlain (wsV RX0 38 RX0 yX0_writeNumber wsX0_writeNumber) := goodIn_app (goodIn_of _ (by decide +kernel)) ggX0_writePlain_X0_writeNumber
set_option maxRecDepth 20000 in
theorem ggX0_writePlain_X0_writeWord : GoodIn wsX0_writePlain wsX0_writeWord := goodIn_r _ [20, 21, 22, 23, 24, 25, 26, 27, 28, 29, 30, 31, 32, 33, 34, 35, 36, 37, 38, 39, 40, 41, 42, 43, 44, 45, 46, 47, 48, 49, 50, 51, 52, 53, 54, 55, 56, 57, 58, 59, 60, 61, 62, 63, 64, 65, 66, 67, 68, 69, 11, 12, 13, 6, 14, 15, 16, 74, 75, 76] (by decide +kernel) (by decide +kernel)
set_option maxRecDepth 20000 in
theorem gX0_writePlain_X0_writeWord : GoodIn wsX0_writePlain (wsV RX0 44 RX0 yX0_writeWord wsX0_writeWord) := goodIn_app (goodIn_of _ (by decide +kernel)) ggX0_writePlain_X0_writeWord
theorem dX0_writePlain_0 : decode cX0_writePlain 0 = .ok (.aload_n 0, 1) := by decide +kernel
theorem dX0_writePlain_1 : decode cX0_writePlain 1 = .ok (.aload_n 1, 1) := by decide +kernel
theorem dX0_writePlain_2 : decode cX0_writePlain 2 = .ok (.getfield 34, 3) := by decide +kernel
theorem dX0_writePlain_5 : decode cX0_writePlain 5 = .ok (.iconst 0, 1) := by decide +kernel
theorem dX0_writePlain_6 : decode cX0_writePlain 6 = .ok (.laload, 1) := by decide +kernel
theorem dX0_writePlain_7 : decode cX0_writePlain 7 = .ok (.invokevirtual 38, 3) := by decide +kernel
theorem dX0_writePlain_10 : decode cX0_writePlain 10 = .ok (.aload_n 1, 1) := by decide +kernel
theorem dX0_writePlain_11 : decode cX0_writePlain 11 = .ok (.getfield 22, 3) := by decide +kernel
theorem dX0_writePlain_14 : decode cX0_writePlain 14 = .ok (.ifCond .ne 4, 3) := by decide +kernel
theorem dX0_writePlain_17 : decode cX0_writePlain 17 = .ok (.return_, 1) := by decide +kernel
theorem dX0_writePlain_18 : decode cX0_writePlain 18 = .ok (.aload_n 0, 1) := by decide +kernel
theorem dX0_writePlain_19 : decode cX0_writePlain 19 = .ok (.ldc 42, 2) := by decide +kernel
theorem dX0_writePlain_21 : decode cX0_writePlain 21 = .ok (.invokevirtual 44, 3) := by decide +kernel
theorem dX0_writePlain_24 : decode cX0_writePlain 24 = .ok (.aload_n 0, 1) := by decide +kernel
theorem dX0_writePlain_25 : decode cX0_writePlain 25 = .ok (.aload_n 1, 1) := by decide +kernel
theorem dX0_writePlain_26 : decode cX0_writePlain 26 = .ok (.getfield 34, 3) := by decide +kernel
theorem dX0_writePlain_29 : decode cX0_writePlain 29 = .ok (.iconst 1, 1) := by decide +kernel
theorem dX0_writePlain_30 : decode cX0_writePlain 30 = .ok (.laload, 1) := by decide +kernel
theorem dX0_writePlain_31 : decode cX0_writePlain 31 = .ok (.invokevirtual 38, 3) := by decide +kernel
theorem dX0_writePlain_34 : decode cX0_writePlain 34 = .ok (.aload_n 1, 1) := by decide +kernel
theorem dX0_writePlain_35 : decode cX0_writePlain 35 = .ok (.getfield 22, 3) := by decide +kernel
theorem dX0_writePlain_38 : decode cX0_writePlain 38 = .ok (.iconst 2, 1) := by decide +kernel
theorem dX0_writePlain_39 : decode cX0_writePlain 39 = .ok (.if_icmp .ne 19, 3) := by decide +kernel
theorem dX0_writePlain_42 : decode cX0_writePlain 42 = .ok (.aload_n 0, 1) := by decide +kernel
theorem dX0_writePlain_43 : decode cX0_writePlain 43 = .ok (.ldc 48, 2) := by decide +kernel
theorem dX0_writePlain_45 : decode cX0_writePlain 45 = .ok (.invokevirtual 44, 3) := by decide +kernel
theorem dX0_writePlain_48 : decode cX0_writePlain 48 = .ok (.aload_n 0, 1) := by decide +kernel
theorem dX0_writePlain_49 : decode cX0_writePlain 49 = .ok (.aload_n 1, 1) := by decide +kernel
theorem dX0_writePlain_50 : decode cX0_writePlain 50 = .ok (.getfield 34, 3) := by decide +kernel
theorem dX0_writePlain_53 : decode cX0_writePlain 53 = .ok (.iconst 2, 1) := by decide +kernel
theorem dX0_writePlain_54 : decode cX0_writePlain 54 = .ok (.laload, 1) := by decide +kernel
theorem dX0_writePlain_55 : decode cX0_writePlain 55 = .ok (.invokevirtual 38, 3) := by decide +kernel
theorem dX0_writePlain_58 : decode cX0_writePlain 58 = .ok (.aload_n 0, 1) := by decide +kernel
theorem dX0_writePlain_59 : decode cX0_writePlain 59 = .ok (.ldc 50, 2) := by decide +kernel
theorem dX0_writePlain_61 : decode cX0_writePlain 61 = .ok (.invokevirtual 44, 3) := by decide +kernel
theorem dX0_writePlain_64 : decode cX0_writePlain 64 = .ok (.return_, 1) := by decide +kernel
set_option maxRecDepth 20000 in
theorem ggX0_writeBent_X0_writeWord : GoodIn wsX0_writeBent wsX0_writeWord := goodIn_r _ [7, 8, 9, 10, 11, 12, 13, 14, 15, 16, 17, 18, 19, 20, 21, 22, 23, 24, 25, 26, 27, 28, 29, 30, 31, 32, 33, 34, 35, 36, 37, 38, 39, 40, 41, 42, 43, 44, 45, 46, 47, 48, 49, 50, 51, 52, 53, 54, 55, 56, 57, 58, 59, 6, 60, 61, 62, 79, 80, 81] (by decide +kernel) (by decide +kernel)
set_option maxRecDepth 20000 in
theorem gX0_writeBent_X0_writeWord : GoodIn wsX0_writeBent (wsV RX0 44 RX0 yX0_writeWord wsX0_writeWord) := goodIn_app (goodIn_of _ (by decide +kernel)) ggX0_writeBent_X0_writeWord
set_option maxRecDepth 20000 in
theorem ggX0_writeBent_X0_writeList : GoodIn wsX0_writeBent wsX0_writeList := goodIn_r _ [66, 67, 57, 58, 59, 6, 60, 61, 62, 68, 69, 70, 71, 72, 73, 74, 75, 76, 77, 78, 79, 80, 81] (by decide +kernel) (by decide +kernel)
set_option maxRecDepth 20000 in
theorem gX0_writeBent_X0_writeList : GoodIn wsX0_writeBent (wsV RX0 57 RX0 yX0_writeList wsX0_writeList) := goodIn_app (goodIn_of _ (by decide +kernel)) ggX0_writeBent_X0_writeList
theorem dX0_writeBent_0 : decode cX0_writeBent 0 = .ok (.aload_n 0, 1) := by decide +kernel
theorem dX0_writeBent_1 : decode cX0_writeBent 1 = .ok (.ldc 52, 2) := by decide +kernel
theorem dX0_writeBent_3 : decode cX0_writeBent 3 = .ok (.invokevirtual 44, 3) := by decide +kernel
theorem dX0_writeBent_6 : decode cX0_writeBent 6 = .ok (.aload_n 0, 1) := by decide +kernel
theorem dX0_writeBent_7 : decode cX0_writeBent 7 = .ok (.aload_n 1, 1) := by decide +kernel
theorem dX0_writeBent_8 : decode cX0_writeBent 8 = .ok (.iconst 0, 1) := by decide +kernel
theorem dX0_writeBent_9 : decode cX0_writeBent 9 = .ok (.aload_n 1, 1) := by decide +kernel
theorem dX0_writeBent_10 : decode cX0_writeBent 10 = .ok (.getfield 54, 3) := by decide +kernel
theorem dX0_writeBent_13 : decode cX0_writeBent 13 = .ok (.invokevirtual 57, 3) := by decide +kernel
theorem dX0_writeBent_16 : decode cX0_writeBent 16 = .ok (.aload_n 0, 1) := by decide +kernel
theorem dX0_writeBent_17 : decode cX0_writeBent 17 = .ok (.ldc 61, 2) := by decide +kernel
theorem dX0_writeBent_19 : decode cX0_writeBent 19 = .ok (.invokevirtual 44, 3) := by decide +kernel
theorem dX0_writeBent_22 : decode cX0_writeBent 22 = .ok (.aload_n 0, 1) := by decide +kernel
theorem dX0_writeBent_23 : decode cX0_writeBent 23 = .ok (.aload_n 1, 1) := by decide +kernel
theorem dX0_writeBent_24 : decode cX0_writeBent 24 = .ok (.aload_n 1, 1) := by decide +kernel
theorem dX0_writeBent_25 : decode cX0_writeBent 25 = .ok (.getfield 54, 3) := by decide +kernel
theorem dX0_writeBent_28 : decode cX0_writeBent 28 = .ok (.aload_n 1, 1) := by decide +kernel
theorem dX0_writeBent_29 : decode cX0_writeBent 29 = .ok (.getfield 63, 3) := by decide +kernel
theorem dX0_writeBent_32 : decode cX0_writeBent 32 = .ok (.invokevirtual 57, 3) := by decide +kernel
theorem dX0_writeBent_35 : decode cX0_writeBent 35 = .ok (.aload_n 0, 1) := by decide +kernel
theorem dX0_writeBent_36 : decode cX0_writeBent 36 = .ok (.ldc 66, 2) := by decide +kernel
theorem dX0_writeBent_38 : decode cX0_writeBent 38 = .ok (.invokevirtual 44, 3) := by decide +kernel
theorem dX0_writeBent_41 : decode cX0_writeBent 41 = .ok (.return_, 1) := by decide +kernel
set_option maxRecDepth 20000 in
theorem ggX0_writeList_X0_append : GoodIn wsX0_writeList wsX0_append := goodIn_r _ [6, 7, 8, 20, 21, 22] (by decide +kernel) (by decide +kernel)
set_option maxRecDepth 20000 in
theorem gX0_writeList_X0_append : GoodIn wsX0_writeList (wsV RX0 68 RX0 yX0_append wsX0_append) := goodIn_app (goodIn_of _ (by decide +kernel)) ggX0_writeList_X0_append
set_option maxRecDepth 20000 in
theorem ggX0_writeList_X0_writeNumber : GoodIn wsX0_writeList wsX0_writeNumber := goodIn_r _ [12, 13, 14, 15, 2, 3, 4, 5, 6, 7, 8, 20, 21, 22] (by decide +kernel) (by decide +kernel)
set_option maxRecDepth 20000 in
theorem gX0_writeList_X0_writeNumber : GoodIn wsX0_writeList (wsV RX0 38 RX0 yX0_writeNumber wsX0_writeNumber) := goodIn_app (goodIn_of _ (by decide +kernel)) ggX0_writeList_X0_writeNumber
theorem dX0_writeList_0 : decode cX0_writeList 0 = .ok (.iload_n 2, 1) := by decide +kernel
theorem dX0_writeList_1 : decode cX0_writeList 1 = .ok (.istore 4, 2) := by decide +kernel
theorem dX0_writeList_3 : decode cX0_writeList 3 = .ok (.iload 4, 2) := by decide +kernel
theorem dX0_writeList_5 : decode cX0_writeList 5 = .ok (.iload_n 3, 1) := by decide +kernel
theorem dX0_writeList_6 : decode cX0_writeList 6 = .ok (.if_icmp .ge 32, 3) := by decide +kernel
theorem dX0_writeList_9 : decode cX0_writeList 9 = .ok (.iload 4, 2) := by decide +kernel
theorem dX0_writeList_11 : decode cX0_writeList 11 = .ok (.iload_n 2, 1) := by decide +kernel
theorem dX0_writeList_12 : decode cX0_writeList 12 = .ok (.if_icmp .le 9, 3) := by decide +kernel
theorem dX0_writeList_15 : decode cX0_writeList 15 = .ok (.aload_n 0, 1) := by decide +kernel
theorem dX0_writeList_16 : decode cX0_writeList 16 = .ok (.bipush 47, 2) := by decide +kernel
theorem dX0_writeList_18 : decode cX0_writeList 18 = .ok (.invokevirtual 68, 3) := by decide +kernel
theorem dX0_writeList_21 : decode cX0_writeList 21 = .ok (.aload_n 0, 1) := by decide +kernel
theorem dX0_writeList_22 : decode cX0_writeList 22 = .ok (.aload_n 1, 1) := by decide +kernel
theorem dX0_writeList_23 : decode cX0_writeList 23 = .ok (.getfield 34, 3) := by decide +kernel
theorem dX0_writeList_26 : decode cX0_writeList 26 = .ok (.iload 4, 2) := by decide +kernel
theorem dX0_writeList_28 : decode cX0_writeList 28 = .ok (.laload, 1) := by decide +kernel
theorem dX0_writeList_29 : decode cX0_writeList 29 = .ok (.invokevirtual 38, 3) := by decide +kernel
theorem dX0_writeList_32 : decode cX0_writeList 32 = .ok (.iinc 4 1, 3) := by decide +kernel
theorem dX0_writeList_35 : decode cX0_writeList 35 = .ok (.goto (-32), 3) := by decide +kernel
theorem dX0_writeList_38 : decode cX0_writeList 38 = .ok (.return_, 1) := by decide +kernel
set_option maxRecDepth 20000 in
theorem ggX0_writeNumber_X0_append : GoodIn wsX0_writeNumber wsX0_append := goodIn_r _ [8, 9, 10, 11, 12, 13] (by decide +kernel) (by decide +kernel)
set_option maxRecDepth 20000 in
theorem gX0_writeNumber_X0_append : GoodIn wsX0_writeNumber (wsV RX0 68 RX0 yX0_append wsX0_append) := goodIn_app (goodIn_of _ (by decide +kernel)) ggX0_writeNumber_X0_append
theorem dX0_writeNumber_0 : decode cX0_writeNumber 0 = .ok (.lload_n 1, 1) := by decide +kernel
theorem dX0_writeNumber_1 : decode cX0_writeNumber 1 = .ok (.lconst 0, 1) := by decide +kernel
theorem dX0_writeNumber_2 : decode cX0_writeNumber 2 = .ok (.lcmp, 1) := by decide +kernel
theorem dX0_writeNumber_3 : decode cX0_writeNumber 3 = .ok (.ifCond .ge 7, 3) := by decide +kernel
theorem dX0_writeNumber_6 : decode cX0_writeNumber 6 = .ok (.lload_n 1, 1) := by decide +kernel
theorem dX0_writeNumber_7 : decode cX0_writeNumber 7 = .ok (.goto 5, 3) := by decide +kernel
theorem dX0_writeNumber_10 : decode cX0_writeNumber 10 = .ok (.lload_n 1, 1) := by decide +kernel
theorem dX0_writeNumber_11 : decode cX0_writeNumber 11 = .ok (.lneg, 1) := by decide +kernel
theorem dX0_writeNumber_12 : decode cX0_writeNumber 12 = .ok (.lstore_n 3, 1) := by decide +kernel
theorem dX0_writeNumber_13 : decode cX0_writeNumber 13 = .ok (.iconst 0, 1) := by decide +kernel
theorem dX0_writeNumber_14 : decode cX0_writeNumber 14 = .ok (.istore 5, 2) := by decide +kernel
theorem dX0_writeNumber_16 : decode cX0_writeNumber 16 = .ok (.aload_n 0, 1) := by decide +kernel
theorem dX0_writeNumber_17 : decode cX0_writeNumber 17 = .ok (.getfield 15, 3) := by decide +kernel
theorem dX0_writeNumber_20 : decode cX0_writeNumber 20 = .ok (.iload 5, 2) := by decide +kernel
theorem dX0_writeNumber_22 : decode cX0_writeNumber 22 = .ok (.ldc2_w 72, 3) := by decide +kernel
theorem dX0_writeNumber_25 : decode cX0_writeNumber 25 = .ok (.lload_n 3, 1) := by decide +kernel
theorem dX0_writeNumber_26 : decode cX0_writeNumber 26 = .ok (.ldc2_w 74, 3) := by decide +kernel
theorem dX0_writeNumber_29 : decode cX0_writeNumber 29 = .ok (.lrem, 1) := by decide +kernel
theorem dX0_writeNumber_30 : decode cX0_writeNumber 30 = .ok (.lsub, 1) := by decide +kernel
theorem dX0_writeNumber_31 : decode cX0_writeNumber 31 = .ok (.l2i, 1) := by decide +kernel
theorem dX0_writeNumber_32 : decode cX0_writeNumber 32 = .ok (.i2b, 1) := by decide +kernel
theorem dX0_writeNumber_33 : decode cX0_writeNumber 33 = .ok (.bastore, 1) := by decide +kernel
theorem dX0_writeNumber_34 : decode cX0_writeNumber 34 = .ok (.lload_n 3, 1) := by decide +kernel
theorem dX0_writeNumber_35 : decode cX0_writeNumber 35 = .ok (.ldc2_w 74, 3) := by decide +kernel
theorem dX0_writeNumber_38 : decode cX0_writeNumber 38 = .ok (.ldiv, 1) := by decide +kernel
theorem dX0_writeNumber_39 : decode cX0_writeNumber 39 = .ok (.lstore_n 3, 1) := by decide +kernel
theorem dX0_writeNumber_40 : decode cX0_writeNumber 40 = .ok (.iinc 5 1, 3) := by decide +kernel
theorem dX0_writeNumber_43 : decode cX0_writeNumber 43 = .ok (.lload_n 3, 1) := by decide +kernel
theorem dX0_writeNumber_44 : decode cX0_writeNumber 44 = .ok (.lconst 0, 1) := by decide +kernel
theorem dX0_writeNumber_45 : decode cX0_writeNumber 45 = .ok (.lcmp, 1) := by decide +kernel
theorem dX0_writeNumber_46 : decode cX0_writeNumber 46 = .ok (.ifCond .eq 10, 3) := by decide +kernel
theorem dX0_writeNumber_49 : decode cX0_writeNumber 49 = .ok (.iload 5, 2) := by decide +kernel
theorem dX0_writeNumber_51 : decode cX0_writeNumber 51 = .ok (.bipush 19, 2) := by decide +kernel
theorem dX0_writeNumber_53 : decode cX0_writeNumber 53 = .ok (.if_icmp .lt (-37), 3) := by decide +kernel
theorem dX0_writeNumber_56 : decode cX0_writeNumber 56 = .ok (.lload_n 1, 1) := by decide +kernel
theorem dX0_writeNumber_57 : decode cX0_writeNumber 57 = .ok (.lconst 0, 1) := by decide +kernel
theorem dX0_writeNumber_58 : decode cX0_writeNumber 58 = .ok (.lcmp, 1) := by decide +kernel
theorem dX0_writeNumber_59 : decode cX0_writeNumber 59 = .ok (.ifCond .ge 9, 3) := by decide +kernel
theorem dX0_writeNumber_62 : decode cX0_writeNumber 62 = .ok (.aload_n 0, 1) := by decide +kernel
theorem dX0_writeNumber_63 : decode cX0_writeNumber 63 = .ok (.bipush 45, 2) := by decide +kernel
theorem dX0_writeNumber_65 : decode cX0_writeNumber 65 = .ok (.invokevirtual 68, 3) := by decide +kernel
theorem dX0_writeNumber_68 : decode cX0_writeNumber 68 = .ok (.iload 5, 2) := by decide +kernel
theorem dX0_writeNumber_70 : decode cX0_writeNumber 70 = .ok (.iconst 1, 1) := by decide +kernel
theorem dX0_writeNumber_71 : decode cX0_writeNumber 71 = .ok (.isub, 1) := by decide +kernel
theorem dX0_writeNumber_72 : decode cX0_writeNumber 72 = .ok (.istore 6, 2) := by decide +kernel
theorem dX0_writeNumber_74 : decode cX0_writeNumber 74 = .ok (.iload 6, 2) := by decide +kernel
theorem dX0_writeNumber_76 : decode cX0_writeNumber 76 = .ok (.ifCond .lt 20, 3) := by decide +kernel
theorem dX0_writeNumber_79 : decode cX0_writeNumber 79 = .ok (.aload_n 0, 1) := by decide +kernel
theorem dX0_writeNumber_80 : decode cX0_writeNumber 80 = .ok (.aload_n 0, 1) := by decide +kernel
theorem dX0_writeNumber_81 : decode cX0_writeNumber 81 = .ok (.getfield 15, 3) := by decide +kernel
theorem dX0_writeNumber_84 : decode cX0_writeNumber 84 = .ok (.iload 6, 2) := by decide +kernel
theorem dX0_writeNumber_86 : decode cX0_writeNumber 86 = .ok (.baload, 1) := by decide +kernel
theorem dX0_writeNumber_87 : decode cX0_writeNumber 87 = .ok (.invokevirtual 68, 3) := by decide +kernel
theorem dX0_writeNumber_90 : decode cX0_writeNumber 90 = .ok (.iinc 6 (-1), 3) := by decide +kernel
theorem dX0_writeNumber_93 : decode cX0_writeNumber 93 = .ok (.goto (-19), 3) := by decide +kernel
theorem dX0_writeNumber_96 : decode cX0_writeNumber 96 = .ok (.return_, 1) := by decide +kernel
set_option maxRecDepth 20000 in
theorem ggX0_writeWord_J0_length_8abf5 : GoodIn wsX0_writeWord wsJ0_length_8abf5 := goodIn_r _ [5, 6, 7, 8, 9, 4, 10, 11, 12] (by decide +kernel) (by decide +kernel)
set_option maxRecDepth 20000 in
theorem gX0_writeWord_J0_length_8abf5 : GoodIn wsX0_writeWord (wsV RX0 76 RJ0 yJ0_length_8abf5 wsJ0_length_8abf5) := goodIn_app (goodIn_of _ (by decide +kernel)) ggX0_writeWord_J0_length_8abf5
set_option maxRecDepth 20000 in
theorem ggX0_writeWord_J0_charAt_5068e : GoodIn wsX0_writeWord wsJ0_charAt_5068e := goodIn_r _ [16, 6, 17, 18, 19, 4, 20, 11, 12, 21, 22, 23, 24, 25, 26, 27, 28, 29, 30, 31, 32, 33, 34, 35, 36, 37, 38, 39, 40, 41, 42, 43, 44, 45, 46, 47, 48, 49] (by decide +kernel) (by decide +kernel)
set_option maxRecDepth 20000 in
theorem gX0_writeWord_J0_charAt_5068e : GoodIn wsX0_writeWord (wsV RX0 81 RJ0 yJ0_charAt_5068e wsJ0_charAt_5068e) := goodIn_app (goodIn_of _ (by decide +kernel)) ggX0_writeWord_J0_charAt_5068e
set_option maxRecDepth 20000 in
theorem ggX0_writeWord_X0_append : GoodIn wsX0_writeWord wsX0_append := goodIn_r _ [54, 55, 56, 57, 58, 59] (by decide +kernel) (by decide +kernel)
set_option maxRecDepth 20000 in
theorem gX0_writeWord_X0_append : GoodIn wsX0_writeWord (wsV RX0 68 RX0 yX0_append wsX0_append) := goodIn_app (goodIn_of _ (by decide +kernel)) ggX0_writeWord_X0_append
theorem dX0_writeWord_0 : decode cX0_writeWord 0 = .ok (.iconst 0, 1) := by decide +kernel
theorem dX0_writeWord_1 : decode cX0_writeWord 1 = .ok (.istore_n 2, 1) := by decide +kernel
theorem dX0_writeWord_2 : decode cX0_writeWord 2 = .ok (.iload_n 2, 1) := by decide +kernel
theorem dX0_writeWord_3 : decode cX0_writeWord 3 = .ok (.aload_n 1, 1) := by decide +kernel
theorem dX0_writeWord_4 : decode cX0_writeWord 4 = .ok (.invokevirtual 76, 3) := by decide +kernel
theorem dX0_writeWord_7 : decode cX0_writeWord 7 = .ok (.if_icmp .ge 18, 3) := by decide +kernel
theorem dX0_writeWord_10 : decode cX0_writeWord 10 = .ok (.aload_n 0, 1) := by decide +kernel
theorem dX0_writeWord_11 : decode cX0_writeWord 11 = .ok (.aload_n 1, 1) := by decide +kernel
theorem dX0_writeWord_12 : decode cX0_writeWord 12 = .ok (.iload_n 2, 1) := by decide +kernel
theorem dX0_writeWord_13 : decode cX0_writeWord 13 = .ok (.invokevirtual 81, 3) := by decide +kernel
theorem dX0_writeWord_16 : decode cX0_writeWord 16 = .ok (.invokevirtual 68, 3) := by decide +kernel
theorem dX0_writeWord_19 : decode cX0_writeWord 19 = .ok (.iinc 2 1, 3) := by decide +kernel
theorem dX0_writeWord_22 : decode cX0_writeWord 22 = .ok (.goto (-20), 3) := by decide +kernel
theorem dX0_writeWord_25 : decode cX0_writeWord 25 = .ok (.return_, 1) := by decide +kernel
theorem dX0_append_0 : decode cX0_append 0 = .ok (.aload_n 0, 1) := by decide +kernel
theorem dX0_append_1 : decode cX0_append 1 = .ok (.getfield 18, 3) := by decide +kernel
theorem dX0_append_4 : decode cX0_append 4 = .ok (.aload_n 0, 1) := by decide +kernel
theorem dX0_append_5 : decode cX0_append 5 = .ok (.getfield 9, 3) := by decide +kernel
theorem dX0_append_8 : decode cX0_append 8 = .ok (.arraylength, 1) := by decide +kernel
theorem dX0_append_9 : decode cX0_append 9 = .ok (.if_icmp .ge 24, 3) := by decide +kernel
theorem dX0_append_12 : decode cX0_append 12 = .ok (.aload_n 0, 1) := by decide +kernel
theorem dX0_append_13 : decode cX0_append 13 = .ok (.getfield 9, 3) := by decide +kernel
theorem dX0_append_16 : decode cX0_append 16 = .ok (.aload_n 0, 1) := by decide +kernel
theorem dX0_append_17 : decode cX0_append 17 = .ok (.getfield 18, 3) := by decide +kernel
theorem dX0_append_20 : decode cX0_append 20 = .ok (.iload_n 1, 1) := by decide +kernel
theorem dX0_append_21 : decode cX0_append 21 = .ok (.i2b, 1) := by decide +kernel
theorem dX0_append_22 : decode cX0_append 22 = .ok (.bastore, 1) := by decide +kernel
theorem dX0_append_23 : decode cX0_append 23 = .ok (.aload_n 0, 1) := by decide +kernel
theorem dX0_append_24 : decode cX0_append 24 = .ok (.dup, 1) := by decide +kernel
theorem dX0_append_25 : decode cX0_append 25 = .ok (.getfield 18, 3) := by decide +kernel
theorem dX0_append_28 : decode cX0_append 28 = .ok (.iconst 1, 1) := by decide +kernel
theorem dX0_append_29 : decode cX0_append 29 = .ok (.iadd, 1) := by decide +kernel
theorem dX0_append_30 : decode cX0_append 30 = .ok (.putfield 18, 3) := by decide +kernel
theorem dX0_append_33 : decode cX0_append 33 = .ok (.return_, 1) := by decide +kernel
