theorem dX1_addPeg_28 : decode cX1_addPeg 28 = .ok (.iconst 0, 1) := by decide +kernel
theorem dX1_addPeg_29 : decode cX1_addPeg 29 = .ok (.iastore, 1) := by decide +kernel
theorem dX1_addPeg_30 : decode cX1_addPeg 30 = .ok (.aload_n 0, 1) := by decide +kernel
theorem dX1_addPeg_31 : decode cX1_addPeg 31 = .ok (.getfield 22, 3) := by decide +kernel
theorem dX1_addPeg_34 : decode cX1_addPeg 34 = .ok (.aload_n 0, 1) := by decide +kernel
theorem dX1_addPeg_35 : decode cX1_addPeg 35 = .ok (.getfield 91, 3) := by decide +kernel
theorem dX1_addPeg_38 : decode cX1_addPeg 38 = .ok (.iconst 0, 1) := by decide +kernel
theorem dX1_addPeg_39 : decode cX1_addPeg 39 = .ok (.bastore, 1) := by decide +kernel
theorem dX1_addPeg_40 : decode cX1_addPeg 40 = .ok (.aload_n 0, 1) := by decide +kernel
theorem dX1_addPeg_41 : decode cX1_addPeg 41 = .ok (.dup, 1) := by decide +kernel
theorem dX1_addPeg_42 : decode cX1_addPeg 42 = .ok (.getfield 91, 3) := by decide +kernel
theorem dX1_addPeg_45 : decode cX1_addPeg 45 = .ok (.iconst 1, 1) := by decide +kernel
theorem dX1_addPeg_46 : decode cX1_addPeg 46 = .ok (.iadd, 1) := by decide +kernel
theorem dX1_addPeg_47 : decode cX1_addPeg 47 = .ok (.putfield 91, 3) := by decide +kernel
theorem dX1_addPeg_50 : decode cX1_addPeg 50 = .ok (.aload_n 0, 1) := by decide +kernel
theorem dX1_addPeg_51 : decode cX1_addPeg 51 = .ok (.getfield 26, 3) := by decide +kernel
theorem dX1_addPeg_54 : decode cX1_addPeg 54 = .ok (.aload_n 0, 1) := by decide +kernel
theorem dX1_addPeg_55 : decode cX1_addPeg 55 = .ok (.getfield 91, 3) := by decide +kernel
theorem dX1_addPeg_58 : decode cX1_addPeg 58 = .ok (.iconst 0, 1) := by decide +kernel
theorem dX1_addPeg_59 : decode cX1_addPeg 59 = .ok (.bastore, 1) := by decide +kernel
theorem dX1_addPeg_60 : decode cX1_addPeg 60 = .ok (.aload_n 0, 1) := by decide +kernel
theorem dX1_addPeg_61 : decode cX1_addPeg 61 = .ok (.getfield 91, 3) := by decide +kernel
theorem dX1_addPeg_64 : decode cX1_addPeg 64 = .ok (.iconst 1, 1) := by decide +kernel
theorem dX1_addPeg_65 : decode cX1_addPeg 65 = .ok (.isub, 1) := by decide +kernel
theorem dX1_addPeg_66 : decode cX1_addPeg 66 = .ok (.ireturn, 1) := by decide +kernel
set_option maxRecDepth 20000 in
theorem ggX1_addFromBuffer_X1_parse : GoodIn wsX1_addFromBuffer wsX1_parse := goodIn_r _ [12, 5, 13, 14, 1, 6, 7, 15, 16, 17, 11, 18, 19, 20, 21, 22, 23, 24, 25, 26, 27, 28, 29, 30, 31, 32, 33, 34, 35, 36, 37, 38, 48, 49, 50, 51, 52, 53, 54, 55, 56, 57, 58, 59, 60, 61, 62, 63, 64] (by decide +kernel) (by decide +kernel)
set_option maxRecDepth 20000 in
theorem gX1_addFromBuffer_X1_parse : GoodIn wsX1_addFromBuffer (wsV RX1 88 RX1 yX1_parse wsX1_parse) := goodIn_app (goodIn_of _ (by decide +kernel)) ggX1_addFromBuffer_X1_parse
set_option maxRecDepth 20000 in
theorem ggX1_addFromBuffer_X1_addPeg : GoodIn wsX1_addFromBuffer wsX1_addPeg := goodIn_r _ [42, 43, 3, 44, 45, 46, 47, 48, 49, 50, 51, 52, 53, 54, 55, 56, 57, 58, 59, 60, 61, 62, 63, 64] (by decide +kernel) (by decide +kernel)
set_option maxRecDepth 20000 in
theorem gX1_addFromBuffer_X1_addPeg : GoodIn wsX1_addFromBuffer (wsV RX1 96 RX1 yX1_addPeg wsX1_addPeg) := goodIn_app (goodIn_of _ (by decide +kernel)) ggX1_addFromBuffer_X1_addPeg
theorem dX1_addFromBuffer_0 : decode cX1_addFromBuffer 0 = .ok (.aload_n 0, 1) := by decide +kernel
theorem dX1_addFromBuffer_1 : decode cX1_addFromBuffer 1 = .ok (.invokevirtual 88, 3) := by decide +kernel
theorem dX1_addFromBuffer_4 : decode cX1_addFromBuffer 4 = .ok (.aload_n 0, 1) := by decide +kernel
theorem dX1_addFromBuffer_5 : decode cX1_addFromBuffer 5 = .ok (.getfield 75, 3) := by decide +kernel
theorem dX1_addFromBuffer_8 : decode cX1_addFromBuffer 8 = .ok (.ifCond .ne 7, 3) := by decide +kernel
theorem dX1_addFromBuffer_11 : decode cX1_addFromBuffer 11 = .ok (.ldc2_w 94, 3) := by decide +kernel
theorem dX1_addFromBuffer_14 : decode cX1_addFromBuffer 14 = .ok (.lreturn, 1) := by decide +kernel
theorem dX1_addFromBuffer_15 : decode cX1_addFromBuffer 15 = .ok (.aload_n 0, 1) := by decide +kernel
theorem dX1_addFromBuffer_16 : decode cX1_addFromBuffer 16 = .ok (.getfield 91, 3) := by decide +kernel
theorem dX1_addFromBuffer_19 : decode cX1_addFromBuffer 19 = .ok (.bipush 48, 2) := by decide +kernel
theorem dX1_addFromBuffer_21 : decode cX1_addFromBuffer 21 = .ok (.if_icmp .ne 7, 3) := by decide +kernel
theorem dX1_addFromBuffer_24 : decode cX1_addFromBuffer 24 = .ok (.ldc2_w 57, 3) := by decide +kernel
theorem dX1_addFromBuffer_27 : decode cX1_addFromBuffer 27 = .ok (.lreturn, 1) := by decide +kernel
theorem dX1_addFromBuffer_28 : decode cX1_addFromBuffer 28 = .ok (.aload_n 0, 1) := by decide +kernel
theorem dX1_addFromBuffer_29 : decode cX1_addFromBuffer 29 = .ok (.iconst 0, 1) := by decide +kernel
theorem dX1_addFromBuffer_30 : decode cX1_addFromBuffer 30 = .ok (.putfield 53, 3) := by decide +kernel
theorem dX1_addFromBuffer_33 : decode cX1_addFromBuffer 33 = .ok (.aload_n 0, 1) := by decide +kernel
theorem dX1_addFromBuffer_34 : decode cX1_addFromBuffer 34 = .ok (.aload_n 0, 1) := by decide +kernel
theorem dX1_addFromBuffer_35 : decode cX1_addFromBuffer 35 = .ok (.getfield 82, 3) := by decide +kernel
theorem dX1_addFromBuffer_38 : decode cX1_addFromBuffer 38 = .ok (.aload_n 0, 1) := by decide +kernel
theorem dX1_addFromBuffer_39 : decode cX1_addFromBuffer 39 = .ok (.getfield 85, 3) := by decide +kernel
theorem dX1_addFromBuffer_42 : decode cX1_addFromBuffer 42 = .ok (.invokevirtual 96, 3) := by decide +kernel
theorem dX1_addFromBuffer_45 : decode cX1_addFromBuffer 45 = .ok (.i2l, 1) := by decide +kernel
theorem dX1_addFromBuffer_46 : decode cX1_addFromBuffer 46 = .ok (.lreturn, 1) := by decide +kernel
set_option maxRecDepth 20000 in
theorem ggX1_isPoint_X1_within : GoodIn wsX1_isPoint wsX1_within := goodIn_r _ [4] (by decide +kernel) (by decide +kernel)
set_option maxRecDepth 20000 in
theorem gX1_isPoint_X1_within : GoodIn wsX1_isPoint (va_wsS RX1 47 yX1_within wsX1_within) := goodIn_app (goodIn_of _ (by decide +kernel)) ggX1_isPoint_X1_within
theorem dX1_isPoint_0 : decode cX1_isPoint 0 = .ok (.iload_n 0, 1) := by decide +kernel
theorem dX1_isPoint_1 : decode cX1_isPoint 1 = .ok (.iconst 0, 1) := by decide +kernel
theorem dX1_isPoint_2 : decode cX1_isPoint 2 = .ok (.bipush 31, 2) := by decide +kernel
theorem dX1_isPoint_4 : decode cX1_isPoint 4 = .ok (.invokestatic 47, 3) := by decide +kernel
theorem dX1_isPoint_7 : decode cX1_isPoint 7 = .ok (.ireturn, 1) := by decide +kernel
set_option maxRecDepth 20000 in
theorem ggX1_add_X1_isPoint : GoodIn wsX1_add wsX1_isPoint := goodIn_r _ [7, 8, 9, 6, 10] (by decide +kernel) (by decide +kernel)
set_option maxRecDepth 20000 in
theorem gX1_add_X1_isPoint : GoodIn wsX1_add (va_wsS RX1 100 yX1_isPoint wsX1_isPoint) := goodIn_app (goodIn_of _ (by decide +kernel)) ggX1_add_X1_isPoint
set_option maxRecDepth 20000 in
theorem ggX1_add_X1_within : GoodIn wsX1_add wsX1_within := goodIn_r _ [10] (by decide +kernel) (by decide +kernel)
set_option maxRecDepth 20000 in
theorem gX1_add_X1_within : GoodIn wsX1_add (va_wsS RX1 47 yX1_within wsX1_within) := goodIn_app (goodIn_of _ (by decide +kernel)) ggX1_add_X1_within
set_option maxRecDepth 20000 in
theorem ggX1_add_X1_addPeg : GoodIn wsX1_add wsX1_addPeg := goodIn_r _ [14, 15, 2, 16, 17, 18, 19, 20, 21, 22, 23, 24, 25, 26, 27, 28, 29, 30, 31, 32, 33, 34, 35, 36] (by decide +kernel) (by decide +kernel)
set_option maxRecDepth 20000 in
theorem gX1_add_X1_addPeg : GoodIn wsX1_add (wsV RX1 96 RX1 yX1_addPeg wsX1_addPeg) := goodIn_app (goodIn_of _ (by decide +kernel)) ggX1_add_X1_addPeg
theorem dX1_add_0 : decode cX1_add 0 = .ok (.iload_n 1, 1) := by decide +kernel
theorem dX1_add_1 : decode cX1_add 1 = .ok (.invokestatic 100, 3) := by decide +kernel
theorem dX1_add_4 : decode cX1_add 4 = .ok (.ifCond .eq 14, 3) := by decide +kernel
theorem dX1_add_7 : decode cX1_add 7 = .ok (.iload_n 2, 1) := by decide +kernel
theorem dX1_add_8 : decode cX1_add 8 = .ok (.iconst 0, 1) := by decide +kernel
theorem dX1_add_9 : decode cX1_add 9 = .ok (.sipush 200, 3) := by decide +kernel
theorem dX1_add_12 : decode cX1_add 12 = .ok (.invokestatic 47, 3) := by decide +kernel
theorem dX1_add_15 : decode cX1_add 15 = .ok (.ifCond .ne 7, 3) := by decide +kernel
theorem dX1_add_18 : decode cX1_add 18 = .ok (.ldc2_w 51, 3) := by decide +kernel
theorem dX1_add_21 : decode cX1_add 21 = .ok (.lreturn, 1) := by decide +kernel
theorem dX1_add_22 : decode cX1_add 22 = .ok (.aload_n 0, 1) := by decide +kernel
theorem dX1_add_23 : decode cX1_add 23 = .ok (.getfield 91, 3) := by decide +kernel
theorem dX1_add_26 : decode cX1_add 26 = .ok (.bipush 48, 2) := by decide +kernel
theorem dX1_add_28 : decode cX1_add 28 = .ok (.if_icmp .ne 9, 3) := by decide +kernel
theorem dX1_add_31 : decode cX1_add 31 = .ok (.ldc2_w 57, 3) := by decide +kernel
theorem dX1_add_34 : decode cX1_add 34 = .ok (.goto 10, 3) := by decide +kernel
theorem dX1_add_37 : decode cX1_add 37 = .ok (.aload_n 0, 1) := by decide +kernel
theorem dX1_add_38 : decode cX1_add 38 = .ok (.iload_n 1, 1) := by decide +kernel
theorem dX1_add_39 : decode cX1_add 39 = .ok (.iload_n 2, 1) := by decide +kernel
theorem dX1_add_40 : decode cX1_add 40 = .ok (.invokevirtual 96, 3) := by decide +kernel
theorem dX1_add_43 : decode cX1_add 43 = .ok (.i2l, 1) := by decide +kernel
theorem dX1_add_44 : decode cX1_add 44 = .ok (.lreturn, 1) := by decide +kernel
set_option maxRecDepth 20000 in
theorem ggX1_isPegNumber_X1_within : GoodIn wsX1_isPegNumber wsX1_within := goodIn_r _ [5] (by decide +kernel) (by decide +kernel)
set_option maxRecDepth 20000 in
theorem gX1_isPegNumber_X1_within : GoodIn wsX1_isPegNumber (va_wsS RX1 47 yX1_within wsX1_within) := goodIn_app (goodIn_of _ (by decide +kernel)) ggX1_isPegNumber_X1_within
theorem dX1_isPegNumber_0 : decode cX1_isPegNumber 0 = .ok (.iload_n 1, 1) := by decide +kernel
theorem dX1_isPegNumber_1 : decode cX1_isPegNumber 1 = .ok (.iconst 0, 1) := by decide +kernel
theorem dX1_isPegNumber_2 : decode cX1_isPegNumber 2 = .ok (.aload_n 0, 1) := by decide +kernel
theorem dX1_isPegNumber_3 : decode cX1_isPegNumber 3 = .ok (.getfield 91, 3) := by decide +kernel
theorem dX1_isPegNumber_6 : decode cX1_isPegNumber 6 = .ok (.iconst 1, 1) := by decide +kernel
theorem dX1_isPegNumber_7 : decode cX1_isPegNumber 7 = .ok (.isub, 1) := by decide +kernel
theorem dX1_isPegNumber_8 : decode cX1_isPegNumber 8 = .ok (.invokestatic 47, 3) := by decide +kernel
theorem dX1_isPegNumber_11 : decode cX1_isPegNumber 11 = .ok (.ireturn, 1) := by decide +kernel
set_option maxRecDepth 20000 in
theorem ggX1_replace_X1_isPegNumber : GoodIn wsX1_replace wsX1_isPegNumber := goodIn_r _ [10, 11, 12, 13, 9, 14, 18, 19, 20, 21, 22, 23, 24, 25, 26, 27, 28, 29, 30, 31, 32, 33, 34] (by decide +kernel) (by decide +kernel)
set_option maxRecDepth 20000 in
theorem gX1_replace_X1_isPegNumber : GoodIn wsX1_replace (wsV RX1 103 RX1 yX1_isPegNumber wsX1_isPegNumber) := goodIn_app (goodIn_of _ (by decide +kernel)) ggX1_replace_X1_isPegNumber
set_option maxRecDepth 20000 in
theorem ggX1_replace_X1_isPoint : GoodIn wsX1_replace wsX1_isPoint := goodIn_r _ [17, 12, 13, 9, 14] (by decide +kernel) (by decide +kernel)
set_option maxRecDepth 20000 in
theorem gX1_replace_X1_isPoint : GoodIn wsX1_replace (va_wsS RX1 100 yX1_isPoint wsX1_isPoint) := goodIn_app (goodIn_of _ (by decide +kernel)) ggX1_replace_X1_isPoint
set_option maxRecDepth 20000 in
theorem ggX1_replace_X1_within : GoodIn wsX1_replace wsX1_within := goodIn_r _ [14] (by decide +kernel) (by decide +kernel)
set_option maxRecDepth 20000 in
theorem gX1_replace_X1_within : GoodIn wsX1_replace (va_wsS RX1 47 yX1_within wsX1_within) := goodIn_app (goodIn_of _ (by decide +kernel)) ggX1_replace_X1_within
theorem dX1_replace_0 : decode cX1_replace 0 = .ok (.aload_n 0, 1) := by decide +kernel
theorem dX1_replace_1 : decode cX1_replace 1 = .ok (.iload_n 1, 1) := by decide +kernel
theorem dX1_replace_2 : decode cX1_replace 2 = .ok (.invokevirtual 103, 3) := by decide +kernel
theorem dX1_replace_5 : decode cX1_replace 5 = .ok (.ifCond .ne 7, 3) := by decide +kernel
theorem dX1_replace_8 : decode cX1_replace 8 = .ok (.ldc2_w 106, 3) := by decide +kernel
theorem dX1_replace_11 : decode cX1_replace 11 = .ok (.lreturn, 1) := by decide +kernel
theorem dX1_replace_12 : decode cX1_replace 12 = .ok (.iload_n 2, 1) := by decide +kernel
theorem dX1_replace_13 : decode cX1_replace 13 = .ok (.invokestatic 100, 3) := by decide +kernel
theorem dX1_replace_16 : decode cX1_replace 16 = .ok (.ifCond .eq 14, 3) := by decide +kernel
theorem dX1_replace_19 : decode cX1_replace 19 = .ok (.iload_n 3, 1) := by decide +kernel
theorem dX1_replace_20 : decode cX1_replace 20 = .ok (.iconst 0, 1) := by decide +kernel
theorem dX1_replace_21 : decode cX1_replace 21 = .ok (.sipush 200, 3) := by decide +kernel
theorem dX1_replace_24 : decode cX1_replace 24 = .ok (.invokestatic 47, 3) := by decide +kernel
theorem dX1_replace_27 : decode cX1_replace 27 = .ok (.ifCond .ne 7, 3) := by decide +kernel
theorem dX1_replace_30 : decode cX1_replace 30 = .ok (.ldc2_w 51, 3) := by decide +kernel
theorem dX1_replace_33 : decode cX1_replace 33 = .ok (.lreturn, 1) := by decide +kernel
theorem dX1_replace_34 : decode cX1_replace 34 = .ok (.aload_n 0, 1) := by decide +kernel
theorem dX1_replace_35 : decode cX1_replace 35 = .ok (.getfield 22, 3) := by decide +kernel
theorem dX1_replace_38 : decode cX1_replace 38 = .ok (.iload_n 1, 1) := by decide +kernel
theorem dX1_replace_39 : decode cX1_replace 39 = .ok (.baload, 1) := by decide +kernel
theorem dX1_replace_40 : decode cX1_replace 40 = .ok (.ifCond .eq 7, 3) := by decide +kernel
theorem dX1_replace_43 : decode cX1_replace 43 = .ok (.lconst 1, 1) := by decide +kernel
theorem dX1_replace_44 : decode cX1_replace 44 = .ok (.goto 4, 3) := by decide +kernel
theorem dX1_replace_47 : decode cX1_replace 47 = .ok (.lconst 0, 1) := by decide +kernel
theorem dX1_replace_48 : decode cX1_replace 48 = .ok (.lstore 4, 2) := by decide +kernel
theorem dX1_replace_50 : decode cX1_replace 50 = .ok (.aload_n 0, 1) := by decide +kernel
theorem dX1_replace_51 : decode cX1_replace 51 = .ok (.getfield 22, 3) := by decide +kernel
theorem dX1_replace_54 : decode cX1_replace 54 = .ok (.iload_n 1, 1) := by decide +kernel
theorem dX1_replace_55 : decode cX1_replace 55 = .ok (.iconst 0, 1) := by decide +kernel
theorem dX1_replace_56 : decode cX1_replace 56 = .ok (.bastore, 1) := by decide +kernel
theorem dX1_replace_57 : decode cX1_replace 57 = .ok (.aload_n 0, 1) := by decide +kernel
theorem dX1_replace_58 : decode cX1_replace 58 = .ok (.getfield 13, 3) := by decide +kernel
theorem dX1_replace_61 : decode cX1_replace 61 = .ok (.iload_n 1, 1) := by decide +kernel
theorem dX1_replace_62 : decode cX1_replace 62 = .ok (.iload_n 2, 1) := by decide +kernel
theorem dX1_replace_63 : decode cX1_replace 63 = .ok (.iastore, 1) := by decide +kernel
theorem dX1_replace_64 : decode cX1_replace 64 = .ok (.aload_n 0, 1) := by decide +kernel
theorem dX1_replace_65 : decode cX1_replace 65 = .ok (.getfield 16, 3) := by decide +kernel
theorem dX1_replace_68 : decode cX1_replace 68 = .ok (.iload_n 1, 1) := by decide +kernel
theorem dX1_replace_69 : decode cX1_replace 69 = .ok (.iload_n 3, 1) := by decide +kernel
theorem dX1_replace_70 : decode cX1_replace 70 = .ok (.iastore, 1) := by decide +kernel
theorem dX1_replace_71 : decode cX1_replace 71 = .ok (.lload 4, 2) := by decide +kernel
theorem dX1_replace_73 : decode cX1_replace 73 = .ok (.lreturn, 1) := by decide +kernel
theorem dX1_removeLast_0 : decode cX1_removeLast 0 = .ok (.aload_n 0, 1) := by decide +kernel
theorem dX1_removeLast_1 : decode cX1_removeLast 1 = .ok (.getfield 91, 3) := by decide +kernel
theorem dX1_removeLast_4 : decode cX1_removeLast 4 = .ok (.ifCond .ne 7, 3) := by decide +kernel
theorem dX1_removeLast_7 : decode cX1_removeLast 7 = .ok (.ldc2_w 108, 3) := by decide +kernel
theorem dX1_removeLast_10 : decode cX1_removeLast 10 = .ok (.lreturn, 1) := by decide +kernel
theorem dX1_removeLast_11 : decode cX1_removeLast 11 = .ok (.aload_n 0, 1) := by decide +kernel
theorem dX1_removeLast_12 : decode cX1_removeLast 12 = .ok (.getfield 26, 3) := by decide +kernel
theorem dX1_removeLast_15 : decode cX1_removeLast 15 = .ok (.aload_n 0, 1) := by decide +kernel
theorem dX1_removeLast_16 : decode cX1_removeLast 16 = .ok (.getfield 91, 3) := by decide +kernel
theorem dX1_removeLast_19 : decode cX1_removeLast 19 = .ok (.iconst 0, 1) := by decide +kernel
theorem dX1_removeLast_20 : decode cX1_removeLast 20 = .ok (.bastore, 1) := by decide +kernel
theorem dX1_removeLast_21 : decode cX1_removeLast 21 = .ok (.aload_n 0, 1) := by decide +kernel
theorem dX1_removeLast_22 : decode cX1_removeLast 22 = .ok (.dup, 1) := by decide +kernel
theorem dX1_removeLast_23 : decode cX1_removeLast 23 = .ok (.getfield 91, 3) := by decide +kernel
theorem dX1_removeLast_26 : decode cX1_removeLast 26 = .ok (.iconst 1, 1) := by decide +kernel
theorem dX1_removeLast_27 : decode cX1_removeLast 27 = .ok (.isub, 1) := by decide +kernel
theorem dX1_removeLast_28 : decode cX1_removeLast 28 = .ok (.putfield 91, 3) := by decide +kernel
theorem dX1_removeLast_31 : decode cX1_removeLast 31 = .ok (.aload_n 0, 1) := by decide +kernel
theorem dX1_removeLast_32 : decode cX1_removeLast 32 = .ok (.getfield 91, 3) := by decide +kernel
theorem dX1_removeLast_35 : decode cX1_removeLast 35 = .ok (.i2l, 1) := by decide +kernel
theorem dX1_removeLast_36 : decode cX1_removeLast 36 = .ok (.lreturn, 1) := by decide +kernel
theorem dX1_lostMany_0 : decode cX1_lostMany 0 = .ok (.iconst 0, 1) := by decide +kernel
theorem dX1_lostMany_1 : decode cX1_lostMany 1 = .ok (.istore_n 1, 1) := by decide +kernel
theorem dX1_lostMany_2 : decode cX1_lostMany 2 = .ok (.iconst 0, 1) := by decide +kernel
theorem dX1_lostMany_3 : decode cX1_lostMany 3 = .ok (.istore_n 2, 1) := by decide +kernel
theorem dX1_lostMany_4 : decode cX1_lostMany 4 = .ok (.iload_n 2, 1) := by decide +kernel
theorem dX1_lostMany_5 : decode cX1_lostMany 5 = .ok (.aload_n 0, 1) := by decide +kernel
theorem dX1_lostMany_6 : decode cX1_lostMany 6 = .ok (.getfield 91, 3) := by decide +kernel
theorem dX1_lostMany_9 : decode cX1_lostMany 9 = .ok (.if_icmp .ge 26, 3) := by decide +kernel
theorem dX1_lostMany_12 : decode cX1_lostMany 12 = .ok (.iload_n 1, 1) := by decide +kernel
theorem dX1_lostMany_13 : decode cX1_lostMany 13 = .ok (.aload_n 0, 1) := by decide +kernel
theorem dX1_lostMany_14 : decode cX1_lostMany 14 = .ok (.getfield 22, 3) := by decide +kernel
theorem dX1_lostMany_17 : decode cX1_lostMany 17 = .ok (.iload_n 2, 1) := by decide +kernel
theorem dX1_lostMany_18 : decode cX1_lostMany 18 = .ok (.baload, 1) := by decide +kernel
theorem dX1_lostMany_19 : decode cX1_lostMany 19 = .ok (.ifCond .eq 7, 3) := by decide +kernel
theorem dX1_lostMany_22 : decode cX1_lostMany 22 = .ok (.iconst 1, 1) := by decide +kernel
theorem dX1_lostMany_23 : decode cX1_lostMany 23 = .ok (.goto 4, 3) := by decide +kernel
theorem dX1_lostMany_26 : decode cX1_lostMany 26 = .ok (.iconst 0, 1) := by decide +kernel
theorem dX1_lostMany_27 : decode cX1_lostMany 27 = .ok (.iadd, 1) := by decide +kernel
theorem dX1_lostMany_28 : decode cX1_lostMany 28 = .ok (.istore_n 1, 1) := by decide +kernel
theorem dX1_lostMany_29 : decode cX1_lostMany 29 = .ok (.iinc 2 1, 3) := by decide +kernel
theorem dX1_lostMany_32 : decode cX1_lostMany 32 = .ok (.goto (-28), 3) := by decide +kernel
theorem dX1_lostMany_35 : decode cX1_lostMany 35 = .ok (.iload_n 1, 1) := by decide +kernel
theorem dX1_lostMany_36 : decode cX1_lostMany 36 = .ok (.ireturn, 1) := by decide +kernel
set_option maxRecDepth 20000 in
theorem ggX1_lose_X1_isPegNumber : GoodIn wsX1_lose wsX1_isPegNumber := goodIn_r _ [8, 9, 10, 11, 7, 12, 17, 18, 19, 20, 21, 22, 23, 24, 25, 26, 27, 28, 29, 30, 31, 32, 33] (by decide +kernel) (by decide +kernel)
set_option maxRecDepth 20000 in
theorem gX1_lose_X1_isPegNumber : GoodIn wsX1_lose (wsV RX1 103 RX1 yX1_isPegNumber wsX1_isPegNumber) := goodIn_app (goodIn_of _ (by decide +kernel)) ggX1_lose_X1_isPegNumber
set_option maxRecDepth 20000 in
theorem ggX1_lose_X1_lostMany : GoodIn wsX1_lose wsX1_lostMany := goodIn_r _ [16, 9, 2, 17, 18, 19, 20, 21, 22, 23, 24, 25, 26, 27, 28, 29, 30, 31, 32, 33] (by decide +kernel) (by decide +kernel)
set_option maxRecDepth 20000 in
theorem gX1_lose_X1_lostMany : GoodIn wsX1_lose (wsV RX1 112 RX1 yX1_lostMany wsX1_lostMany) := goodIn_app (goodIn_of _ (by decide +kernel)) ggX1_lose_X1_lostMany
theorem dX1_lose_0 : decode cX1_lose 0 = .ok (.aload_n 0, 1) := by decide +kernel
theorem dX1_lose_1 : decode cX1_lose 1 = .ok (.iload_n 1, 1) := by decide +kernel
theorem dX1_lose_2 : decode cX1_lose 2 = .ok (.invokevirtual 103, 3) := by decide +kernel
theorem dX1_lose_5 : decode cX1_lose 5 = .ok (.ifCond .ne 7, 3) := by decide +kernel
theorem dX1_lose_8 : decode cX1_lose 8 = .ok (.ldc2_w 106, 3) := by decide +kernel
theorem dX1_lose_11 : decode cX1_lose 11 = .ok (.lreturn, 1) := by decide +kernel
theorem dX1_lose_12 : decode cX1_lose 12 = .ok (.aload_n 0, 1) := by decide +kernel
theorem dX1_lose_13 : decode cX1_lose 13 = .ok (.getfield 22, 3) := by decide +kernel
theorem dX1_lose_16 : decode cX1_lose 16 = .ok (.iload_n 1, 1) := by decide +kernel
theorem dX1_lose_17 : decode cX1_lose 17 = .ok (.baload, 1) := by decide +kernel
theorem dX1_lose_18 : decode cX1_lose 18 = .ok (.ifCond .eq 7, 3) := by decide +kernel
theorem dX1_lose_21 : decode cX1_lose 21 = .ok (.ldc2_w 110, 3) := by decide +kernel
theorem dX1_lose_24 : decode cX1_lose 24 = .ok (.lreturn, 1) := by decide +kernel
theorem dX1_lose_25 : decode cX1_lose 25 = .ok (.aload_n 0, 1) := by decide +kernel
theorem dX1_lose_26 : decode cX1_lose 26 = .ok (.getfield 22, 3) := by decide +kernel
theorem dX1_lose_29 : decode cX1_lose 29 = .ok (.iload_n 1, 1) := by decide +kernel
theorem dX1_lose_30 : decode cX1_lose 30 = .ok (.iconst 1, 1) := by decide +kernel
theorem dX1_lose_31 : decode cX1_lose 31 = .ok (.bastore, 1) := by decide +kernel
theorem dX1_lose_32 : decode cX1_lose 32 = .ok (.aload_n 0, 1) := by decide +kernel
theorem dX1_lose_33 : decode cX1_lose 33 = .ok (.invokevirtual 112, 3) := by decide +kernel
theorem dX1_lose_36 : decode cX1_lose 36 = .ok (.i2l, 1) := by decide +kernel
theorem dX1_lose_37 : decode cX1_lose 37 = .ok (.lreturn, 1) := by decide +kernel
set_option maxRecDepth 20000 in
theorem ggX1_setLeeway_X1_isPegNumber : GoodIn wsX1_setLeeway wsX1_isPegNumber := goodIn_r _ [8, 9, 10, 11, 7, 12, 13, 14, 15, 16, 17, 18, 19, 20, 21, 22, 23, 24, 25, 26, 27, 28, 29] (by decide +kernel) (by decide +kernel)
set_option maxRecDepth 20000 in
theorem gX1_setLeeway_X1_isPegNumber : GoodIn wsX1_setLeeway (wsV RX1 103 RX1 yX1_isPegNumber wsX1_isPegNumber) := goodIn_app (goodIn_of _ (by decide +kernel)) ggX1_setLeeway_X1_isPegNumber
set_option maxRecDepth 20000 in
theorem ggX1_setLeeway_X1_within : GoodIn wsX1_setLeeway wsX1_within := goodIn_r _ [12] (by decide +kernel) (by decide +kernel)
set_option maxRecDepth 20000 in
theorem gX1_setLeeway_X1_within : GoodIn wsX1_setLeeway (va_wsS RX1 47 yX1_within wsX1_within) := goodIn_app (goodIn_of _ (by decide +kernel)) ggX1_setLeeway_X1_within
theorem dX1_setLeeway_0 : decode cX1_setLeeway 0 = .ok (.aload_n 0, 1) := by decide +kernel
theorem dX1_setLeeway_1 : decode cX1_setLeeway 1 = .ok (.iload_n 1, 1) := by decide +kernel
theorem dX1_setLeeway_2 : decode cX1_setLeeway 2 = .ok (.invokevirtual 103, 3) := by decide +kernel
theorem dX1_setLeeway_5 : decode cX1_setLeeway 5 = .ok (.ifCond .ne 7, 3) := by decide +kernel
theorem dX1_setLeeway_8 : decode cX1_setLeeway 8 = .ok (.ldc2_w 106, 3) := by decide +kernel
theorem dX1_setLeeway_11 : decode cX1_setLeeway 11 = .ok (.lreturn, 1) := by decide +kernel
theorem dX1_setLeeway_12 : decode cX1_setLeeway 12 = .ok (.iload_n 2, 1) := by decide +kernel
theorem dX1_setLeeway_13 : decode cX1_setLeeway 13 = .ok (.bipush (-2), 2) := by decide +kernel
theorem dX1_setLeeway_15 : decode cX1_setLeeway 15 = .ok (.iconst 2, 1) := by decide +kernel
theorem dX1_setLeeway_16 : decode cX1_setLeeway 16 = .ok (.invokestatic 47, 3) := by decide +kernel
theorem dX1_setLeeway_19 : decode cX1_setLeeway 19 = .ok (.ifCond .ne 7, 3) := by decide +kernel
theorem dX1_setLeeway_22 : decode cX1_setLeeway 22 = .ok (.ldc2_w 51, 3) := by decide +kernel
theorem dX1_setLeeway_25 : decode cX1_setLeeway 25 = .ok (.lreturn, 1) := by decide +kernel
theorem dX1_setLeeway_26 : decode cX1_setLeeway 26 = .ok (.aload_n 0, 1) := by decide +kernel
theorem dX1_setLeeway_27 : decode cX1_setLeeway 27 = .ok (.getfield 19, 3) := by decide +kernel
theorem dX1_setLeeway_30 : decode cX1_setLeeway 30 = .ok (.iload_n 1, 1) := by decide +kernel
theorem dX1_setLeeway_31 : decode cX1_setLeeway 31 = .ok (.iaload, 1) := by decide +kernel
theorem dX1_setLeeway_32 : decode cX1_setLeeway 32 = .ok (.i2l, 1) := by decide +kernel
theorem dX1_setLeeway_33 : decode cX1_setLeeway 33 = .ok (.lstore_n 3, 1) := by decide +kernel
theorem dX1_setLeeway_34 : decode cX1_setLeeway 34 = .ok (.aload_n 0, 1) := by decide +kernel
theorem dX1_setLeeway_35 : decode cX1_setLeeway 35 = .ok (.getfield 19, 3) := by decide +kernel
theorem dX1_setLeeway_38 : decode cX1_setLeeway 38 = .ok (.iload_n 1, 1) := by decide +kernel
theorem dX1_setLeeway_39 : decode cX1_setLeeway 39 = .ok (.iload_n 2, 1) := by decide +kernel
theorem dX1_setLeeway_40 : decode cX1_setLeeway 40 = .ok (.iastore, 1) := by decide +kernel
theorem dX1_setLeeway_41 : decode cX1_setLeeway 41 = .ok (.lload_n 3, 1) := by decide +kernel
theorem dX1_setLeeway_42 : decode cX1_setLeeway 42 = .ok (.lreturn, 1) := by decide +kernel
set_option maxRecDepth 20000 in
theorem ggX1_setCurrent_X1_isPoint : GoodIn wsX1_setCurrent wsX1_isPoint := goodIn_r _ [7, 8, 9, 6, 10] (by decide +kernel) (by decide +kernel)
set_option maxRecDepth 20000 in
theorem gX1_setCurrent_X1_isPoint : GoodIn wsX1_setCurrent (va_wsS RX1 100 yX1_isPoint wsX1_isPoint) := goodIn_app (goodIn_of _ (by decide +kernel)) ggX1_setCurrent_X1_isPoint
set_option maxRecDepth 20000 in
theorem ggX1_setCurrent_X1_within : GoodIn wsX1_setCurrent wsX1_within := goodIn_r _ [10] (by decide +kernel) (by decide +kernel)
set_option maxRecDepth 20000 in
theorem gX1_setCurrent_X1_within : GoodIn wsX1_setCurrent (va_wsS RX1 47 yX1_within wsX1_within) := goodIn_app (goodIn_of _ (by decide +kernel)) ggX1_setCurrent_X1_within
theorem dX1_setCurrent_0 : decode cX1_setCurrent 0 = .ok (.iload_n 1, 1) := by decide +kernel
theorem dX1_setCurrent_1 : decode cX1_setCurrent 1 = .ok (.invokestatic 100, 3) := by decide +kernel
theorem dX1_setCurrent_4 : decode cX1_setCurrent 4 = .ok (.ifCond .eq 13, 3) := by decide +kernel
theorem dX1_setCurrent_7 : decode cX1_setCurrent 7 = .ok (.iload_n 2, 1) := by decide +kernel
theorem dX1_setCurrent_8 : decode cX1_setCurrent 8 = .ok (.iconst 0, 1) := by decide +kernel
theorem dX1_setCurrent_9 : decode cX1_setCurrent 9 = .ok (.bipush 50, 2) := by decide +kernel
theorem dX1_setCurrent_11 : decode cX1_setCurrent 11 = .ok (.invokestatic 47, 3) := by decide +kernel
theorem dX1_setCurrent_14 : decode cX1_setCurrent 14 = .ok (.ifCond .ne 7, 3) := by decide +kernel
theorem dX1_setCurrent_17 : decode cX1_setCurrent 17 = .ok (.ldc2_w 51, 3) := by decide +kernel
theorem dX1_setCurrent_20 : decode cX1_setCurrent 20 = .ok (.lreturn, 1) := by decide +kernel
theorem dX1_setCurrent_21 : decode cX1_setCurrent 21 = .ok (.aload_n 0, 1) := by decide +kernel
theorem dX1_setCurrent_22 : decode cX1_setCurrent 22 = .ok (.getfield 116, 3) := by decide +kernel
theorem dX1_setCurrent_25 : decode cX1_setCurrent 25 = .ok (.i2l, 1) := by decide +kernel
theorem dX1_setCurrent_26 : decode cX1_setCurrent 26 = .ok (.lstore_n 3, 1) := by decide +kernel
theorem dX1_setCurrent_27 : decode cX1_setCurrent 27 = .ok (.aload_n 0, 1) := by decide +kernel
theorem dX1_setCurrent_28 : decode cX1_setCurrent 28 = .ok (.iload_n 1, 1) := by decide +kernel
theorem dX1_setCurrent_29 : decode cX1_setCurrent 29 = .ok (.putfield 119, 3) := by decide +kernel
theorem dX1_setCurrent_32 : decode cX1_setCurrent 32 = .ok (.aload_n 0, 1) := by decide +kernel
theorem dX1_setCurrent_33 : decode cX1_setCurrent 33 = .ok (.iload_n 2, 1) := by decide +kernel
theorem dX1_setCurrent_34 : decode cX1_setCurrent 34 = .ok (.putfield 116, 3) := by decide +kernel
theorem dX1_setCurrent_37 : decode cX1_setCurrent 37 = .ok (.lload_n 3, 1) := by decide +kernel
theorem dX1_setCurrent_38 : decode cX1_setCurrent 38 = .ok (.lreturn, 1) := by decide +kernel
theorem dX1_pegCount_0 : decode cX1_pegCount 0 = .ok (.aload_n 0, 1) := by decide +kernel
theorem dX1_pegCount_1 : decode cX1_pegCount 1 = .ok (.getfield 91, 3) := by decide +kernel
theorem dX1_pegCount_4 : decode cX1_pegCount 4 = .ok (.i2l, 1) := by decide +kernel
theorem dX1_pegCount_5 : decode cX1_pegCount 5 = .ok (.lreturn, 1) := by decide +kernel
theorem dX1_pointNow_0 : decode cX1_pointNow 0 = .ok (.aload_n 0, 1) := by decide +kernel
theorem dX1_pointNow_1 : decode cX1_pointNow 1 = .ok (.getfield 22, 3) := by decide +kernel
theorem dX1_pointNow_4 : decode cX1_pointNow 4 = .ok (.iload_n 1, 1) := by decide +kernel
theorem dX1_pointNow_5 : decode cX1_pointNow 5 = .ok (.baload, 1) := by decide +kernel
theorem dX1_pointNow_6 : decode cX1_pointNow 6 = .ok (.ifCond .eq 9, 3) := by decide +kernel
theorem dX1_pointNow_9 : decode cX1_pointNow 9 = .ok (.ldc2_w 110, 3) := by decide +kernel
theorem dX1_pointNow_12 : decode cX1_pointNow 12 = .ok (.goto 10, 3) := by decide +kernel
theorem dX1_pointNow_15 : decode cX1_pointNow 15 = .ok (.aload_n 0, 1) := by decide +kernel
theorem dX1_pointNow_16 : decode cX1_pointNow 16 = .ok (.getfield 13, 3) := by decide +kernel
theorem dX1_pointNow_19 : decode cX1_pointNow 19 = .ok (.iload_n 1, 1) := by decide +kernel
theorem dX1_pointNow_20 : decode cX1_pointNow 20 = .ok (.iaload, 1) := by decide +kernel
theorem dX1_pointNow_21 : decode cX1_pointNow 21 = .ok (.i2l, 1) := by decide +kernel
theorem dX1_pointNow_22 : decode cX1_pointNow 22 = .ok (.lreturn, 1) := by decide +kernel
theorem dX1_speedNow_0 : decode cX1_speedNow 0 = .ok (.aload_n 0, 1) := by decide +kernel
theorem dX1_speedNow_1 : decode cX1_speedNow 1 = .ok (.getfield 22, 3) := by decide +kernel
theorem dX1_speedNow_4 : decode cX1_speedNow 4 = .ok (.iload_n 1, 1) := by decide +kernel
theorem dX1_speedNow_5 : decode cX1_speedNow 5 = .ok (.baload, 1) := by decide +kernel
theorem dX1_speedNow_6 : decode cX1_speedNow 6 = .ok (.ifCond .eq 9, 3) := by decide +kernel
theorem dX1_speedNow_9 : decode cX1_speedNow 9 = .ok (.ldc2_w 110, 3) := by decide +kernel
theorem dX1_speedNow_12 : decode cX1_speedNow 12 = .ok (.goto 10, 3) := by decide +kernel
theorem dX1_speedNow_15 : decode cX1_speedNow 15 = .ok (.aload_n 0, 1) := by decide +kernel
theorem dX1_speedNow_16 : decode cX1_speedNow 16 = .ok (.getfield 16, 3) := by decide +kernel
theorem dX1_speedNow_19 : decode cX1_speedNow 19 = .ok (.iload_n 1, 1) := by decide +kernel
theorem dX1_speedNow_20 : decode cX1_speedNow 20 = .ok (.iaload, 1) := by decide +kernel
theorem dX1_speedNow_21 : decode cX1_speedNow 21 = .ok (.i2l, 1) := by decide +kernel
theorem dX1_speedNow_22 : decode cX1_speedNow 22 = .ok (.lreturn, 1) := by decide +kernel
set_option maxRecDepth 20000 in
theorem ggX1_pointOf_X1_isPegNumber : GoodIn wsX1_pointOf wsX1_isPegNumber := goodIn_r _ [6, 7, 8, 9, 5, 10, 18, 19, 20, 21, 22, 23, 24, 25, 26, 27, 28, 29, 30, 31, 32, 33, 34] (by decide +kernel) (by decide +kernel)
set_option maxRecDepth 20000 in
theorem gX1_pointOf_X1_isPegNumber : GoodIn wsX1_pointOf (wsV RX1 103 RX1 yX1_isPegNumber wsX1_isPegNumber) := goodIn_app (goodIn_of _ (by decide +kernel)) ggX1_pointOf_X1_isPegNumber
set_option maxRecDepth 20000 in
theorem ggX1_pointOf_X1_pointNow : GoodIn wsX1_pointOf wsX1_pointNow := goodIn_r _ [14, 15, 16, 17, 18, 19, 20, 21, 22, 23, 24, 25, 26, 27, 28, 29, 30, 31, 32, 33, 34] (by decide +kernel) (by decide +kernel)
set_option maxRecDepth 20000 in
theorem gX1_pointOf_X1_pointNow : GoodIn wsX1_pointOf (wsV RX1 122 RX1 yX1_pointNow wsX1_pointNow) := goodIn_app (goodIn_of _ (by decide +kernel)) ggX1_pointOf_X1_pointNow
theorem dX1_pointOf_0 : decode cX1_pointOf 0 = .ok (.aload_n 0, 1) := by decide +kernel
theorem dX1_pointOf_1 : decode cX1_pointOf 1 = .ok (.iload_n 1, 1) := by decide +kernel
theorem dX1_pointOf_2 : decode cX1_pointOf 2 = .ok (.invokevirtual 103, 3) := by decide +kernel
theorem dX1_pointOf_5 : decode cX1_pointOf 5 = .ok (.ifCond .eq 11, 3) := by decide +kernel
theorem dX1_pointOf_8 : decode cX1_pointOf 8 = .ok (.aload_n 0, 1) := by decide +kernel
theorem dX1_pointOf_9 : decode cX1_pointOf 9 = .ok (.iload_n 1, 1) := by decide +kernel
theorem dX1_pointOf_10 : decode cX1_pointOf 10 = .ok (.invokevirtual 122, 3) := by decide +kernel
theorem dX1_pointOf_13 : decode cX1_pointOf 13 = .ok (.goto 6, 3) := by decide +kernel
theorem dX1_pointOf_16 : decode cX1_pointOf 16 = .ok (.ldc2_w 106, 3) := by decide +kernel
theorem dX1_pointOf_19 : decode cX1_pointOf 19 = .ok (.lreturn, 1) := by decide +kernel
set_option maxRecDepth 20000 in
theorem ggX1_speedOf_X1_isPegNumber : GoodIn wsX1_speedOf wsX1_isPegNumber := goodIn_r _ [6, 7, 8, 9, 5, 10, 18, 19, 20, 21, 22, 23, 24, 25, 26, 27, 28, 29, 30, 31, 32, 33, 34] (by decide +kernel) (by decide +kernel)
set_option maxRecDepth 20000 in
theorem gX1_speedOf_X1_isPegNumber : GoodIn wsX1_speedOf (wsV RX1 103 RX1 yX1_isPegNumber wsX1_isPegNumber) := goodIn_app (goodIn_of _ (by decide +kernel)) ggX1_speedOf_X1_isPegNumber
set_option maxRecDepth 20000 in
theorem ggX1_speedOf_X1_speedNow : GoodIn wsX1_speedOf wsX1_speedNow := goodIn_r _ [14, 15, 16, 17, 18, 19, 20, 21, 22, 23, 24, 25, 26, 27, 28, 29, 30, 31, 32, 33, 34] (by decide +kernel) (by decide +kernel)
set_option maxRecDepth 20000 in
theorem gX1_speedOf_X1_speedNow : GoodIn wsX1_speedOf (wsV RX1 126 RX1 yX1_speedNow wsX1_speedNow) := goodIn_app (goodIn_of _ (by decide +kernel)) ggX1_speedOf_X1_speedNow
theorem dX1_speedOf_0 : decode cX1_speedOf 0 = .ok (.aload_n 0, 1) := by decide +kernel
theorem dX1_speedOf_1 : decode cX1_speedOf 1 = .ok (.iload_n 1, 1) := by decide +kernel
theorem dX1_speedOf_2 : decode cX1_speedOf 2 = .ok (.invokevirtual 103, 3) := by decide +kernel
theorem dX1_speedOf_5 : decode cX1_speedOf 5 = .ok (.ifCond .eq 11, 3) := by decide +kernel
theorem dX1_speedOf_8 : decode cX1_speedOf 8 = .ok (.aload_n 0, 1) := by decide +kernel
theorem dX1_speedOf_9 : decode cX1_speedOf 9 = .ok (.iload_n 1, 1) := by decide +kernel
theorem dX1_speedOf_10 : decode cX1_speedOf 10 = .ok (.invokevirtual 126, 3) := by decide +kernel
theorem dX1_speedOf_13 : decode cX1_speedOf 13 = .ok (.goto 6, 3) := by decide +kernel
theorem dX1_speedOf_16 : decode cX1_speedOf 16 = .ok (.ldc2_w 106, 3) := by decide +kernel
theorem dX1_speedOf_19 : decode cX1_speedOf 19 = .ok (.lreturn, 1) := by decide +kernel
set_option maxRecDepth 20000 in
theorem ggX1_speedTowards_X1_isPoint : GoodIn wsX1_speedTowards wsX1_isPoint := goodIn_r _ [9, 10, 11, 8, 12] (by decide +kernel) (by decide +kernel)
set_option maxRecDepth 20000 in
theorem gX1_speedTowards_X1_isPoint : GoodIn wsX1_speedTowards (va_wsS RX1 100 yX1_isPoint wsX1_isPoint) := goodIn_app (goodIn_of _ (by decide +kernel)) ggX1_speedTowards_X1_isPoint
theorem dX1_speedTowards_0 : decode cX1_speedTowards 0 = .ok (.iload_n 1, 1) := by decide +kernel
theorem dX1_speedTowards_1 : decode cX1_speedTowards 1 = .ok (.invokestatic 100, 3) := by decide +kernel
theorem dX1_speedTowards_4 : decode cX1_speedTowards 4 = .ok (.ifCond .ne 7, 3) := by decide +kernel
theorem dX1_speedTowards_7 : decode cX1_speedTowards 7 = .ok (.ldc2_w 51, 3) := by decide +kernel
theorem dX1_speedTowards_10 : decode cX1_speedTowards 10 = .ok (.lreturn, 1) := by decide +kernel
theorem dX1_speedTowards_11 : decode cX1_speedTowards 11 = .ok (.lconst 0, 1) := by decide +kernel
theorem dX1_speedTowards_12 : decode cX1_speedTowards 12 = .ok (.lstore_n 2, 1) := by decide +kernel
theorem dX1_speedTowards_13 : decode cX1_speedTowards 13 = .ok (.iconst 0, 1) := by decide +kernel
theorem dX1_speedTowards_14 : decode cX1_speedTowards 14 = .ok (.istore 4, 2) := by decide +kernel
theorem dX1_speedTowards_16 : decode cX1_speedTowards 16 = .ok (.iload 4, 2) := by decide +kernel
theorem dX1_speedTowards_18 : decode cX1_speedTowards 18 = .ok (.aload_n 0, 1) := by decide +kernel
theorem dX1_speedTowards_19 : decode cX1_speedTowards 19 = .ok (.getfield 91, 3) := by decide +kernel
theorem dX1_speedTowards_22 : decode cX1_speedTowards 22 = .ok (.if_icmp .ge 45, 3) := by decide +kernel
theorem dX1_speedTowards_25 : decode cX1_speedTowards 25 = .ok (.lload_n 2, 1) := by decide +kernel
theorem dX1_speedTowards_26 : decode cX1_speedTowards 26 = .ok (.aload_n 0, 1) := by decide +kernel
theorem dX1_speedTowards_27 : decode cX1_speedTowards 27 = .ok (.getfield 22, 3) := by decide +kernel
theorem dX1_speedTowards_30 : decode cX1_speedTowards 30 = .ok (.iload 4, 2) := by decide +kernel
theorem dX1_speedTowards_32 : decode cX1_speedTowards 32 = .ok (.baload, 1) := by decide +kernel
theorem dX1_speedTowards_33 : decode cX1_speedTowards 33 = .ok (.ifCond .ne 25, 3) := by decide +kernel
theorem dX1_speedTowards_36 : decode cX1_speedTowards 36 = .ok (.aload_n 0, 1) := by decide +kernel
theorem dX1_speedTowards_37 : decode cX1_speedTowards 37 = .ok (.getfield 13, 3) := by decide +kernel
theorem dX1_speedTowards_40 : decode cX1_speedTowards 40 = .ok (.iload 4, 2) := by decide +kernel
theorem dX1_speedTowards_42 : decode cX1_speedTowards 42 = .ok (.iaload, 1) := by decide +kernel
theorem dX1_speedTowards_43 : decode cX1_speedTowards 43 = .ok (.iload_n 1, 1) := by decide +kernel
theorem dX1_speedTowards_44 : decode cX1_speedTowards 44 = .ok (.if_icmp .ne 14, 3) := by decide +kernel
theorem dX1_speedTowards_47 : decode cX1_speedTowards 47 = .ok (.aload_n 0, 1) := by decide +kernel
theorem dX1_speedTowards_48 : decode cX1_speedTowards 48 = .ok (.getfield 16, 3) := by decide +kernel
theorem dX1_speedTowards_51 : decode cX1_speedTowards 51 = .ok (.iload 4, 2) := by decide +kernel
theorem dX1_speedTowards_53 : decode cX1_speedTowards 53 = .ok (.iaload, 1) := by decide +kernel
theorem dX1_speedTowards_54 : decode cX1_speedTowards 54 = .ok (.i2l, 1) := by decide +kernel
theorem dX1_speedTowards_55 : decode cX1_speedTowards 55 = .ok (.goto 4, 3) := by decide +kernel
theorem dX1_speedTowards_58 : decode cX1_speedTowards 58 = .ok (.lconst 0, 1) := by decide +kernel
theorem dX1_speedTowards_59 : decode cX1_speedTowards 59 = .ok (.ladd, 1) := by decide +kernel
theorem dX1_speedTowards_60 : decode cX1_speedTowards 60 = .ok (.lstore_n 2, 1) := by decide +kernel
theorem dX1_speedTowards_61 : decode cX1_speedTowards 61 = .ok (.iinc 4 1, 3) := by decide +kernel
theorem dX1_speedTowards_64 : decode cX1_speedTowards 64 = .ok (.goto (-48), 3) := by decide +kernel
theorem dX1_speedTowards_67 : decode cX1_speedTowards 67 = .ok (.lload_n 2, 1) := by decide +kernel
theorem dX1_speedTowards_68 : decode cX1_speedTowards 68 = .ok (.lreturn, 1) := by decide +kernel
theorem dX1_fixMany_0 : decode cX1_fixMany 0 = .ok (.iconst 0, 1) := by decide +kernel
theorem dX1_fixMany_1 : decode cX1_fixMany 1 = .ok (.istore_n 1, 1) := by decide +kernel
theorem dX1_fixMany_2 : decode cX1_fixMany 2 = .ok (.iconst 0, 1) := by decide +kernel
theorem dX1_fixMany_3 : decode cX1_fixMany 3 = .ok (.istore_n 2, 1) := by decide +kernel
theorem dX1_fixMany_4 : decode cX1_fixMany 4 = .ok (.iload_n 2, 1) := by decide +kernel
theorem dX1_fixMany_5 : decode cX1_fixMany 5 = .ok (.aload_n 0, 1) := by decide +kernel
theorem dX1_fixMany_6 : decode cX1_fixMany 6 = .ok (.getfield 91, 3) := by decide +kernel
theorem dX1_fixMany_9 : decode cX1_fixMany 9 = .ok (.if_icmp .gt 26, 3) := by decide +kernel
theorem dX1_fixMany_12 : decode cX1_fixMany 12 = .ok (.iload_n 1, 1) := by decide +kernel
theorem dX1_fixMany_13 : decode cX1_fixMany 13 = .ok (.aload_n 0, 1) := by decide +kernel
theorem dX1_fixMany_14 : decode cX1_fixMany 14 = .ok (.getfield 26, 3) := by decide +kernel
theorem dX1_fixMany_17 : decode cX1_fixMany 17 = .ok (.iload_n 2, 1) := by decide +kernel
theorem dX1_fixMany_18 : decode cX1_fixMany 18 = .ok (.baload, 1) := by decide +kernel
theorem dX1_fixMany_19 : decode cX1_fixMany 19 = .ok (.ifCond .eq 7, 3) := by decide +kernel
theorem dX1_fixMany_22 : decode cX1_fixMany 22 = .ok (.iconst 1, 1) := by decide +kernel
theorem dX1_fixMany_23 : decode cX1_fixMany 23 = .ok (.goto 4, 3) := by decide +kernel
theorem dX1_fixMany_26 : decode cX1_fixMany 26 = .ok (.iconst 0, 1) := by decide +kernel
theorem dX1_fixMany_27 : decode cX1_fixMany 27 = .ok (.iadd, 1) := by decide +kernel
theorem dX1_fixMany_28 : decode cX1_fixMany 28 = .ok (.istore_n 1, 1) := by decide +kernel
theorem dX1_fixMany_29 : decode cX1_fixMany 29 = .ok (.iinc 2 1, 3) := by decide +kernel
theorem dX1_fixMany_32 : decode cX1_fixMany 32 = .ok (.goto (-28), 3) := by decide +kernel
theorem dX1_fixMany_35 : decode cX1_fixMany 35 = .ok (.iload_n 1, 1) := by decide +kernel
theorem dX1_fixMany_36 : decode cX1_fixMany 36 = .ok (.ireturn, 1) := by decide +kernel
set_option maxRecDepth 20000 in
theorem ggX1_setFix_X1_within : GoodIn wsX1_setFix wsX1_within := goodIn_r _ [12] (by decide +kernel) (by decide +kernel)
set_option maxRecDepth 20000 in
theorem gX1_setFix_X1_within : GoodIn wsX1_setFix (va_wsS RX1 47 yX1_within wsX1_within) := goodIn_app (goodIn_of _ (by decide +kernel)) ggX1_setFix_X1_within
set_option maxRecDepth 20000 in
theorem ggX1_setFix_X1_fixMany : GoodIn wsX1_setFix wsX1_fixMany := goodIn_r _ [16, 1, 6, 17, 18, 19, 20, 21, 22, 23, 24, 25, 26, 27, 28, 29, 30, 31, 32, 33] (by decide +kernel) (by decide +kernel)
set_option maxRecDepth 20000 in
theorem gX1_setFix_X1_fixMany : GoodIn wsX1_setFix (wsV RX1 133 RX1 yX1_fixMany wsX1_fixMany) := goodIn_app (goodIn_of _ (by decide +kernel)) ggX1_setFix_X1_fixMany
theorem dX1_setFix_0 : decode cX1_setFix 0 = .ok (.iload_n 1, 1) := by decide +kernel
theorem dX1_setFix_1 : decode cX1_setFix 1 = .ok (.iconst 1, 1) := by decide +kernel
theorem dX1_setFix_2 : decode cX1_setFix 2 = .ok (.aload_n 0, 1) := by decide +kernel
theorem dX1_setFix_3 : decode cX1_setFix 3 = .ok (.getfield 91, 3) := by decide +kernel
theorem dX1_setFix_6 : decode cX1_setFix 6 = .ok (.invokestatic 47, 3) := by decide +kernel
theorem dX1_setFix_9 : decode cX1_setFix 9 = .ok (.ifCond .ne 7, 3) := by decide +kernel
theorem dX1_setFix_12 : decode cX1_setFix 12 = .ok (.ldc2_w 129, 3) := by decide +kernel
theorem dX1_setFix_15 : decode cX1_setFix 15 = .ok (.lreturn, 1) := by decide +kernel
theorem dX1_setFix_16 : decode cX1_setFix 16 = .ok (.iload_n 2, 1) := by decide +kernel
theorem dX1_setFix_17 : decode cX1_setFix 17 = .ok (.ldc 131, 2) := by decide +kernel
theorem dX1_setFix_19 : decode cX1_setFix 19 = .ok (.ldc 132, 2) := by decide +kernel
theorem dX1_setFix_21 : decode cX1_setFix 21 = .ok (.invokestatic 47, 3) := by decide +kernel
theorem dX1_setFix_24 : decode cX1_setFix 24 = .ok (.ifCond .eq 14, 3) := by decide +kernel
theorem dX1_setFix_27 : decode cX1_setFix 27 = .ok (.iload_n 3, 1) := by decide +kernel
theorem dX1_setFix_28 : decode cX1_setFix 28 = .ok (.ldc 131, 2) := by decide +kernel
theorem dX1_setFix_30 : decode cX1_setFix 30 = .ok (.ldc 132, 2) := by decide +kernel
theorem dX1_setFix_32 : decode cX1_setFix 32 = .ok (.invokestatic 47, 3) := by decide +kernel
theorem dX1_setFix_35 : decode cX1_setFix 35 = .ok (.ifCond .ne 7, 3) := by decide +kernel
theorem dX1_setFix_38 : decode cX1_setFix 38 = .ok (.ldc2_w 51, 3) := by decide +kernel
theorem dX1_setFix_41 : decode cX1_setFix 41 = .ok (.lreturn, 1) := by decide +kernel
theorem dX1_setFix_42 : decode cX1_setFix 42 = .ok (.aload_n 0, 1) := by decide +kernel
theorem dX1_setFix_43 : decode cX1_setFix 43 = .ok (.getfield 26, 3) := by decide +kernel
theorem dX1_setFix_46 : decode cX1_setFix 46 = .ok (.iload_n 1, 1) := by decide +kernel
theorem dX1_setFix_47 : decode cX1_setFix 47 = .ok (.iconst 1, 1) := by decide +kernel
theorem dX1_setFix_48 : decode cX1_setFix 48 = .ok (.bastore, 1) := by decide +kernel
theorem dX1_setFix_49 : decode cX1_setFix 49 = .ok (.aload_n 0, 1) := by decide +kernel
theorem dX1_setFix_50 : decode cX1_setFix 50 = .ok (.getfield 29, 3) := by decide +kernel
theorem dX1_setFix_53 : decode cX1_setFix 53 = .ok (.iload_n 1, 1) := by decide +kernel
theorem dX1_setFix_54 : decode cX1_setFix 54 = .ok (.iload_n 2, 1) := by decide +kernel
theorem dX1_setFix_55 : decode cX1_setFix 55 = .ok (.i2l, 1) := by decide +kernel
theorem dX1_setFix_56 : decode cX1_setFix 56 = .ok (.lastore, 1) := by decide +kernel
theorem dX1_setFix_57 : decode cX1_setFix 57 = .ok (.aload_n 0, 1) := by decide +kernel
theorem dX1_setFix_58 : decode cX1_setFix 58 = .ok (.getfield 33, 3) := by decide +kernel
theorem dX1_setFix_61 : decode cX1_setFix 61 = .ok (.iload_n 1, 1) := by decide +kernel
theorem dX1_setFix_62 : decode cX1_setFix 62 = .ok (.iload_n 3, 1) := by decide +kernel
theorem dX1_setFix_63 : decode cX1_setFix 63 = .ok (.i2l, 1) := by decide +kernel
theorem dX1_setFix_64 : decode cX1_setFix 64 = .ok (.lastore, 1) := by decide +kernel
theorem dX1_setFix_65 : decode cX1_setFix 65 = .ok (.aload_n 0, 1) := by decide +kernel
theorem dX1_setFix_66 : decode cX1_setFix 66 = .ok (.invokevirtual 133, 3) := by decide +kernel
theorem dX1_setFix_69 : decode cX1_setFix 69 = .ok (.i2l, 1) := by decide +kernel
theorem dX1_setFix_70 : decode cX1_setFix 70 = .ok (.lreturn, 1) := by decide +kernel
set_option maxRecDepth 20000 in
theorem ggX1_removeFix_X1_within : GoodIn wsX1_removeFix wsX1_within := goodIn_r _ [8] (by decide +kernel) (by decide +kernel)
set_option maxRecDepth 20000 in
theorem gX1_removeFix_X1_within : GoodIn wsX1_removeFix (va_wsS RX1 47 yX1_within wsX1_within) := goodIn_app (goodIn_of _ (by decide +kernel)) ggX1_removeFix_X1_within
set_option maxRecDepth 20000 in
theorem ggX1_removeFix_X1_fixMany : GoodIn wsX1_removeFix wsX1_fixMany := goodIn_r _ [12, 1, 3, 13, 14, 15, 16, 17, 18, 19, 20, 21, 22, 23, 24, 25, 26, 27, 28, 29] (by decide +kernel) (by decide +kernel)
set_option maxRecDepth 20000 in
theorem gX1_removeFix_X1_fixMany : GoodIn wsX1_removeFix (wsV RX1 133 RX1 yX1_fixMany wsX1_fixMany) := goodIn_app (goodIn_of _ (by decide +kernel)) ggX1_removeFix_X1_fixMany
theorem dX1_removeFix_0 : decode cX1_removeFix 0 = .ok (.iload_n 1, 1) := by decide +kernel
theorem dX1_removeFix_1 : decode cX1_removeFix 1 = .ok (.iconst 1, 1) := by decide +kernel
theorem dX1_removeFix_2 : decode cX1_removeFix 2 = .ok (.aload_n 0, 1) := by decide +kernel
theorem dX1_removeFix_3 : decode cX1_removeFix 3 = .ok (.getfield 91, 3) := by decide +kernel
theorem dX1_removeFix_6 : decode cX1_removeFix 6 = .ok (.invokestatic 47, 3) := by decide +kernel
theorem dX1_removeFix_9 : decode cX1_removeFix 9 = .ok (.ifCond .ne 7, 3) := by decide +kernel
theorem dX1_removeFix_12 : decode cX1_removeFix 12 = .ok (.ldc2_w 129, 3) := by decide +kernel
theorem dX1_removeFix_15 : decode cX1_removeFix 15 = .ok (.lreturn, 1) := by decide +kernel
theorem dX1_removeFix_16 : decode cX1_removeFix 16 = .ok (.aload_n 0, 1) := by decide +kernel
theorem dX1_removeFix_17 : decode cX1_removeFix 17 = .ok (.getfield 26, 3) := by decide +kernel
theorem dX1_removeFix_20 : decode cX1_removeFix 20 = .ok (.iload_n 1, 1) := by decide +kernel
theorem dX1_removeFix_21 : decode cX1_removeFix 21 = .ok (.baload, 1) := by decide +kernel
theorem dX1_removeFix_22 : decode cX1_removeFix 22 = .ok (.ifCond .ne 7, 3) := by decide +kernel
theorem dX1_removeFix_25 : decode cX1_removeFix 25 = .ok (.ldc2_w 108, 3) := by decide +kernel
theorem dX1_removeFix_28 : decode cX1_removeFix 28 = .ok (.lreturn, 1) := by decide +kernel
theorem dX1_removeFix_29 : decode cX1_removeFix 29 = .ok (.aload_n 0, 1) := by decide +kernel
theorem dX1_removeFix_30 : decode cX1_removeFix 30 = .ok (.getfield 26, 3) := by decide +kernel
theorem dX1_removeFix_33 : decode cX1_removeFix 33 = .ok (.iload_n 1, 1) := by decide +kernel
theorem dX1_removeFix_34 : decode cX1_removeFix 34 = .ok (.iconst 0, 1) := by decide +kernel
theorem dX1_removeFix_35 : decode cX1_removeFix 35 = .ok (.bastore, 1) := by decide +kernel
theorem dX1_removeFix_36 : decode cX1_removeFix 36 = .ok (.aload_n 0, 1) := by decide +kernel
theorem dX1_removeFix_37 : decode cX1_removeFix 37 = .ok (.invokevirtual 133, 3) := by decide +kernel
theorem dX1_removeFix_40 : decode cX1_removeFix 40 = .ok (.i2l, 1) := by decide +kernel
theorem dX1_removeFix_41 : decode cX1_removeFix 41 = .ok (.lreturn, 1) := by decide +kernel
set_option maxRecDepth 20000 in
theorem ggX1_isMoment_X1_within : GoodIn wsX1_isMoment wsX1_within := goodIn_r _ [5] (by decide +kernel) (by decide +kernel)
set_option maxRecDepth 20000 in
theorem gX1_isMoment_X1_within : GoodIn wsX1_isMoment (va_wsS RX1 47 yX1_within wsX1_within) := goodIn_app (goodIn_of _ (by decide +kernel)) ggX1_isMoment_X1_within
theorem dX1_isMoment_0 : decode cX1_isMoment 0 = .ok (.iload_n 1, 1) := by decide +kernel
theorem dX1_isMoment_1 : decode cX1_isMoment 1 = .ok (.iconst 0, 1) := by decide +kernel
theorem dX1_isMoment_2 : decode cX1_isMoment 2 = .ok (.aload_n 0, 1) := by decide +kernel
theorem dX1_isMoment_3 : decode cX1_isMoment 3 = .ok (.getfield 91, 3) := by decide +kernel
theorem dX1_isMoment_6 : decode cX1_isMoment 6 = .ok (.invokestatic 47, 3) := by decide +kernel
theorem dX1_isMoment_9 : decode cX1_isMoment 9 = .ok (.ireturn, 1) := by decide +kernel
theorem dX1_fixAt_0 : decode cX1_fixAt 0 = .ok (.iload_n 1, 1) := by decide +kernel
theorem dX1_fixAt_1 : decode cX1_fixAt 1 = .ok (.istore_n 2, 1) := by decide +kernel
theorem dX1_fixAt_2 : decode cX1_fixAt 2 = .ok (.aload_n 0, 1) := by decide +kernel
theorem dX1_fixAt_3 : decode cX1_fixAt 3 = .ok (.getfield 26, 3) := by decide +kernel
theorem dX1_fixAt_6 : decode cX1_fixAt 6 = .ok (.iload_n 2, 1) := by decide +kernel
theorem dX1_fixAt_7 : decode cX1_fixAt 7 = .ok (.baload, 1) := by decide +kernel
theorem dX1_fixAt_8 : decode cX1_fixAt 8 = .ok (.ifCond .ne 9, 3) := by decide +kernel
theorem dX1_fixAt_11 : decode cX1_fixAt 11 = .ok (.iinc 2 (-1), 3) := by decide +kernel
theorem dX1_fixAt_14 : decode cX1_fixAt 14 = .ok (.goto (-12), 3) := by decide +kernel
theorem dX1_fixAt_17 : decode cX1_fixAt 17 = .ok (.iload_n 2, 1) := by decide +kernel
theorem dX1_fixAt_18 : decode cX1_fixAt 18 = .ok (.ireturn, 1) := by decide +kernel
theorem dX1_fixBehind_0 : decode cX1_fixBehind 0 = .ok (.iconst (-1), 1) := by decide +kernel
theorem dX1_fixBehind_1 : decode cX1_fixBehind 1 = .ok (.istore_n 2, 1) := by decide +kernel
theorem dX1_fixBehind_2 : decode cX1_fixBehind 2 = .ok (.aload_n 0, 1) := by decide +kernel
theorem dX1_fixBehind_3 : decode cX1_fixBehind 3 = .ok (.getfield 91, 3) := by decide +kernel
theorem dX1_fixBehind_6 : decode cX1_fixBehind 6 = .ok (.istore_n 3, 1) := by decide +kernel
theorem dX1_fixBehind_7 : decode cX1_fixBehind 7 = .ok (.iload_n 3, 1) := by decide +kernel
theorem dX1_fixBehind_8 : decode cX1_fixBehind 8 = .ok (.iload_n 1, 1) := by decide +kernel
theorem dX1_fixBehind_9 : decode cX1_fixBehind 9 = .ok (.if_icmp .le 24, 3) := by decide +kernel
theorem dX1_fixBehind_12 : decode cX1_fixBehind 12 = .ok (.aload_n 0, 1) := by decide +kernel
theorem dX1_fixBehind_13 : decode cX1_fixBehind 13 = .ok (.getfield 26, 3) := by decide +kernel
theorem dX1_fixBehind_16 : decode cX1_fixBehind 16 = .ok (.iload_n 3, 1) := by decide +kernel
theorem dX1_fixBehind_17 : decode cX1_fixBehind 17 = .ok (.baload, 1) := by decide +kernel
theorem dX1_fixBehind_18 : decode cX1_fixBehind 18 = .ok (.ifCond .eq 7, 3) := by decide +kernel
theorem dX1_fixBehind_21 : decode cX1_fixBehind 21 = .ok (.iload_n 3, 1) := by decide +kernel
theorem dX1_fixBehind_22 : decode cX1_fixBehind 22 = .ok (.goto 4, 3) := by decide +kernel
theorem dX1_fixBehind_25 : decode cX1_fixBehind 25 = .ok (.iload_n 2, 1) := by decide +kernel
theorem dX1_fixBehind_26 : decode cX1_fixBehind 26 = .ok (.istore_n 2, 1) := by decide +kernel
theorem dX1_fixBehind_27 : decode cX1_fixBehind 27 = .ok (.iinc 3 (-1), 3) := by decide +kernel
theorem dX1_fixBehind_30 : decode cX1_fixBehind 30 = .ok (.goto (-23), 3) := by decide +kernel
theorem dX1_fixBehind_33 : decode cX1_fixBehind 33 = .ok (.iload_n 2, 1) := by decide +kernel
theorem dX1_fixBehind_34 : decode cX1_fixBehind 34 = .ok (.ireturn, 1) := by decide +kernel
set_option maxRecDepth 20000 in
theorem ggX1_leg_X1_cosine : GoodIn wsX1_leg wsX1_cosine := goodIn_r _ [10, 11, 12, 9, 13, 14, 15, 16] (by decide +kernel) (by decide +kernel)
set_option maxRecDepth 20000 in
theorem gX1_leg_X1_cosine : GoodIn wsX1_leg (va_wsS RX1 136 yX1_cosine wsX1_cosine) := goodIn_app (goodIn_of _ (by decide +kernel)) ggX1_leg_X1_cosine
set_option maxRecDepth 20000 in
theorem ggX1_leg_X1_sine : GoodIn wsX1_leg wsX1_sine := goodIn_r _ [13, 14, 15, 9, 16] (by decide +kernel) (by decide +kernel)
set_option maxRecDepth 20000 in
theorem gX1_leg_X1_sine : GoodIn wsX1_leg (va_wsS RX1 44 yX1_sine wsX1_sine) := goodIn_app (goodIn_of _ (by decide +kernel)) ggX1_leg_X1_sine
theorem dX1_leg_0 : decode cX1_leg 0 = .ok (.aload_n 0, 1) := by decide +kernel
theorem dX1_leg_1 : decode cX1_leg 1 = .ok (.getfield 13, 3) := by decide +kernel
theorem dX1_leg_4 : decode cX1_leg 4 = .ok (.iload_n 1, 1) := by decide +kernel
theorem dX1_leg_5 : decode cX1_leg 5 = .ok (.iaload, 1) := by decide +kernel
theorem dX1_leg_6 : decode cX1_leg 6 = .ok (.aload_n 0, 1) := by decide +kernel
theorem dX1_leg_7 : decode cX1_leg 7 = .ok (.getfield 19, 3) := by decide +kernel
theorem dX1_leg_10 : decode cX1_leg 10 = .ok (.iload_n 1, 1) := by decide +kernel
theorem dX1_leg_11 : decode cX1_leg 11 = .ok (.iaload, 1) := by decide +kernel
theorem dX1_leg_12 : decode cX1_leg 12 = .ok (.iadd, 1) := by decide +kernel
theorem dX1_leg_13 : decode cX1_leg 13 = .ok (.bipush 32, 2) := by decide +kernel
theorem dX1_leg_15 : decode cX1_leg 15 = .ok (.iadd, 1) := by decide +kernel
theorem dX1_leg_16 : decode cX1_leg 16 = .ok (.bipush 32, 2) := by decide +kernel
theorem dX1_leg_18 : decode cX1_leg 18 = .ok (.irem, 1) := by decide +kernel
theorem dX1_leg_19 : decode cX1_leg 19 = .ok (.istore_n 3, 1) := by decide +kernel
theorem dX1_leg_20 : decode cX1_leg 20 = .ok (.aload_n 0, 1) := by decide +kernel
theorem dX1_leg_21 : decode cX1_leg 21 = .ok (.getfield 22, 3) := by decide +kernel
theorem dX1_leg_24 : decode cX1_leg 24 = .ok (.iload_n 1, 1) := by decide +kernel
theorem dX1_leg_25 : decode cX1_leg 25 = .ok (.baload, 1) := by decide +kernel
theorem dX1_leg_26 : decode cX1_leg 26 = .ok (.ifCond .eq 7, 3) := by decide +kernel
theorem dX1_leg_29 : decode cX1_leg 29 = .ok (.lconst 0, 1) := by decide +kernel
theorem dX1_leg_30 : decode cX1_leg 30 = .ok (.goto 27, 3) := by decide +kernel
theorem dX1_leg_33 : decode cX1_leg 33 = .ok (.aload_n 0, 1) := by decide +kernel
theorem dX1_leg_34 : decode cX1_leg 34 = .ok (.getfield 16, 3) := by decide +kernel
theorem dX1_leg_37 : decode cX1_leg 37 = .ok (.iload_n 1, 1) := by decide +kernel
theorem dX1_leg_38 : decode cX1_leg 38 = .ok (.iaload, 1) := by decide +kernel
theorem dX1_leg_39 : decode cX1_leg 39 = .ok (.i2l, 1) := by decide +kernel
theorem dX1_leg_40 : decode cX1_leg 40 = .ok (.iload_n 2, 1) := by decide +kernel
theorem dX1_leg_41 : decode cX1_leg 41 = .ok (.ifCond .ne 10, 3) := by decide +kernel
theorem dX1_leg_44 : decode cX1_leg 44 = .ok (.iload_n 3, 1) := by decide +kernel
theorem dX1_leg_45 : decode cX1_leg 45 = .ok (.invokestatic 136, 3) := by decide +kernel
theorem dX1_leg_48 : decode cX1_leg 48 = .ok (.goto 7, 3) := by decide +kernel
theorem dX1_leg_51 : decode cX1_leg 51 = .ok (.iload_n 3, 1) := by decide +kernel
theorem dX1_leg_52 : decode cX1_leg 52 = .ok (.invokestatic 44, 3) := by decide +kernel
theorem dX1_leg_55 : decode cX1_leg 55 = .ok (.i2l, 1) := by decide +kernel
theorem dX1_leg_56 : decode cX1_leg 56 = .ok (.lmul, 1) := by decide +kernel
theorem dX1_leg_57 : decode cX1_leg 57 = .ok (.lstore 4, 2) := by decide +kernel
theorem dX1_leg_59 : decode cX1_leg 59 = .ok (.lload 4, 2) := by decide +kernel
theorem dX1_leg_61 : decode cX1_leg 61 = .ok (.aload_n 0, 1) := by decide +kernel
theorem dX1_leg_62 : decode cX1_leg 62 = .ok (.getfield 116, 3) := by decide +kernel
theorem dX1_leg_65 : decode cX1_leg 65 = .ok (.i2l, 1) := by decide +kernel
theorem dX1_leg_66 : decode cX1_leg 66 = .ok (.iload_n 2, 1) := by decide +kernel
theorem dX1_leg_67 : decode cX1_leg 67 = .ok (.ifCond .ne 13, 3) := by decide +kernel
theorem dX1_leg_70 : decode cX1_leg 70 = .ok (.aload_n 0, 1) := by decide +kernel
theorem dX1_leg_71 : decode cX1_leg 71 = .ok (.getfield 119, 3) := by decide +kernel
theorem dX1_leg_74 : decode cX1_leg 74 = .ok (.invokestatic 136, 3) := by decide +kernel
theorem dX1_leg_77 : decode cX1_leg 77 = .ok (.goto 10, 3) := by decide +kernel
theorem dX1_leg_80 : decode cX1_leg 80 = .ok (.aload_n 0, 1) := by decide +kernel
theorem dX1_leg_81 : decode cX1_leg 81 = .ok (.getfield 119, 3) := by decide +kernel
theorem dX1_leg_84 : decode cX1_leg 84 = .ok (.invokestatic 44, 3) := by decide +kernel
theorem dX1_leg_87 : decode cX1_leg 87 = .ok (.i2l, 1) := by decide +kernel
theorem dX1_leg_88 : decode cX1_leg 88 = .ok (.lmul, 1) := by decide +kernel
theorem dX1_leg_89 : decode cX1_leg 89 = .ok (.ladd, 1) := by decide +kernel
theorem dX1_leg_90 : decode cX1_leg 90 = .ok (.lreturn, 1) := by decide +kernel
theorem dX1_fixed_0 : decode cX1_fixed 0 = .ok (.iload_n 2, 1) := by decide +kernel
theorem dX1_fixed_1 : decode cX1_fixed 1 = .ok (.ifCond .ne 12, 3) := by decide +kernel
theorem dX1_fixed_4 : decode cX1_fixed 4 = .ok (.aload_n 0, 1) := by decide +kernel
theorem dX1_fixed_5 : decode cX1_fixed 5 = .ok (.getfield 29, 3) := by decide +kernel
theorem dX1_fixed_8 : decode cX1_fixed 8 = .ok (.iload_n 1, 1) := by decide +kernel
theorem dX1_fixed_9 : decode cX1_fixed 9 = .ok (.laload, 1) := by decide +kernel
theorem dX1_fixed_10 : decode cX1_fixed 10 = .ok (.goto 9, 3) := by decide +kernel
theorem dX1_fixed_13 : decode cX1_fixed 13 = .ok (.aload_n 0, 1) := by decide +kernel
theorem dX1_fixed_14 : decode cX1_fixed 14 = .ok (.getfield 33, 3) := by decide +kernel
theorem dX1_fixed_17 : decode cX1_fixed 17 = .ok (.iload_n 1, 1) := by decide +kernel
theorem dX1_fixed_18 : decode cX1_fixed 18 = .ok (.laload, 1) := by decide +kernel
theorem dX1_fixed_19 : decode cX1_fixed 19 = .ok (.lreturn, 1) := by decide +kernel
set_option maxRecDepth 20000 in
theorem ggX1_gone_X1_fixed : GoodIn wsX1_gone wsX1_fixed := goodIn_r _ [5, 6, 7, 27, 28, 29, 30, 31, 32, 33, 34, 35, 36, 37, 38, 39, 40, 41, 42, 43] (by decide +kernel) (by decide +kernel)
set_option maxRecDepth 20000 in
theorem gX1_gone_X1_fixed : GoodIn wsX1_gone (wsV RX1 139 RX1 yX1_fixed wsX1_fixed) := goodIn_app (goodIn_of _ (by decide +kernel)) ggX1_gone_X1_fixed
set_option maxRecDepth 20000 in
theorem ggX1_gone_X1_leg : GoodIn wsX1_gone wsX1_leg := goodIn_r _ [11, 12, 13, 14, 15, 16, 17, 18, 19, 4, 20, 21, 22, 23, 24, 25, 26, 27, 28, 29, 30, 31, 32, 33, 34, 35, 36, 37, 38, 39, 40, 41, 42, 43] (by decide +kernel) (by decide +kernel)
set_option maxRecDepth 20000 in
theorem gX1_gone_X1_leg : GoodIn wsX1_gone (wsV RX1 143 RX1 yX1_leg wsX1_leg) := goodIn_app (goodIn_of _ (by decide +kernel)) ggX1_gone_X1_leg
theorem dX1_gone_0 : decode cX1_gone 0 = .ok (.aload_n 0, 1) := by decide +kernel
theorem dX1_gone_1 : decode cX1_gone 1 = .ok (.iload_n 1, 1) := by decide +kernel
theorem dX1_gone_2 : decode cX1_gone 2 = .ok (.iload_n 3, 1) := by decide +kernel
theorem dX1_gone_3 : decode cX1_gone 3 = .ok (.invokevirtual 139, 3) := by decide +kernel
theorem dX1_gone_6 : decode cX1_gone 6 = .ok (.lstore 4, 2) := by decide +kernel
theorem dX1_gone_8 : decode cX1_gone 8 = .ok (.iload_n 1, 1) := by decide +kernel
theorem dX1_gone_9 : decode cX1_gone 9 = .ok (.istore 6, 2) := by decide +kernel
theorem dX1_gone_11 : decode cX1_gone 11 = .ok (.iload 6, 2) := by decide +kernel
theorem dX1_gone_13 : decode cX1_gone 13 = .ok (.iload_n 2, 1) := by decide +kernel
theorem dX1_gone_14 : decode cX1_gone 14 = .ok (.if_icmp .ge 21, 3) := by decide +kernel
theorem dX1_gone_17 : decode cX1_gone 17 = .ok (.lload 4, 2) := by decide +kernel
theorem dX1_gone_19 : decode cX1_gone 19 = .ok (.aload_n 0, 1) := by decide +kernel
theorem dX1_gone_20 : decode cX1_gone 20 = .ok (.iload 6, 2) := by decide +kernel
theorem dX1_gone_22 : decode cX1_gone 22 = .ok (.iload_n 3, 1) := by decide +kernel
theorem dX1_gone_23 : decode cX1_gone 23 = .ok (.invokevirtual 143, 3) := by decide +kernel
theorem dX1_gone_26 : decode cX1_gone 26 = .ok (.ladd, 1) := by decide +kernel
theorem dX1_gone_27 : decode cX1_gone 27 = .ok (.lstore 4, 2) := by decide +kernel
theorem dX1_gone_29 : decode cX1_gone 29 = .ok (.iinc 6 1, 3) := by decide +kernel
theorem dX1_gone_32 : decode cX1_gone 32 = .ok (.goto (-21), 3) := by decide +kernel
theorem dX1_gone_35 : decode cX1_gone 35 = .ok (.lload 4, 2) := by decide +kernel
theorem dX1_gone_37 : decode cX1_gone 37 = .ok (.lreturn, 1) := by decide +kernel
theorem dX1_floor_0 : decode cX1_floor 0 = .ok (.lload_n 0, 1) := by decide +kernel
theorem dX1_floor_1 : decode cX1_floor 1 = .ok (.lload_n 2, 1) := by decide +kernel
theorem dX1_floor_2 : decode cX1_floor 2 = .ok (.ldiv, 1) := by decide +kernel
theorem dX1_floor_3 : decode cX1_floor 3 = .ok (.lstore 4, 2) := by decide +kernel
theorem dX1_floor_5 : decode cX1_floor 5 = .ok (.lload 4, 2) := by decide +kernel
theorem dX1_floor_7 : decode cX1_floor 7 = .ok (.lload_n 2, 1) := by decide +kernel
theorem dX1_floor_8 : decode cX1_floor 8 = .ok (.lmul, 1) := by decide +kernel
theorem dX1_floor_9 : decode cX1_floor 9 = .ok (.lload_n 0, 1) := by decide +kernel
theorem dX1_floor_10 : decode cX1_floor 10 = .ok (.lcmp, 1) := by decide +kernel
theorem dX1_floor_11 : decode cX1_floor 11 = .ok (.ifCond .le 10, 3) := by decide +kernel
theorem dX1_floor_14 : decode cX1_floor 14 = .ok (.lload 4, 2) := by decide +kernel
theorem dX1_floor_16 : decode cX1_floor 16 = .ok (.lconst 1, 1) := by decide +kernel
theorem dX1_floor_17 : decode cX1_floor 17 = .ok (.lsub, 1) := by decide +kernel
theorem dX1_floor_18 : decode cX1_floor 18 = .ok (.goto 5, 3) := by decide +kernel
theorem dX1_floor_21 : decode cX1_floor 21 = .ok (.lload 4, 2) := by decide +kernel
theorem dX1_floor_23 : decode cX1_floor 23 = .ok (.lreturn, 1) := by decide +kernel
set_option maxRecDepth 20000 in
theorem ggX1_reckoned_X1_fixAt : GoodIn wsX1_reckoned wsX1_fixAt := goodIn_r _ [5, 6, 36, 37, 38, 39, 40, 41, 42, 43, 44, 45, 46, 47, 48, 49, 50, 51, 52] (by decide +kernel) (by decide +kernel)
set_option maxRecDepth 20000 in
theorem gX1_reckoned_X1_fixAt : GoodIn wsX1_reckoned (wsV RX1 146 RX1 yX1_fixAt wsX1_fixAt) := goodIn_app (goodIn_of _ (by decide +kernel)) ggX1_reckoned_X1_fixAt
set_option maxRecDepth 20000 in
theorem ggX1_reckoned_X1_gone : GoodIn wsX1_reckoned wsX1_gone := goodIn_r _ [10, 11, 12, 13, 4, 14, 15, 16, 17, 18, 19, 20, 21, 22, 23, 24, 25, 26, 27, 28, 29, 30, 31, 32, 33, 34, 35, 36, 37, 38, 39, 40, 41, 42, 43, 44, 45, 46, 47, 48, 49, 50, 51, 52] (by decide +kernel) (by decide +kernel)
set_option maxRecDepth 20000 in
theorem gX1_reckoned_X1_gone : GoodIn wsX1_reckoned (wsV RX1 149 RX1 yX1_gone wsX1_gone) := goodIn_app (goodIn_of _ (by decide +kernel)) ggX1_reckoned_X1_gone
theorem dX1_reckoned_0 : decode cX1_reckoned 0 = .ok (.aload_n 0, 1) := by decide +kernel
theorem dX1_reckoned_1 : decode cX1_reckoned 1 = .ok (.aload_n 0, 1) := by decide +kernel
theorem dX1_reckoned_2 : decode cX1_reckoned 2 = .ok (.iload_n 1, 1) := by decide +kernel
theorem dX1_reckoned_3 : decode cX1_reckoned 3 = .ok (.invokevirtual 146, 3) := by decide +kernel
theorem dX1_reckoned_6 : decode cX1_reckoned 6 = .ok (.iload_n 1, 1) := by decide +kernel
theorem dX1_reckoned_7 : decode cX1_reckoned 7 = .ok (.iload_n 2, 1) := by decide +kernel
theorem dX1_reckoned_8 : decode cX1_reckoned 8 = .ok (.invokevirtual 149, 3) := by decide +kernel
theorem dX1_reckoned_11 : decode cX1_reckoned 11 = .ok (.lreturn, 1) := by decide +kernel
set_option maxRecDepth 20000 in
theorem ggX1_corrected_X1_fixAt : GoodIn wsX1_corrected wsX1_fixAt := goodIn_r _ [5, 6, 44, 45, 46, 47, 48, 49, 50, 51, 52, 53, 54, 55, 56, 57, 58, 59, 60] (by decide +kernel) (by decide +kernel)
set_option maxRecDepth 20000 in
theorem gX1_corrected_X1_fixAt : GoodIn wsX1_corrected (wsV RX1 146 RX1 yX1_fixAt wsX1_fixAt) := goodIn_app (goodIn_of _ (by decide +kernel)) ggX1_corrected_X1_fixAt
set_option maxRecDepth 20000 in
theorem ggX1_corrected_X1_fixBehind : GoodIn wsX1_corrected wsX1_fixBehind := goodIn_r _ [10, 11, 6, 44, 45, 46, 47, 48, 49, 50, 51, 52, 53, 54, 55, 56, 57, 58, 59, 60] (by decide +kernel) (by decide +kernel)
set_option maxRecDepth 20000 in
theorem gX1_corrected_X1_fixBehind : GoodIn wsX1_corrected (wsV RX1 153 RX1 yX1_fixBehind wsX1_fixBehind) := goodIn_app (goodIn_of _ (by decide +kernel)) ggX1_corrected_X1_fixBehind
set_option maxRecDepth 20000 in
theorem ggX1_corrected_X1_gone : GoodIn wsX1_corrected wsX1_gone := goodIn_r _ [15, 16, 17, 18, 4, 19, 20, 21, 22, 23, 24, 25, 26, 27, 28, 29, 30, 31, 32, 33, 34, 35, 36, 37, 38, 39, 40, 44, 45, 46, 47, 48, 49, 50, 51, 52, 53, 54, 55, 56, 57, 58, 59, 60] (by decide +kernel) (by decide +kernel)
set_option maxRecDepth 20000 in
theorem gX1_corrected_X1_gone : GoodIn wsX1_corrected (wsV RX1 149 RX1 yX1_gone wsX1_gone) := goodIn_app (goodIn_of _ (by decide +kernel)) ggX1_corrected_X1_gone
set_option maxRecDepth 20000 in
theorem ggX1_corrected_X1_fixed : GoodIn wsX1_corrected wsX1_fixed := goodIn_r _ [19, 20, 21, 44, 45, 46, 47, 48, 49, 50, 51, 52, 53, 54, 55, 56, 57, 58, 59, 60] (by decide +kernel) (by decide +kernel)
set_option maxRecDepth 20000 in
theorem gX1_corrected_X1_fixed : GoodIn wsX1_corrected (wsV RX1 139 RX1 yX1_fixed wsX1_fixed) := goodIn_app (goodIn_of _ (by decide +kernel)) ggX1_corrected_X1_fixed
