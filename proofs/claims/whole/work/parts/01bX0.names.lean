theorem dX0_init_0 : decode cX0_init 0 = .ok (.aload_n 0, 1) := by decide +kernel
theorem dX0_init_1 : decode cX0_init 1 = .ok (.invokespecial 1, 3) := by decide +kernel
theorem dX0_init_4 : decode cX0_init 4 = .ok (.aload_n 0, 1) := by decide +kernel
theorem dX0_init_5 : decode cX0_init 5 = .ok (.bipush 12, 2) := by decide +kernel
theorem dX0_init_7 : decode cX0_init 7 = .ok (.newarray .int, 2) := by decide +kernel
theorem dX0_init_9 : decode cX0_init 9 = .ok (.putfield 9, 3) := by decide +kernel
theorem dX0_init_12 : decode cX0_init 12 = .ok (.aload_n 0, 1) := by decide +kernel
theorem dX0_init_13 : decode cX0_init 13 = .ok (.bipush 48, 2) := by decide +kernel
theorem dX0_init_15 : decode cX0_init 15 = .ok (.newarray .int, 2) := by decide +kernel
theorem dX0_init_17 : decode cX0_init 17 = .ok (.putfield 13, 3) := by decide +kernel
theorem dX0_init_20 : decode cX0_init 20 = .ok (.aload_n 0, 1) := by decide +kernel
theorem dX0_init_21 : decode cX0_init 21 = .ok (.bipush 48, 2) := by decide +kernel
theorem dX0_init_23 : decode cX0_init 23 = .ok (.newarray .int, 2) := by decide +kernel
theorem dX0_init_25 : decode cX0_init 25 = .ok (.putfield 16, 3) := by decide +kernel
theorem dX0_init_28 : decode cX0_init 28 = .ok (.aload_n 0, 1) := by decide +kernel
theorem dX0_init_29 : decode cX0_init 29 = .ok (.bipush 48, 2) := by decide +kernel
theorem dX0_init_31 : decode cX0_init 31 = .ok (.newarray .int, 2) := by decide +kernel
theorem dX0_init_33 : decode cX0_init 33 = .ok (.putfield 19, 3) := by decide +kernel
theorem dX0_init_36 : decode cX0_init 36 = .ok (.aload_n 0, 1) := by decide +kernel
theorem dX0_init_37 : decode cX0_init 37 = .ok (.bipush 48, 2) := by decide +kernel
theorem dX0_init_39 : decode cX0_init 39 = .ok (.newarray .boolean, 2) := by decide +kernel
theorem dX0_init_41 : decode cX0_init 41 = .ok (.putfield 22, 3) := by decide +kernel
theorem dX0_init_44 : decode cX0_init 44 = .ok (.aload_n 0, 1) := by decide +kernel
theorem dX0_init_45 : decode cX0_init 45 = .ok (.bipush 49, 2) := by decide +kernel
theorem dX0_init_47 : decode cX0_init 47 = .ok (.newarray .boolean, 2) := by decide +kernel
theorem dX0_init_49 : decode cX0_init 49 = .ok (.putfield 26, 3) := by decide +kernel
theorem dX0_init_52 : decode cX0_init 52 = .ok (.aload_n 0, 1) := by decide +kernel
theorem dX0_init_53 : decode cX0_init 53 = .ok (.bipush 49, 2) := by decide +kernel
theorem dX0_init_55 : decode cX0_init 55 = .ok (.newarray .int, 2) := by decide +kernel
theorem dX0_init_57 : decode cX0_init 57 = .ok (.putfield 29, 3) := by decide +kernel
theorem dX0_init_60 : decode cX0_init 60 = .ok (.aload_n 0, 1) := by decide +kernel
theorem dX0_init_61 : decode cX0_init 61 = .ok (.bipush 49, 2) := by decide +kernel
theorem dX0_init_63 : decode cX0_init 63 = .ok (.newarray .int, 2) := by decide +kernel
theorem dX0_init_65 : decode cX0_init 65 = .ok (.putfield 32, 3) := by decide +kernel
theorem dX0_init_68 : decode cX0_init 68 = .ok (.aload_n 0, 1) := by decide +kernel
theorem dX0_init_69 : decode cX0_init 69 = .ok (.getfield 26, 3) := by decide +kernel
theorem dX0_init_72 : decode cX0_init 72 = .ok (.iconst 0, 1) := by decide +kernel
theorem dX0_init_73 : decode cX0_init 73 = .ok (.iconst 1, 1) := by decide +kernel
theorem dX0_init_74 : decode cX0_init 74 = .ok (.bastore, 1) := by decide +kernel
theorem dX0_init_75 : decode cX0_init 75 = .ok (.return_, 1) := by decide +kernel
set_option maxRecDepth 20000 in
theorem ggX0_append_X0_inRange : GoodIn wsX0_append wsX0_inRange := goodIn_r _ [8] (by decide +kernel) (by decide +kernel)
set_option maxRecDepth 20000 in
theorem gX0_append_X0_inRange : GoodIn wsX0_append (va_wsS RX0 35 yX0_inRange wsX0_inRange) := goodIn_app (goodIn_of _ (by decide +kernel)) ggX0_append_X0_inRange
theorem dX0_append_0 : decode cX0_append 0 = .ok (.iload_n 1, 1) := by decide +kernel
theorem dX0_append_1 : decode cX0_append 1 = .ok (.bipush 32, 2) := by decide +kernel
theorem dX0_append_3 : decode cX0_append 3 = .ok (.bipush 126, 2) := by decide +kernel
theorem dX0_append_5 : decode cX0_append 5 = .ok (.invokestatic 35, 3) := by decide +kernel
theorem dX0_append_8 : decode cX0_append 8 = .ok (.ifCond .ne 7, 3) := by decide +kernel
theorem dX0_append_11 : decode cX0_append 11 = .ok (.ldc2_w 39, 3) := by decide +kernel
theorem dX0_append_14 : decode cX0_append 14 = .ok (.lreturn, 1) := by decide +kernel
theorem dX0_append_15 : decode cX0_append 15 = .ok (.aload_n 0, 1) := by decide +kernel
theorem dX0_append_16 : decode cX0_append 16 = .ok (.getfield 41, 3) := by decide +kernel
theorem dX0_append_19 : decode cX0_append 19 = .ok (.bipush 12, 2) := by decide +kernel
theorem dX0_append_21 : decode cX0_append 21 = .ok (.if_icmp .lt 7, 3) := by decide +kernel
theorem dX0_append_24 : decode cX0_append 24 = .ok (.ldc2_w 45, 3) := by decide +kernel
theorem dX0_append_27 : decode cX0_append 27 = .ok (.lreturn, 1) := by decide +kernel
theorem dX0_append_28 : decode cX0_append 28 = .ok (.aload_n 0, 1) := by decide +kernel
theorem dX0_append_29 : decode cX0_append 29 = .ok (.getfield 9, 3) := by decide +kernel
theorem dX0_append_32 : decode cX0_append 32 = .ok (.aload_n 0, 1) := by decide +kernel
theorem dX0_append_33 : decode cX0_append 33 = .ok (.getfield 41, 3) := by decide +kernel
theorem dX0_append_36 : decode cX0_append 36 = .ok (.iload_n 1, 1) := by decide +kernel
theorem dX0_append_37 : decode cX0_append 37 = .ok (.iastore, 1) := by decide +kernel
theorem dX0_append_38 : decode cX0_append 38 = .ok (.aload_n 0, 1) := by decide +kernel
theorem dX0_append_39 : decode cX0_append 39 = .ok (.dup, 1) := by decide +kernel
theorem dX0_append_40 : decode cX0_append 40 = .ok (.getfield 41, 3) := by decide +kernel
theorem dX0_append_43 : decode cX0_append 43 = .ok (.iconst 1, 1) := by decide +kernel
theorem dX0_append_44 : decode cX0_append 44 = .ok (.iadd, 1) := by decide +kernel
theorem dX0_append_45 : decode cX0_append 45 = .ok (.putfield 41, 3) := by decide +kernel
theorem dX0_append_48 : decode cX0_append 48 = .ok (.aload_n 0, 1) := by decide +kernel
theorem dX0_append_49 : decode cX0_append 49 = .ok (.getfield 41, 3) := by decide +kernel
theorem dX0_append_52 : decode cX0_append 52 = .ok (.i2l, 1) := by decide +kernel
theorem dX0_append_53 : decode cX0_append 53 = .ok (.lreturn, 1) := by decide +kernel
theorem dX0_clearBuffer_0 : decode cX0_clearBuffer 0 = .ok (.aload_n 0, 1) := by decide +kernel
theorem dX0_clearBuffer_1 : decode cX0_clearBuffer 1 = .ok (.getfield 41, 3) := by decide +kernel
theorem dX0_clearBuffer_4 : decode cX0_clearBuffer 4 = .ok (.istore_n 1, 1) := by decide +kernel
theorem dX0_clearBuffer_5 : decode cX0_clearBuffer 5 = .ok (.aload_n 0, 1) := by decide +kernel
theorem dX0_clearBuffer_6 : decode cX0_clearBuffer 6 = .ok (.iconst 0, 1) := by decide +kernel
theorem dX0_clearBuffer_7 : decode cX0_clearBuffer 7 = .ok (.putfield 41, 3) := by decide +kernel
theorem dX0_clearBuffer_10 : decode cX0_clearBuffer 10 = .ok (.iload_n 1, 1) := by decide +kernel
theorem dX0_clearBuffer_11 : decode cX0_clearBuffer 11 = .ok (.i2l, 1) := by decide +kernel
theorem dX0_clearBuffer_12 : decode cX0_clearBuffer 12 = .ok (.lreturn, 1) := by decide +kernel
set_option maxRecDepth 20000 in
theorem ggX0_errorPosition_X0_pointInBuffer : GoodIn wsX0_errorPosition wsX0_pointInBuffer := goodIn_r _ [5, 6, 7, 8, 4, 9, 10, 11, 12, 13, 14, 15, 16, 17, 18, 19, 20, 21, 22, 23, 24, 25, 26, 27, 28, 29, 30, 31, 32, 33, 34, 35, 36, 37, 38, 39, 40, 41, 42, 43, 44, 45, 46, 47, 48, 49, 50, 51, 52, 53, 54, 55, 56, 76, 77, 78, 79, 80, 81, 82, 83, 84, 85, 86, 87] (by decide +kernel) (by decide +kernel)
set_option maxRecDepth 20000 in
theorem gX0_errorPosition_X0_pointInBuffer : GoodIn wsX0_errorPosition (wsV RX0 47 RX0 yX0_pointInBuffer wsX0_pointInBuffer) := goodIn_app (goodIn_of _ (by decide +kernel)) ggX0_errorPosition_X0_pointInBuffer
set_option maxRecDepth 20000 in
theorem ggX0_errorPosition_X0_agreement : GoodIn wsX0_errorPosition wsX0_agreement := goodIn_r _ [9, 10, 11, 12, 13, 14, 4, 15, 16, 17, 18, 19, 20, 21, 22, 23, 24, 25, 26, 27, 28, 29, 30, 31, 32, 33, 34, 35, 36, 37, 38, 39, 40, 41, 42, 43, 44, 45, 46, 47, 48, 49, 50, 51, 52, 53, 54, 55, 56, 76, 77, 78, 79, 80, 81, 82, 83, 84, 85, 86, 87] (by decide +kernel) (by decide +kernel)
set_option maxRecDepth 20000 in
theorem gX0_errorPosition_X0_agreement : GoodIn wsX0_errorPosition (wsV RX0 51 RX0 yX0_agreement wsX0_agreement) := goodIn_app (goodIn_of _ (by decide +kernel)) ggX0_errorPosition_X0_agreement
set_option maxRecDepth 20000 in
theorem ggX0_errorPosition_X0_blankEnds : GoodIn wsX0_errorPosition wsX0_blankEnds := goodIn_r _ [15, 11, 76, 77, 78, 79, 80, 81, 82, 83, 84, 85, 86, 87] (by decide +kernel) (by decide +kernel)
set_option maxRecDepth 20000 in
theorem gX0_errorPosition_X0_blankEnds : GoodIn wsX0_errorPosition (wsV RX0 55 RX0 yX0_blankEnds wsX0_blankEnds) := goodIn_app (goodIn_of _ (by decide +kernel)) ggX0_errorPosition_X0_blankEnds
set_option maxRecDepth 20000 in
theorem ggX0_errorPosition_X0_speedEnd : GoodIn wsX0_errorPosition wsX0_speedEnd := goodIn_r _ [60, 10, 61, 62, 63, 4, 64, 65, 66, 67, 68, 11, 69, 70, 71, 72, 73, 74, 75, 76, 77, 78, 79, 80, 81, 82, 83, 84, 85, 86, 87] (by decide +kernel) (by decide +kernel)
set_option maxRecDepth 20000 in
theorem gX0_errorPosition_X0_speedEnd : GoodIn wsX0_errorPosition (wsV RX0 59 RX0 yX0_speedEnd wsX0_speedEnd) := goodIn_app (goodIn_of _ (by decide +kernel)) ggX0_errorPosition_X0_speedEnd
theorem dX0_errorPosition_0 : decode cX0_errorPosition 0 = .ok (.aload_n 0, 1) := by decide +kernel
theorem dX0_errorPosition_1 : decode cX0_errorPosition 1 = .ok (.aload_n 0, 1) := by decide +kernel
theorem dX0_errorPosition_2 : decode cX0_errorPosition 2 = .ok (.invokevirtual 47, 3) := by decide +kernel
theorem dX0_errorPosition_5 : decode cX0_errorPosition 5 = .ok (.invokevirtual 51, 3) := by decide +kernel
theorem dX0_errorPosition_8 : decode cX0_errorPosition 8 = .ok (.istore_n 1, 1) := by decide +kernel
theorem dX0_errorPosition_9 : decode cX0_errorPosition 9 = .ok (.aload_n 0, 1) := by decide +kernel
theorem dX0_errorPosition_10 : decode cX0_errorPosition 10 = .ok (.iload_n 1, 1) := by decide +kernel
theorem dX0_errorPosition_11 : decode cX0_errorPosition 11 = .ok (.invokevirtual 55, 3) := by decide +kernel
theorem dX0_errorPosition_14 : decode cX0_errorPosition 14 = .ok (.ifCond .eq 12, 3) := by decide +kernel
theorem dX0_errorPosition_17 : decode cX0_errorPosition 17 = .ok (.aload_n 0, 1) := by decide +kernel
theorem dX0_errorPosition_18 : decode cX0_errorPosition 18 = .ok (.iload_n 1, 1) := by decide +kernel
theorem dX0_errorPosition_19 : decode cX0_errorPosition 19 = .ok (.invokevirtual 59, 3) := by decide +kernel
theorem dX0_errorPosition_22 : decode cX0_errorPosition 22 = .ok (.i2l, 1) := by decide +kernel
theorem dX0_errorPosition_23 : decode cX0_errorPosition 23 = .ok (.goto 5, 3) := by decide +kernel
theorem dX0_errorPosition_26 : decode cX0_errorPosition 26 = .ok (.iload_n 1, 1) := by decide +kernel
theorem dX0_errorPosition_27 : decode cX0_errorPosition 27 = .ok (.i2l, 1) := by decide +kernel
theorem dX0_errorPosition_28 : decode cX0_errorPosition 28 = .ok (.lreturn, 1) := by decide +kernel
set_option maxRecDepth 20000 in
theorem ggX0_addFromBuffer_X0_errorPosition : GoodIn wsX0_addFromBuffer wsX0_errorPosition := goodIn_r _ [9, 10, 11, 12, 8, 13, 14, 15, 16, 17, 1, 18, 19, 20, 21, 22, 23, 24, 25, 26, 27, 28, 29, 30, 31, 32, 33, 34, 35, 36, 37, 38, 39, 40, 41, 42, 43, 44, 45, 46, 47, 48, 49, 50, 51, 52, 53, 54, 55, 56, 57, 58, 59, 60, 61, 62, 63, 64, 65, 66, 67, 68, 69, 70, 71, 72, 73, 74, 75, 76, 77, 78, 79, 80, 81, 82, 95, 96, 97, 98, 99, 100, 101, 102, 103, 104, 105, 106] (by decide +kernel) (by decide +kernel)
set_option maxRecDepth 20000 in
theorem gX0_addFromBuffer_X0_errorPosition : GoodIn wsX0_addFromBuffer (wsV RX0 62 RX0 yX0_errorPosition wsX0_errorPosition) := goodIn_app (goodIn_of _ (by decide +kernel)) ggX0_addFromBuffer_X0_errorPosition
set_option maxRecDepth 20000 in
theorem ggX0_addFromBuffer_X0_digitEnds : GoodIn wsX0_addFromBuffer wsX0_digitEnds := goodIn_r _ [75, 18, 76, 77, 8, 78, 95, 96, 97, 98, 99, 100, 101, 102, 103, 104, 105, 106] (by decide +kernel) (by decide +kernel)
set_option maxRecDepth 20000 in
theorem gX0_addFromBuffer_X0_digitEnds : GoodIn wsX0_addFromBuffer (wsV RX0 66 RX0 yX0_digitEnds wsX0_digitEnds) := goodIn_app (goodIn_of _ (by decide +kernel)) ggX0_addFromBuffer_X0_digitEnds
set_option maxRecDepth 20000 in
theorem ggX0_addFromBuffer_X0_pointInBuffer : GoodIn wsX0_addFromBuffer wsX0_pointInBuffer := goodIn_r _ [13, 14, 15, 16, 8, 17, 1, 18, 19, 20, 21, 22, 23, 24, 25, 26, 27, 28, 29, 30, 31, 32, 33, 34, 35, 36, 37, 38, 39, 40, 41, 42, 43, 44, 45, 46, 47, 48, 49, 50, 51, 52, 53, 54, 55, 56, 57, 58, 59, 60, 61, 62, 63, 95, 96, 97, 98, 99, 100, 101, 102, 103, 104, 105, 106] (by decide +kernel) (by decide +kernel)
set_option maxRecDepth 20000 in
theorem gX0_addFromBuffer_X0_pointInBuffer : GoodIn wsX0_addFromBuffer (wsV RX0 47 RX0 yX0_pointInBuffer wsX0_pointInBuffer) := goodIn_app (goodIn_of _ (by decide +kernel)) ggX0_addFromBuffer_X0_pointInBuffer
set_option maxRecDepth 20000 in
theorem ggX0_addFromBuffer_X0_agreement : GoodIn wsX0_addFromBuffer wsX0_agreement := goodIn_r _ [17, 1, 18, 19, 20, 21, 8, 22, 23, 24, 25, 26, 27, 28, 29, 30, 31, 32, 33, 34, 35, 36, 37, 38, 39, 40, 41, 42, 43, 44, 45, 46, 47, 48, 49, 50, 51, 52, 53, 54, 55, 56, 57, 58, 59, 60, 61, 62, 63, 95, 96, 97, 98, 99, 100, 101, 102, 103, 104, 105, 106] (by decide +kernel) (by decide +kernel)
set_option maxRecDepth 20000 in
theorem gX0_addFromBuffer_X0_agreement : GoodIn wsX0_addFromBuffer (wsV RX0 51 RX0 yX0_agreement wsX0_agreement) := goodIn_app (goodIn_of _ (by decide +kernel)) ggX0_addFromBuffer_X0_agreement
set_option maxRecDepth 20000 in
theorem ggX0_addFromBuffer_X0_number : GoodIn wsX0_addFromBuffer wsX0_number := goodIn_r _ [82, 18, 95, 96, 97, 98, 99, 100, 101, 102, 103, 104, 105, 106] (by decide +kernel) (by decide +kernel)
set_option maxRecDepth 20000 in
theorem gX0_addFromBuffer_X0_number : GoodIn wsX0_addFromBuffer (wsV RX0 74 RX0 yX0_number wsX0_number) := goodIn_app (goodIn_of _ (by decide +kernel)) ggX0_addFromBuffer_X0_number
set_option maxRecDepth 20000 in
theorem ggX0_addFromBuffer_X0_putBehindLast : GoodIn wsX0_addFromBuffer wsX0_putBehindLast := goodIn_r _ [86, 3, 87, 88, 89, 90, 8, 91, 92, 93, 94, 95, 96, 97, 98, 99, 100, 101, 102, 103, 104, 105, 106] (by decide +kernel) (by decide +kernel)
set_option maxRecDepth 20000 in
theorem gX0_addFromBuffer_X0_putBehindLast : GoodIn wsX0_addFromBuffer (wsV RX0 78 RX0 yX0_putBehindLast wsX0_putBehindLast) := goodIn_app (goodIn_of _ (by decide +kernel)) ggX0_addFromBuffer_X0_putBehindLast
theorem dX0_addFromBuffer_0 : decode cX0_addFromBuffer 0 = .ok (.aload_n 0, 1) := by decide +kernel
theorem dX0_addFromBuffer_1 : decode cX0_addFromBuffer 1 = .ok (.invokevirtual 62, 3) := by decide +kernel
theorem dX0_addFromBuffer_4 : decode cX0_addFromBuffer 4 = .ok (.aload_n 0, 1) := by decide +kernel
theorem dX0_addFromBuffer_5 : decode cX0_addFromBuffer 5 = .ok (.getfield 41, 3) := by decide +kernel
theorem dX0_addFromBuffer_8 : decode cX0_addFromBuffer 8 = .ok (.i2l, 1) := by decide +kernel
theorem dX0_addFromBuffer_9 : decode cX0_addFromBuffer 9 = .ok (.lcmp, 1) := by decide +kernel
theorem dX0_addFromBuffer_10 : decode cX0_addFromBuffer 10 = .ok (.ifCond .ne 14, 3) := by decide +kernel
theorem dX0_addFromBuffer_13 : decode cX0_addFromBuffer 13 = .ok (.aload_n 0, 1) := by decide +kernel
theorem dX0_addFromBuffer_14 : decode cX0_addFromBuffer 14 = .ok (.aload_n 0, 1) := by decide +kernel
theorem dX0_addFromBuffer_15 : decode cX0_addFromBuffer 15 = .ok (.getfield 41, 3) := by decide +kernel
theorem dX0_addFromBuffer_18 : decode cX0_addFromBuffer 18 = .ok (.invokevirtual 66, 3) := by decide +kernel
theorem dX0_addFromBuffer_21 : decode cX0_addFromBuffer 21 = .ok (.ifCond .ne 7, 3) := by decide +kernel
theorem dX0_addFromBuffer_24 : decode cX0_addFromBuffer 24 = .ok (.ldc2_w 69, 3) := by decide +kernel
theorem dX0_addFromBuffer_27 : decode cX0_addFromBuffer 27 = .ok (.lreturn, 1) := by decide +kernel
theorem dX0_addFromBuffer_28 : decode cX0_addFromBuffer 28 = .ok (.aload_n 0, 1) := by decide +kernel
theorem dX0_addFromBuffer_29 : decode cX0_addFromBuffer 29 = .ok (.getfield 71, 3) := by decide +kernel
theorem dX0_addFromBuffer_32 : decode cX0_addFromBuffer 32 = .ok (.bipush 48, 2) := by decide +kernel
theorem dX0_addFromBuffer_34 : decode cX0_addFromBuffer 34 = .ok (.if_icmp .lt 7, 3) := by decide +kernel
theorem dX0_addFromBuffer_37 : decode cX0_addFromBuffer 37 = .ok (.ldc2_w 45, 3) := by decide +kernel
theorem dX0_addFromBuffer_40 : decode cX0_addFromBuffer 40 = .ok (.lreturn, 1) := by decide +kernel
theorem dX0_addFromBuffer_41 : decode cX0_addFromBuffer 41 = .ok (.aload_n 0, 1) := by decide +kernel
theorem dX0_addFromBuffer_42 : decode cX0_addFromBuffer 42 = .ok (.invokevirtual 47, 3) := by decide +kernel
theorem dX0_addFromBuffer_45 : decode cX0_addFromBuffer 45 = .ok (.istore_n 1, 1) := by decide +kernel
theorem dX0_addFromBuffer_46 : decode cX0_addFromBuffer 46 = .ok (.aload_n 0, 1) := by decide +kernel
theorem dX0_addFromBuffer_47 : decode cX0_addFromBuffer 47 = .ok (.aload_n 0, 1) := by decide +kernel
theorem dX0_addFromBuffer_48 : decode cX0_addFromBuffer 48 = .ok (.iload_n 1, 1) := by decide +kernel
theorem dX0_addFromBuffer_49 : decode cX0_addFromBuffer 49 = .ok (.invokevirtual 51, 3) := by decide +kernel
theorem dX0_addFromBuffer_52 : decode cX0_addFromBuffer 52 = .ok (.aload_n 0, 1) := by decide +kernel
theorem dX0_addFromBuffer_53 : decode cX0_addFromBuffer 53 = .ok (.getfield 41, 3) := by decide +kernel
theorem dX0_addFromBuffer_56 : decode cX0_addFromBuffer 56 = .ok (.invokevirtual 74, 3) := by decide +kernel
theorem dX0_addFromBuffer_59 : decode cX0_addFromBuffer 59 = .ok (.istore_n 2, 1) := by decide +kernel
theorem dX0_addFromBuffer_60 : decode cX0_addFromBuffer 60 = .ok (.aload_n 0, 1) := by decide +kernel
theorem dX0_addFromBuffer_61 : decode cX0_addFromBuffer 61 = .ok (.iconst 0, 1) := by decide +kernel
theorem dX0_addFromBuffer_62 : decode cX0_addFromBuffer 62 = .ok (.putfield 41, 3) := by decide +kernel
theorem dX0_addFromBuffer_65 : decode cX0_addFromBuffer 65 = .ok (.aload_n 0, 1) := by decide +kernel
theorem dX0_addFromBuffer_66 : decode cX0_addFromBuffer 66 = .ok (.iload_n 1, 1) := by decide +kernel
theorem dX0_addFromBuffer_67 : decode cX0_addFromBuffer 67 = .ok (.iload_n 2, 1) := by decide +kernel
theorem dX0_addFromBuffer_68 : decode cX0_addFromBuffer 68 = .ok (.invokevirtual 78, 3) := by decide +kernel
theorem dX0_addFromBuffer_71 : decode cX0_addFromBuffer 71 = .ok (.i2l, 1) := by decide +kernel
theorem dX0_addFromBuffer_72 : decode cX0_addFromBuffer 72 = .ok (.lreturn, 1) := by decide +kernel
set_option maxRecDepth 20000 in
theorem ggX0_pointInBuffer_X0_agreement : GoodIn wsX0_pointInBuffer wsX0_agreement := goodIn_r _ [5, 6, 7, 8, 9, 10, 4, 11, 12, 13, 14, 15, 16, 17, 18, 19, 20, 21, 22, 23, 24, 25, 26, 27, 28, 29, 30, 31, 32, 33, 34, 35, 36, 37, 38, 39, 40, 41, 42, 43, 44, 45, 46, 47, 48, 49, 50, 51, 52, 53, 54, 55, 56, 57, 58, 59, 60, 61, 62, 63, 64] (by decide +kernel) (by decide +kernel)
set_option maxRecDepth 20000 in
theorem gX0_pointInBuffer_X0_agreement : GoodIn wsX0_pointInBuffer (wsV RX0 51 RX0 yX0_agreement wsX0_agreement) := goodIn_app (goodIn_of _ (by decide +kernel)) ggX0_pointInBuffer_X0_agreement
theorem dX0_pointInBuffer_0 : decode cX0_pointInBuffer 0 = .ok (.iconst 0, 1) := by decide +kernel
theorem dX0_pointInBuffer_1 : decode cX0_pointInBuffer 1 = .ok (.istore_n 1, 1) := by decide +kernel
theorem dX0_pointInBuffer_2 : decode cX0_pointInBuffer 2 = .ok (.iconst 1, 1) := by decide +kernel
theorem dX0_pointInBuffer_3 : decode cX0_pointInBuffer 3 = .ok (.istore_n 2, 1) := by decide +kernel
theorem dX0_pointInBuffer_4 : decode cX0_pointInBuffer 4 = .ok (.iload_n 2, 1) := by decide +kernel
theorem dX0_pointInBuffer_5 : decode cX0_pointInBuffer 5 = .ok (.bipush 32, 2) := by decide +kernel
theorem dX0_pointInBuffer_7 : decode cX0_pointInBuffer 7 = .ok (.if_icmp .ge 24, 3) := by decide +kernel
theorem dX0_pointInBuffer_10 : decode cX0_pointInBuffer 10 = .ok (.aload_n 0, 1) := by decide +kernel
theorem dX0_pointInBuffer_11 : decode cX0_pointInBuffer 11 = .ok (.iload_n 2, 1) := by decide +kernel
theorem dX0_pointInBuffer_12 : decode cX0_pointInBuffer 12 = .ok (.invokevirtual 51, 3) := by decide +kernel
theorem dX0_pointInBuffer_15 : decode cX0_pointInBuffer 15 = .ok (.aload_n 0, 1) := by decide +kernel
theorem dX0_pointInBuffer_16 : decode cX0_pointInBuffer 16 = .ok (.iload_n 1, 1) := by decide +kernel
theorem dX0_pointInBuffer_17 : decode cX0_pointInBuffer 17 = .ok (.invokevirtual 51, 3) := by decide +kernel
theorem dX0_pointInBuffer_20 : decode cX0_pointInBuffer 20 = .ok (.if_icmp .le 5, 3) := by decide +kernel
theorem dX0_pointInBuffer_23 : decode cX0_pointInBuffer 23 = .ok (.iload_n 2, 1) := by decide +kernel
theorem dX0_pointInBuffer_24 : decode cX0_pointInBuffer 24 = .ok (.istore_n 1, 1) := by decide +kernel
theorem dX0_pointInBuffer_25 : decode cX0_pointInBuffer 25 = .ok (.iinc 2 1, 3) := by decide +kernel
theorem dX0_pointInBuffer_28 : decode cX0_pointInBuffer 28 = .ok (.goto (-24), 3) := by decide +kernel
theorem dX0_pointInBuffer_31 : decode cX0_pointInBuffer 31 = .ok (.iload_n 1, 1) := by decide +kernel
theorem dX0_pointInBuffer_32 : decode cX0_pointInBuffer 32 = .ok (.ireturn, 1) := by decide +kernel
set_option maxRecDepth 20000 in
theorem ggX0_agreement_X0_blankEnds : GoodIn wsX0_agreement wsX0_blankEnds := goodIn_r _ [7, 2, 49, 50, 51, 52, 53, 54, 55, 56, 57, 58, 59, 60] (by decide +kernel) (by decide +kernel)
set_option maxRecDepth 20000 in
theorem gX0_agreement_X0_blankEnds : GoodIn wsX0_agreement (wsV RX0 55 RX0 yX0_blankEnds wsX0_blankEnds) := goodIn_app (goodIn_of _ (by decide +kernel)) ggX0_agreement_X0_blankEnds
set_option maxRecDepth 20000 in
theorem ggX0_agreement_J0_charAt_5068e : GoodIn wsX0_agreement wsJ0_charAt_5068e := goodIn_r _ [12, 13, 14, 15, 16, 11, 17, 18, 19, 20, 21, 22, 23, 24, 25, 26, 27, 28, 29, 30, 31, 32, 33, 34, 35, 36, 37, 38, 39, 40, 41, 42, 43, 44, 45, 46, 47, 48] (by decide +kernel) (by decide +kernel)
set_option maxRecDepth 20000 in
theorem gX0_agreement_J0_charAt_5068e : GoodIn wsX0_agreement (wsV RX0 83 RJ0 yJ0_charAt_5068e wsJ0_charAt_5068e) := goodIn_app (goodIn_of _ (by decide +kernel)) ggX0_agreement_J0_charAt_5068e
theorem dX0_agreement_0 : decode cX0_agreement 0 = .ok (.iconst 0, 1) := by decide +kernel
theorem dX0_agreement_1 : decode cX0_agreement 1 = .ok (.istore_n 2, 1) := by decide +kernel
theorem dX0_agreement_2 : decode cX0_agreement 2 = .ok (.iload_n 2, 1) := by decide +kernel
theorem dX0_agreement_3 : decode cX0_agreement 3 = .ok (.aload_n 0, 1) := by decide +kernel
theorem dX0_agreement_4 : decode cX0_agreement 4 = .ok (.getfield 41, 3) := by decide +kernel
theorem dX0_agreement_7 : decode cX0_agreement 7 = .ok (.if_icmp .ge 41, 3) := by decide +kernel
theorem dX0_agreement_10 : decode cX0_agreement 10 = .ok (.iload_n 2, 1) := by decide +kernel
theorem dX0_agreement_11 : decode cX0_agreement 11 = .ok (.iconst 5, 1) := by decide +kernel
theorem dX0_agreement_12 : decode cX0_agreement 12 = .ok (.if_icmp .ge 36, 3) := by decide +kernel
theorem dX0_agreement_15 : decode cX0_agreement 15 = .ok (.aload_n 0, 1) := by decide +kernel
theorem dX0_agreement_16 : decode cX0_agreement 16 = .ok (.iload_n 2, 1) := by decide +kernel
theorem dX0_agreement_17 : decode cX0_agreement 17 = .ok (.invokevirtual 55, 3) := by decide +kernel
theorem dX0_agreement_20 : decode cX0_agreement 20 = .ok (.ifCond .ne 28, 3) := by decide +kernel
theorem dX0_agreement_23 : decode cX0_agreement 23 = .ok (.aload_n 0, 1) := by decide +kernel
theorem dX0_agreement_24 : decode cX0_agreement 24 = .ok (.getfield 9, 3) := by decide +kernel
theorem dX0_agreement_27 : decode cX0_agreement 27 = .ok (.iload_n 2, 1) := by decide +kernel
theorem dX0_agreement_28 : decode cX0_agreement 28 = .ok (.iaload, 1) := by decide +kernel
theorem dX0_agreement_29 : decode cX0_agreement 29 = .ok (.ldc 81, 2) := by decide +kernel
theorem dX0_agreement_31 : decode cX0_agreement 31 = .ok (.iconst 5, 1) := by decide +kernel
theorem dX0_agreement_32 : decode cX0_agreement 32 = .ok (.iload_n 1, 1) := by decide +kernel
theorem dX0_agreement_33 : decode cX0_agreement 33 = .ok (.imul, 1) := by decide +kernel
theorem dX0_agreement_34 : decode cX0_agreement 34 = .ok (.iload_n 2, 1) := by decide +kernel
theorem dX0_agreement_35 : decode cX0_agreement 35 = .ok (.iadd, 1) := by decide +kernel
theorem dX0_agreement_36 : decode cX0_agreement 36 = .ok (.invokevirtual 83, 3) := by decide +kernel
theorem dX0_agreement_39 : decode cX0_agreement 39 = .ok (.if_icmp .ne 9, 3) := by decide +kernel
theorem dX0_agreement_42 : decode cX0_agreement 42 = .ok (.iinc 2 1, 3) := by decide +kernel
theorem dX0_agreement_45 : decode cX0_agreement 45 = .ok (.goto (-43), 3) := by decide +kernel
theorem dX0_agreement_48 : decode cX0_agreement 48 = .ok (.iload_n 2, 1) := by decide +kernel
theorem dX0_agreement_49 : decode cX0_agreement 49 = .ok (.ireturn, 1) := by decide +kernel
set_option maxRecDepth 20000 in
theorem ggX0_speedEnd_X0_digitAllowed : GoodIn wsX0_speedEnd wsX0_digitAllowed := goodIn_r _ [6, 7, 8, 9, 5, 10, 11, 12, 13, 14, 15, 16, 17, 18, 19, 20, 21, 22, 23, 24, 25, 26, 27, 28, 29, 30] (by decide +kernel) (by decide +kernel)
set_option maxRecDepth 20000 in
theorem gX0_speedEnd_X0_digitAllowed : GoodIn wsX0_speedEnd (wsV RX0 89 RX0 yX0_digitAllowed wsX0_digitAllowed) := goodIn_app (goodIn_of _ (by decide +kernel)) ggX0_speedEnd_X0_digitAllowed
theorem dX0_speedEnd_0 : decode cX0_speedEnd 0 = .ok (.iload_n 1, 1) := by decide +kernel
theorem dX0_speedEnd_1 : decode cX0_speedEnd 1 = .ok (.istore_n 2, 1) := by decide +kernel
theorem dX0_speedEnd_2 : decode cX0_speedEnd 2 = .ok (.iload_n 2, 1) := by decide +kernel
theorem dX0_speedEnd_3 : decode cX0_speedEnd 3 = .ok (.aload_n 0, 1) := by decide +kernel
theorem dX0_speedEnd_4 : decode cX0_speedEnd 4 = .ok (.getfield 41, 3) := by decide +kernel
theorem dX0_speedEnd_7 : decode cX0_speedEnd 7 = .ok (.if_icmp .ge 18, 3) := by decide +kernel
theorem dX0_speedEnd_10 : decode cX0_speedEnd 10 = .ok (.aload_n 0, 1) := by decide +kernel
theorem dX0_speedEnd_11 : decode cX0_speedEnd 11 = .ok (.iload_n 1, 1) := by decide +kernel
theorem dX0_speedEnd_12 : decode cX0_speedEnd 12 = .ok (.iload_n 2, 1) := by decide +kernel
theorem dX0_speedEnd_13 : decode cX0_speedEnd 13 = .ok (.invokevirtual 89, 3) := by decide +kernel
theorem dX0_speedEnd_16 : decode cX0_speedEnd 16 = .ok (.ifCond .eq 9, 3) := by decide +kernel
theorem dX0_speedEnd_19 : decode cX0_speedEnd 19 = .ok (.iinc 2 1, 3) := by decide +kernel
theorem dX0_speedEnd_22 : decode cX0_speedEnd 22 = .ok (.goto (-20), 3) := by decide +kernel
theorem dX0_speedEnd_25 : decode cX0_speedEnd 25 = .ok (.iload_n 2, 1) := by decide +kernel
theorem dX0_speedEnd_26 : decode cX0_speedEnd 26 = .ok (.ireturn, 1) := by decide +kernel
set_option maxRecDepth 20000 in
theorem ggX0_digitAllowed_X0_digitEnds : GoodIn wsX0_digitAllowed wsX0_digitEnds := goodIn_r _ [5, 6, 7, 8, 4, 9, 14, 15, 16, 17, 18, 19, 20, 21, 22, 23, 24, 25] (by decide +kernel) (by decide +kernel)
set_option maxRecDepth 20000 in
theorem gX0_digitAllowed_X0_digitEnds : GoodIn wsX0_digitAllowed (wsV RX0 66 RX0 yX0_digitEnds wsX0_digitEnds) := goodIn_app (goodIn_of _ (by decide +kernel)) ggX0_digitAllowed_X0_digitEnds
set_option maxRecDepth 20000 in
theorem ggX0_digitAllowed_X0_number : GoodIn wsX0_digitAllowed wsX0_number := goodIn_r _ [13, 6, 14, 15, 16, 17, 18, 19, 20, 21, 22, 23, 24, 25] (by decide +kernel) (by decide +kernel)
set_option maxRecDepth 20000 in
theorem gX0_digitAllowed_X0_number : GoodIn wsX0_digitAllowed (wsV RX0 74 RX0 yX0_number wsX0_number) := goodIn_app (goodIn_of _ (by decide +kernel)) ggX0_digitAllowed_X0_number
theorem dX0_digitAllowed_0 : decode cX0_digitAllowed 0 = .ok (.aload_n 0, 1) := by decide +kernel
theorem dX0_digitAllowed_1 : decode cX0_digitAllowed 1 = .ok (.iload_n 2, 1) := by decide +kernel
theorem dX0_digitAllowed_2 : decode cX0_digitAllowed 2 = .ok (.iconst 1, 1) := by decide +kernel
theorem dX0_digitAllowed_3 : decode cX0_digitAllowed 3 = .ok (.iadd, 1) := by decide +kernel
theorem dX0_digitAllowed_4 : decode cX0_digitAllowed 4 = .ok (.invokevirtual 66, 3) := by decide +kernel
theorem dX0_digitAllowed_7 : decode cX0_digitAllowed 7 = .ok (.ifCond .ne 5, 3) := by decide +kernel
theorem dX0_digitAllowed_10 : decode cX0_digitAllowed 10 = .ok (.iconst 0, 1) := by decide +kernel
theorem dX0_digitAllowed_11 : decode cX0_digitAllowed 11 = .ok (.ireturn, 1) := by decide +kernel
theorem dX0_digitAllowed_12 : decode cX0_digitAllowed 12 = .ok (.iload_n 2, 1) := by decide +kernel
theorem dX0_digitAllowed_13 : decode cX0_digitAllowed 13 = .ok (.iload_n 1, 1) := by decide +kernel
theorem dX0_digitAllowed_14 : decode cX0_digitAllowed 14 = .ok (.if_icmp .eq 26, 3) := by decide +kernel
theorem dX0_digitAllowed_17 : decode cX0_digitAllowed 17 = .ok (.aload_n 0, 1) := by decide +kernel
theorem dX0_digitAllowed_18 : decode cX0_digitAllowed 18 = .ok (.iload_n 1, 1) := by decide +kernel
theorem dX0_digitAllowed_19 : decode cX0_digitAllowed 19 = .ok (.iload_n 2, 1) := by decide +kernel
theorem dX0_digitAllowed_20 : decode cX0_digitAllowed 20 = .ok (.invokevirtual 74, 3) := by decide +kernel
theorem dX0_digitAllowed_23 : decode cX0_digitAllowed 23 = .ok (.ifCond .eq 21, 3) := by decide +kernel
theorem dX0_digitAllowed_26 : decode cX0_digitAllowed 26 = .ok (.aload_n 0, 1) := by decide +kernel
theorem dX0_digitAllowed_27 : decode cX0_digitAllowed 27 = .ok (.iload_n 1, 1) := by decide +kernel
theorem dX0_digitAllowed_28 : decode cX0_digitAllowed 28 = .ok (.iload_n 2, 1) := by decide +kernel
theorem dX0_digitAllowed_29 : decode cX0_digitAllowed 29 = .ok (.iconst 1, 1) := by decide +kernel
theorem dX0_digitAllowed_30 : decode cX0_digitAllowed 30 = .ok (.iadd, 1) := by decide +kernel
theorem dX0_digitAllowed_31 : decode cX0_digitAllowed 31 = .ok (.invokevirtual 74, 3) := by decide +kernel
theorem dX0_digitAllowed_34 : decode cX0_digitAllowed 34 = .ok (.sipush 200, 3) := by decide +kernel
theorem dX0_digitAllowed_37 : decode cX0_digitAllowed 37 = .ok (.if_icmp .gt 7, 3) := by decide +kernel
theorem dX0_digitAllowed_40 : decode cX0_digitAllowed 40 = .ok (.iconst 1, 1) := by decide +kernel
theorem dX0_digitAllowed_41 : decode cX0_digitAllowed 41 = .ok (.goto 4, 3) := by decide +kernel
theorem dX0_digitAllowed_44 : decode cX0_digitAllowed 44 = .ok (.iconst 0, 1) := by decide +kernel
theorem dX0_digitAllowed_45 : decode cX0_digitAllowed 45 = .ok (.ireturn, 1) := by decide +kernel
theorem dX0_number_0 : decode cX0_number 0 = .ok (.iconst 0, 1) := by decide +kernel
theorem dX0_number_1 : decode cX0_number 1 = .ok (.istore_n 3, 1) := by decide +kernel
theorem dX0_number_2 : decode cX0_number 2 = .ok (.iload_n 1, 1) := by decide +kernel
theorem dX0_number_3 : decode cX0_number 3 = .ok (.istore 4, 2) := by decide +kernel
theorem dX0_number_5 : decode cX0_number 5 = .ok (.iload 4, 2) := by decide +kernel
theorem dX0_number_7 : decode cX0_number 7 = .ok (.iload_n 2, 1) := by decide +kernel
theorem dX0_number_8 : decode cX0_number 8 = .ok (.if_icmp .ge 25, 3) := by decide +kernel
theorem dX0_number_11 : decode cX0_number 11 = .ok (.bipush 10, 2) := by decide +kernel
theorem dX0_number_13 : decode cX0_number 13 = .ok (.iload_n 3, 1) := by decide +kernel
theorem dX0_number_14 : decode cX0_number 14 = .ok (.imul, 1) := by decide +kernel
theorem dX0_number_15 : decode cX0_number 15 = .ok (.aload_n 0, 1) := by decide +kernel
theorem dX0_number_16 : decode cX0_number 16 = .ok (.getfield 9, 3) := by decide +kernel
theorem dX0_number_19 : decode cX0_number 19 = .ok (.iload 4, 2) := by decide +kernel
theorem dX0_number_21 : decode cX0_number 21 = .ok (.iaload, 1) := by decide +kernel
theorem dX0_number_22 : decode cX0_number 22 = .ok (.iadd, 1) := by decide +kernel
theorem dX0_number_23 : decode cX0_number 23 = .ok (.bipush 48, 2) := by decide +kernel
theorem dX0_number_25 : decode cX0_number 25 = .ok (.isub, 1) := by decide +kernel
theorem dX0_number_26 : decode cX0_number 26 = .ok (.istore_n 3, 1) := by decide +kernel
theorem dX0_number_27 : decode cX0_number 27 = .ok (.iinc 4 1, 3) := by decide +kernel
theorem dX0_number_30 : decode cX0_number 30 = .ok (.goto (-25), 3) := by decide +kernel
theorem dX0_number_33 : decode cX0_number 33 = .ok (.iload_n 3, 1) := by decide +kernel
theorem dX0_number_34 : decode cX0_number 34 = .ok (.ireturn, 1) := by decide +kernel
theorem dX0_blankEnds_0 : decode cX0_blankEnds 0 = .ok (.iload_n 1, 1) := by decide +kernel
theorem dX0_blankEnds_1 : decode cX0_blankEnds 1 = .ok (.ifCond .le 20, 3) := by decide +kernel
theorem dX0_blankEnds_4 : decode cX0_blankEnds 4 = .ok (.aload_n 0, 1) := by decide +kernel
theorem dX0_blankEnds_5 : decode cX0_blankEnds 5 = .ok (.getfield 9, 3) := by decide +kernel
theorem dX0_blankEnds_8 : decode cX0_blankEnds 8 = .ok (.iload_n 1, 1) := by decide +kernel
theorem dX0_blankEnds_9 : decode cX0_blankEnds 9 = .ok (.iconst 1, 1) := by decide +kernel
theorem dX0_blankEnds_10 : decode cX0_blankEnds 10 = .ok (.isub, 1) := by decide +kernel
theorem dX0_blankEnds_11 : decode cX0_blankEnds 11 = .ok (.iaload, 1) := by decide +kernel
theorem dX0_blankEnds_12 : decode cX0_blankEnds 12 = .ok (.bipush 32, 2) := by decide +kernel
theorem dX0_blankEnds_14 : decode cX0_blankEnds 14 = .ok (.if_icmp .ne 7, 3) := by decide +kernel
theorem dX0_blankEnds_17 : decode cX0_blankEnds 17 = .ok (.iconst 1, 1) := by decide +kernel
theorem dX0_blankEnds_18 : decode cX0_blankEnds 18 = .ok (.goto 4, 3) := by decide +kernel
theorem dX0_blankEnds_21 : decode cX0_blankEnds 21 = .ok (.iconst 0, 1) := by decide +kernel
theorem dX0_blankEnds_22 : decode cX0_blankEnds 22 = .ok (.ireturn, 1) := by decide +kernel
set_option maxRecDepth 20000 in
theorem ggX0_digitEnds_X0_inRange : GoodIn wsX0_digitEnds wsX0_inRange := goodIn_r _ [5] (by decide +kernel) (by decide +kernel)
set_option maxRecDepth 20000 in
theorem gX0_digitEnds_X0_inRange : GoodIn wsX0_digitEnds (va_wsS RX0 35 yX0_inRange wsX0_inRange) := goodIn_app (goodIn_of _ (by decide +kernel)) ggX0_digitEnds_X0_inRange
theorem dX0_digitEnds_0 : decode cX0_digitEnds 0 = .ok (.iload_n 1, 1) := by decide +kernel
theorem dX0_digitEnds_1 : decode cX0_digitEnds 1 = .ok (.ifCond .le 25, 3) := by decide +kernel
theorem dX0_digitEnds_4 : decode cX0_digitEnds 4 = .ok (.aload_n 0, 1) := by decide +kernel
theorem dX0_digitEnds_5 : decode cX0_digitEnds 5 = .ok (.getfield 9, 3) := by decide +kernel
theorem dX0_digitEnds_8 : decode cX0_digitEnds 8 = .ok (.iload_n 1, 1) := by decide +kernel
theorem dX0_digitEnds_9 : decode cX0_digitEnds 9 = .ok (.iconst 1, 1) := by decide +kernel
theorem dX0_digitEnds_10 : decode cX0_digitEnds 10 = .ok (.isub, 1) := by decide +kernel
theorem dX0_digitEnds_11 : decode cX0_digitEnds 11 = .ok (.iaload, 1) := by decide +kernel
theorem dX0_digitEnds_12 : decode cX0_digitEnds 12 = .ok (.bipush 48, 2) := by decide +kernel
theorem dX0_digitEnds_14 : decode cX0_digitEnds 14 = .ok (.bipush 57, 2) := by decide +kernel
theorem dX0_digitEnds_16 : decode cX0_digitEnds 16 = .ok (.invokestatic 35, 3) := by decide +kernel
theorem dX0_digitEnds_19 : decode cX0_digitEnds 19 = .ok (.ifCond .eq 7, 3) := by decide +kernel
theorem dX0_digitEnds_22 : decode cX0_digitEnds 22 = .ok (.iconst 1, 1) := by decide +kernel
theorem dX0_digitEnds_23 : decode cX0_digitEnds 23 = .ok (.goto 4, 3) := by decide +kernel
theorem dX0_digitEnds_26 : decode cX0_digitEnds 26 = .ok (.iconst 0, 1) := by decide +kernel
theorem dX0_digitEnds_27 : decode cX0_digitEnds 27 = .ok (.ireturn, 1) := by decide +kernel
set_option maxRecDepth 20000 in
theorem ggX0_add_X0_isPoint : GoodIn wsX0_add wsX0_isPoint := goodIn_r _ [7, 8, 9, 6, 10] (by decide +kernel) (by decide +kernel)
set_option maxRecDepth 20000 in
theorem gX0_add_X0_isPoint : GoodIn wsX0_add (va_wsS RX0 93 yX0_isPoint wsX0_isPoint) := goodIn_app (goodIn_of _ (by decide +kernel)) ggX0_add_X0_isPoint
set_option maxRecDepth 20000 in
theorem ggX0_add_X0_isSpeed : GoodIn wsX0_add wsX0_isSpeed := goodIn_r _ [13, 8, 9, 6, 10] (by decide +kernel) (by decide +kernel)
set_option maxRecDepth 20000 in
theorem gX0_add_X0_isSpeed : GoodIn wsX0_add (va_wsS RX0 96 yX0_isSpeed wsX0_isSpeed) := goodIn_app (goodIn_of _ (by decide +kernel)) ggX0_add_X0_isSpeed
set_option maxRecDepth 20000 in
theorem ggX0_add_X0_putBehindLast : GoodIn wsX0_add wsX0_putBehindLast := goodIn_r _ [17, 2, 18, 19, 20, 21, 6, 22, 23, 24, 25, 26, 27, 28, 29, 30, 31, 32, 33, 34, 35, 36, 37] (by decide +kernel) (by decide +kernel)
set_option maxRecDepth 20000 in
theorem gX0_add_X0_putBehindLast : GoodIn wsX0_add (wsV RX0 78 RX0 yX0_putBehindLast wsX0_putBehindLast) := goodIn_app (goodIn_of _ (by decide +kernel)) ggX0_add_X0_putBehindLast
theorem dX0_add_0 : decode cX0_add 0 = .ok (.iload_n 1, 1) := by decide +kernel
theorem dX0_add_1 : decode cX0_add 1 = .ok (.invokestatic 93, 3) := by decide +kernel
theorem dX0_add_4 : decode cX0_add 4 = .ok (.ifCond .eq 10, 3) := by decide +kernel
theorem dX0_add_7 : decode cX0_add 7 = .ok (.iload_n 2, 1) := by decide +kernel
theorem dX0_add_8 : decode cX0_add 8 = .ok (.invokestatic 96, 3) := by decide +kernel
theorem dX0_add_11 : decode cX0_add 11 = .ok (.ifCond .ne 7, 3) := by decide +kernel
theorem dX0_add_14 : decode cX0_add 14 = .ok (.ldc2_w 39, 3) := by decide +kernel
theorem dX0_add_17 : decode cX0_add 17 = .ok (.lreturn, 1) := by decide +kernel
theorem dX0_add_18 : decode cX0_add 18 = .ok (.aload_n 0, 1) := by decide +kernel
theorem dX0_add_19 : decode cX0_add 19 = .ok (.getfield 71, 3) := by decide +kernel
theorem dX0_add_22 : decode cX0_add 22 = .ok (.bipush 48, 2) := by decide +kernel
theorem dX0_add_24 : decode cX0_add 24 = .ok (.if_icmp .lt 7, 3) := by decide +kernel
theorem dX0_add_27 : decode cX0_add 27 = .ok (.ldc2_w 45, 3) := by decide +kernel
theorem dX0_add_30 : decode cX0_add 30 = .ok (.lreturn, 1) := by decide +kernel
theorem dX0_add_31 : decode cX0_add 31 = .ok (.aload_n 0, 1) := by decide +kernel
theorem dX0_add_32 : decode cX0_add 32 = .ok (.iload_n 1, 1) := by decide +kernel
theorem dX0_add_33 : decode cX0_add 33 = .ok (.iload_n 2, 1) := by decide +kernel
theorem dX0_add_34 : decode cX0_add 34 = .ok (.invokevirtual 78, 3) := by decide +kernel
theorem dX0_add_37 : decode cX0_add 37 = .ok (.i2l, 1) := by decide +kernel
theorem dX0_add_38 : decode cX0_add 38 = .ok (.lreturn, 1) := by decide +kernel
set_option maxRecDepth 20000 in
theorem ggX0_replace_X0_pegExists : GoodIn wsX0_replace wsX0_pegExists := goodIn_r _ [8, 9, 10, 11, 7, 12, 25, 26, 27, 28, 29, 30, 31, 32, 33, 34, 35, 36] (by decide +kernel) (by decide +kernel)
set_option maxRecDepth 20000 in
theorem gX0_replace_X0_pegExists : GoodIn wsX0_replace (wsV RX0 99 RX0 yX0_pegExists wsX0_pegExists) := goodIn_app (goodIn_of _ (by decide +kernel)) ggX0_replace_X0_pegExists
set_option maxRecDepth 20000 in
theorem ggX0_replace_X0_isPoint : GoodIn wsX0_replace wsX0_isPoint := goodIn_r _ [15, 10, 11, 7, 12] (by decide +kernel) (by decide +kernel)
set_option maxRecDepth 20000 in
theorem gX0_replace_X0_isPoint : GoodIn wsX0_replace (va_wsS RX0 93 yX0_isPoint wsX0_isPoint) := goodIn_app (goodIn_of _ (by decide +kernel)) ggX0_replace_X0_isPoint
set_option maxRecDepth 20000 in
theorem ggX0_replace_X0_isSpeed : GoodIn wsX0_replace wsX0_isSpeed := goodIn_r _ [18, 10, 11, 7, 12] (by decide +kernel) (by decide +kernel)
set_option maxRecDepth 20000 in
theorem gX0_replace_X0_isSpeed : GoodIn wsX0_replace (va_wsS RX0 96 yX0_isSpeed wsX0_isSpeed) := goodIn_app (goodIn_of _ (by decide +kernel)) ggX0_replace_X0_isSpeed
set_option maxRecDepth 20000 in
theorem ggX0_replace_X0_put : GoodIn wsX0_replace wsX0_put := goodIn_r _ [22, 23, 24, 3, 25, 26, 27, 28, 29, 30, 31, 32, 33, 34, 35, 36] (by decide +kernel) (by decide +kernel)
set_option maxRecDepth 20000 in
theorem gX0_replace_X0_put : GoodIn wsX0_replace (wsV RX0 104 RX0 yX0_put wsX0_put) := goodIn_app (goodIn_of _ (by decide +kernel)) ggX0_replace_X0_put
theorem dX0_replace_0 : decode cX0_replace 0 = .ok (.aload_n 0, 1) := by decide +kernel
theorem dX0_replace_1 : decode cX0_replace 1 = .ok (.iload_n 1, 1) := by decide +kernel
theorem dX0_replace_2 : decode cX0_replace 2 = .ok (.invokevirtual 99, 3) := by decide +kernel
theorem dX0_replace_5 : decode cX0_replace 5 = .ok (.ifCond .ne 7, 3) := by decide +kernel
theorem dX0_replace_8 : decode cX0_replace 8 = .ok (.ldc2_w 102, 3) := by decide +kernel
theorem dX0_replace_11 : decode cX0_replace 11 = .ok (.lreturn, 1) := by decide +kernel
theorem dX0_replace_12 : decode cX0_replace 12 = .ok (.iload_n 2, 1) := by decide +kernel
theorem dX0_replace_13 : decode cX0_replace 13 = .ok (.invokestatic 93, 3) := by decide +kernel
theorem dX0_replace_16 : decode cX0_replace 16 = .ok (.ifCond .eq 10, 3) := by decide +kernel
theorem dX0_replace_19 : decode cX0_replace 19 = .ok (.iload_n 3, 1) := by decide +kernel
theorem dX0_replace_20 : decode cX0_replace 20 = .ok (.invokestatic 96, 3) := by decide +kernel
theorem dX0_replace_23 : decode cX0_replace 23 = .ok (.ifCond .ne 7, 3) := by decide +kernel
theorem dX0_replace_26 : decode cX0_replace 26 = .ok (.ldc2_w 39, 3) := by decide +kernel
theorem dX0_replace_29 : decode cX0_replace 29 = .ok (.lreturn, 1) := by decide +kernel
theorem dX0_replace_30 : decode cX0_replace 30 = .ok (.aload_n 0, 1) := by decide +kernel
theorem dX0_replace_31 : decode cX0_replace 31 = .ok (.getfield 22, 3) := by decide +kernel
theorem dX0_replace_34 : decode cX0_replace 34 = .ok (.iload_n 1, 1) := by decide +kernel
theorem dX0_replace_35 : decode cX0_replace 35 = .ok (.baload, 1) := by decide +kernel
theorem dX0_replace_36 : decode cX0_replace 36 = .ok (.istore 4, 2) := by decide +kernel
theorem dX0_replace_38 : decode cX0_replace 38 = .ok (.aload_n 0, 1) := by decide +kernel
theorem dX0_replace_39 : decode cX0_replace 39 = .ok (.iload_n 1, 1) := by decide +kernel
theorem dX0_replace_40 : decode cX0_replace 40 = .ok (.iload_n 2, 1) := by decide +kernel
theorem dX0_replace_41 : decode cX0_replace 41 = .ok (.iload_n 3, 1) := by decide +kernel
theorem dX0_replace_42 : decode cX0_replace 42 = .ok (.invokevirtual 104, 3) := by decide +kernel
theorem dX0_replace_45 : decode cX0_replace 45 = .ok (.iload 4, 2) := by decide +kernel
theorem dX0_replace_47 : decode cX0_replace 47 = .ok (.ifCond .eq 7, 3) := by decide +kernel
theorem dX0_replace_50 : decode cX0_replace 50 = .ok (.lconst 1, 1) := by decide +kernel
theorem dX0_replace_51 : decode cX0_replace 51 = .ok (.goto 4, 3) := by decide +kernel
theorem dX0_replace_54 : decode cX0_replace 54 = .ok (.lconst 0, 1) := by decide +kernel
theorem dX0_replace_55 : decode cX0_replace 55 = .ok (.lreturn, 1) := by decide +kernel
theorem dX0_removeLast_0 : decode cX0_removeLast 0 = .ok (.aload_n 0, 1) := by decide +kernel
theorem dX0_removeLast_1 : decode cX0_removeLast 1 = .ok (.getfield 71, 3) := by decide +kernel
theorem dX0_removeLast_4 : decode cX0_removeLast 4 = .ok (.ifCond .gt 7, 3) := by decide +kernel
theorem dX0_removeLast_7 : decode cX0_removeLast 7 = .ok (.ldc2_w 108, 3) := by decide +kernel
theorem dX0_removeLast_10 : decode cX0_removeLast 10 = .ok (.lreturn, 1) := by decide +kernel
theorem dX0_removeLast_11 : decode cX0_removeLast 11 = .ok (.aload_n 0, 1) := by decide +kernel
theorem dX0_removeLast_12 : decode cX0_removeLast 12 = .ok (.getfield 26, 3) := by decide +kernel
theorem dX0_removeLast_15 : decode cX0_removeLast 15 = .ok (.aload_n 0, 1) := by decide +kernel
theorem dX0_removeLast_16 : decode cX0_removeLast 16 = .ok (.getfield 71, 3) := by decide +kernel
theorem dX0_removeLast_19 : decode cX0_removeLast 19 = .ok (.iconst 0, 1) := by decide +kernel
theorem dX0_removeLast_20 : decode cX0_removeLast 20 = .ok (.bastore, 1) := by decide +kernel
theorem dX0_removeLast_21 : decode cX0_removeLast 21 = .ok (.aload_n 0, 1) := by decide +kernel
theorem dX0_removeLast_22 : decode cX0_removeLast 22 = .ok (.dup, 1) := by decide +kernel
theorem dX0_removeLast_23 : decode cX0_removeLast 23 = .ok (.getfield 71, 3) := by decide +kernel
theorem dX0_removeLast_26 : decode cX0_removeLast 26 = .ok (.iconst 1, 1) := by decide +kernel
theorem dX0_removeLast_27 : decode cX0_removeLast 27 = .ok (.isub, 1) := by decide +kernel
theorem dX0_removeLast_28 : decode cX0_removeLast 28 = .ok (.putfield 71, 3) := by decide +kernel
theorem dX0_removeLast_31 : decode cX0_removeLast 31 = .ok (.aload_n 0, 1) := by decide +kernel
theorem dX0_removeLast_32 : decode cX0_removeLast 32 = .ok (.getfield 71, 3) := by decide +kernel
theorem dX0_removeLast_35 : decode cX0_removeLast 35 = .ok (.i2l, 1) := by decide +kernel
theorem dX0_removeLast_36 : decode cX0_removeLast 36 = .ok (.lreturn, 1) := by decide +kernel
set_option maxRecDepth 20000 in
theorem ggX0_lose_X0_pegExists : GoodIn wsX0_lose wsX0_pegExists := goodIn_r _ [9, 4, 10, 11, 8, 12, 17, 18, 19, 20, 21, 22, 23, 24, 25, 26, 27, 28] (by decide +kernel) (by decide +kernel)
set_option maxRecDepth 20000 in
theorem gX0_lose_X0_pegExists : GoodIn wsX0_lose (wsV RX0 99 RX0 yX0_pegExists wsX0_pegExists) := goodIn_app (goodIn_of _ (by decide +kernel)) ggX0_lose_X0_pegExists
set_option maxRecDepth 20000 in
theorem ggX0_lose_X0_lostCount : GoodIn wsX0_lose wsX0_lostCount := goodIn_r _ [16, 2, 17, 18, 19, 20, 21, 22, 23, 24, 25, 26, 27, 28] (by decide +kernel) (by decide +kernel)
set_option maxRecDepth 20000 in
theorem gX0_lose_X0_lostCount : GoodIn wsX0_lose (wsV RX0 112 RX0 yX0_lostCount wsX0_lostCount) := goodIn_app (goodIn_of _ (by decide +kernel)) ggX0_lose_X0_lostCount
theorem dX0_lose_0 : decode cX0_lose 0 = .ok (.aload_n 0, 1) := by decide +kernel
theorem dX0_lose_1 : decode cX0_lose 1 = .ok (.iload_n 1, 1) := by decide +kernel
theorem dX0_lose_2 : decode cX0_lose 2 = .ok (.invokevirtual 99, 3) := by decide +kernel
theorem dX0_lose_5 : decode cX0_lose 5 = .ok (.ifCond .ne 7, 3) := by decide +kernel
theorem dX0_lose_8 : decode cX0_lose 8 = .ok (.ldc2_w 102, 3) := by decide +kernel
theorem dX0_lose_11 : decode cX0_lose 11 = .ok (.lreturn, 1) := by decide +kernel
theorem dX0_lose_12 : decode cX0_lose 12 = .ok (.aload_n 0, 1) := by decide +kernel
theorem dX0_lose_13 : decode cX0_lose 13 = .ok (.getfield 22, 3) := by decide +kernel
theorem dX0_lose_16 : decode cX0_lose 16 = .ok (.iload_n 1, 1) := by decide +kernel
theorem dX0_lose_17 : decode cX0_lose 17 = .ok (.baload, 1) := by decide +kernel
theorem dX0_lose_18 : decode cX0_lose 18 = .ok (.ifCond .eq 7, 3) := by decide +kernel
theorem dX0_lose_21 : decode cX0_lose 21 = .ok (.ldc2_w 110, 3) := by decide +kernel
theorem dX0_lose_24 : decode cX0_lose 24 = .ok (.lreturn, 1) := by decide +kernel
theorem dX0_lose_25 : decode cX0_lose 25 = .ok (.aload_n 0, 1) := by decide +kernel
theorem dX0_lose_26 : decode cX0_lose 26 = .ok (.getfield 22, 3) := by decide +kernel
theorem dX0_lose_29 : decode cX0_lose 29 = .ok (.iload_n 1, 1) := by decide +kernel
theorem dX0_lose_30 : decode cX0_lose 30 = .ok (.iconst 1, 1) := by decide +kernel
theorem dX0_lose_31 : decode cX0_lose 31 = .ok (.bastore, 1) := by decide +kernel
theorem dX0_lose_32 : decode cX0_lose 32 = .ok (.aload_n 0, 1) := by decide +kernel
theorem dX0_lose_33 : decode cX0_lose 33 = .ok (.iconst 0, 1) := by decide +kernel
theorem dX0_lose_34 : decode cX0_lose 34 = .ok (.aload_n 0, 1) := by decide +kernel
theorem dX0_lose_35 : decode cX0_lose 35 = .ok (.getfield 71, 3) := by decide +kernel
theorem dX0_lose_38 : decode cX0_lose 38 = .ok (.invokevirtual 112, 3) := by decide +kernel
theorem dX0_lose_41 : decode cX0_lose 41 = .ok (.i2l, 1) := by decide +kernel
theorem dX0_lose_42 : decode cX0_lose 42 = .ok (.lreturn, 1) := by decide +kernel
set_option maxRecDepth 20000 in
theorem ggX0_setLeeway_X0_pegExists : GoodIn wsX0_setLeeway wsX0_pegExists := goodIn_r _ [8, 9, 10, 11, 7, 12, 13, 14, 15, 16, 17, 18, 19, 20, 21, 22, 23, 24] (by decide +kernel) (by decide +kernel)
set_option maxRecDepth 20000 in
theorem gX0_setLeeway_X0_pegExists : GoodIn wsX0_setLeeway (wsV RX0 99 RX0 yX0_pegExists wsX0_pegExists) := goodIn_app (goodIn_of _ (by decide +kernel)) ggX0_setLeeway_X0_pegExists
set_option maxRecDepth 20000 in
theorem ggX0_setLeeway_X0_inRange : GoodIn wsX0_setLeeway wsX0_inRange := goodIn_r _ [12] (by decide +kernel) (by decide +kernel)
set_option maxRecDepth 20000 in
theorem gX0_setLeeway_X0_inRange : GoodIn wsX0_setLeeway (va_wsS RX0 35 yX0_inRange wsX0_inRange) := goodIn_app (goodIn_of _ (by decide +kernel)) ggX0_setLeeway_X0_inRange
theorem dX0_setLeeway_0 : decode cX0_setLeeway 0 = .ok (.aload_n 0, 1) := by decide +kernel
theorem dX0_setLeeway_1 : decode cX0_setLeeway 1 = .ok (.iload_n 1, 1) := by decide +kernel
theorem dX0_setLeeway_2 : decode cX0_setLeeway 2 = .ok (.invokevirtual 99, 3) := by decide +kernel
theorem dX0_setLeeway_5 : decode cX0_setLeeway 5 = .ok (.ifCond .ne 7, 3) := by decide +kernel
theorem dX0_setLeeway_8 : decode cX0_setLeeway 8 = .ok (.ldc2_w 102, 3) := by decide +kernel
theorem dX0_setLeeway_11 : decode cX0_setLeeway 11 = .ok (.lreturn, 1) := by decide +kernel
theorem dX0_setLeeway_12 : decode cX0_setLeeway 12 = .ok (.iload_n 2, 1) := by decide +kernel
theorem dX0_setLeeway_13 : decode cX0_setLeeway 13 = .ok (.bipush (-2), 2) := by decide +kernel
theorem dX0_setLeeway_15 : decode cX0_setLeeway 15 = .ok (.iconst 2, 1) := by decide +kernel
theorem dX0_setLeeway_16 : decode cX0_setLeeway 16 = .ok (.invokestatic 35, 3) := by decide +kernel
theorem dX0_setLeeway_19 : decode cX0_setLeeway 19 = .ok (.ifCond .ne 7, 3) := by decide +kernel
theorem dX0_setLeeway_22 : decode cX0_setLeeway 22 = .ok (.ldc2_w 39, 3) := by decide +kernel
theorem dX0_setLeeway_25 : decode cX0_setLeeway 25 = .ok (.lreturn, 1) := by decide +kernel
theorem dX0_setLeeway_26 : decode cX0_setLeeway 26 = .ok (.aload_n 0, 1) := by decide +kernel
theorem dX0_setLeeway_27 : decode cX0_setLeeway 27 = .ok (.getfield 19, 3) := by decide +kernel
theorem dX0_setLeeway_30 : decode cX0_setLeeway 30 = .ok (.iload_n 1, 1) := by decide +kernel
theorem dX0_setLeeway_31 : decode cX0_setLeeway 31 = .ok (.iaload, 1) := by decide +kernel
theorem dX0_setLeeway_32 : decode cX0_setLeeway 32 = .ok (.istore_n 3, 1) := by decide +kernel
theorem dX0_setLeeway_33 : decode cX0_setLeeway 33 = .ok (.aload_n 0, 1) := by decide +kernel
theorem dX0_setLeeway_34 : decode cX0_setLeeway 34 = .ok (.getfield 19, 3) := by decide +kernel
theorem dX0_setLeeway_37 : decode cX0_setLeeway 37 = .ok (.iload_n 1, 1) := by decide +kernel
theorem dX0_setLeeway_38 : decode cX0_setLeeway 38 = .ok (.iload_n 2, 1) := by decide +kernel
theorem dX0_setLeeway_39 : decode cX0_setLeeway 39 = .ok (.iastore, 1) := by decide +kernel
theorem dX0_setLeeway_40 : decode cX0_setLeeway 40 = .ok (.iload_n 3, 1) := by decide +kernel
theorem dX0_setLeeway_41 : decode cX0_setLeeway 41 = .ok (.i2l, 1) := by decide +kernel
theorem dX0_setLeeway_42 : decode cX0_setLeeway 42 = .ok (.lreturn, 1) := by decide +kernel
set_option maxRecDepth 20000 in
theorem ggX0_setCurrent_X0_isPoint : GoodIn wsX0_setCurrent wsX0_isPoint := goodIn_r _ [7, 8, 9, 6, 10] (by decide +kernel) (by decide +kernel)
set_option maxRecDepth 20000 in
theorem gX0_setCurrent_X0_isPoint : GoodIn wsX0_setCurrent (va_wsS RX0 93 yX0_isPoint wsX0_isPoint) := goodIn_app (goodIn_of _ (by decide +kernel)) ggX0_setCurrent_X0_isPoint
set_option maxRecDepth 20000 in
theorem ggX0_setCurrent_X0_inRange : GoodIn wsX0_setCurrent wsX0_inRange := goodIn_r _ [10] (by decide +kernel) (by decide +kernel)
set_option maxRecDepth 20000 in
theorem gX0_setCurrent_X0_inRange : GoodIn wsX0_setCurrent (va_wsS RX0 35 yX0_inRange wsX0_inRange) := goodIn_app (goodIn_of _ (by decide +kernel)) ggX0_setCurrent_X0_inRange
theorem dX0_setCurrent_0 : decode cX0_setCurrent 0 = .ok (.iload_n 1, 1) := by decide +kernel
theorem dX0_setCurrent_1 : decode cX0_setCurrent 1 = .ok (.invokestatic 93, 3) := by decide +kernel
theorem dX0_setCurrent_4 : decode cX0_setCurrent 4 = .ok (.ifCond .eq 13, 3) := by decide +kernel
theorem dX0_setCurrent_7 : decode cX0_setCurrent 7 = .ok (.iload_n 2, 1) := by decide +kernel
theorem dX0_setCurrent_8 : decode cX0_setCurrent 8 = .ok (.iconst 0, 1) := by decide +kernel
theorem dX0_setCurrent_9 : decode cX0_setCurrent 9 = .ok (.bipush 50, 2) := by decide +kernel
theorem dX0_setCurrent_11 : decode cX0_setCurrent 11 = .ok (.invokestatic 35, 3) := by decide +kernel
theorem dX0_setCurrent_14 : decode cX0_setCurrent 14 = .ok (.ifCond .ne 7, 3) := by decide +kernel
theorem dX0_setCurrent_17 : decode cX0_setCurrent 17 = .ok (.ldc2_w 39, 3) := by decide +kernel
theorem dX0_setCurrent_20 : decode cX0_setCurrent 20 = .ok (.lreturn, 1) := by decide +kernel
theorem dX0_setCurrent_21 : decode cX0_setCurrent 21 = .ok (.aload_n 0, 1) := by decide +kernel
theorem dX0_setCurrent_22 : decode cX0_setCurrent 22 = .ok (.getfield 115, 3) := by decide +kernel
theorem dX0_setCurrent_25 : decode cX0_setCurrent 25 = .ok (.istore_n 3, 1) := by decide +kernel
theorem dX0_setCurrent_26 : decode cX0_setCurrent 26 = .ok (.aload_n 0, 1) := by decide +kernel
theorem dX0_setCurrent_27 : decode cX0_setCurrent 27 = .ok (.iload_n 1, 1) := by decide +kernel
theorem dX0_setCurrent_28 : decode cX0_setCurrent 28 = .ok (.putfield 118, 3) := by decide +kernel
theorem dX0_setCurrent_31 : decode cX0_setCurrent 31 = .ok (.aload_n 0, 1) := by decide +kernel
theorem dX0_setCurrent_32 : decode cX0_setCurrent 32 = .ok (.iload_n 2, 1) := by decide +kernel
theorem dX0_setCurrent_33 : decode cX0_setCurrent 33 = .ok (.putfield 115, 3) := by decide +kernel
theorem dX0_setCurrent_36 : decode cX0_setCurrent 36 = .ok (.iload_n 3, 1) := by decide +kernel
theorem dX0_setCurrent_37 : decode cX0_setCurrent 37 = .ok (.i2l, 1) := by decide +kernel
theorem dX0_setCurrent_38 : decode cX0_setCurrent 38 = .ok (.lreturn, 1) := by decide +kernel
theorem dX0_pegCount_0 : decode cX0_pegCount 0 = .ok (.aload_n 0, 1) := by decide +kernel
theorem dX0_pegCount_1 : decode cX0_pegCount 1 = .ok (.getfield 71, 3) := by decide +kernel
theorem dX0_pegCount_4 : decode cX0_pegCount 4 = .ok (.i2l, 1) := by decide +kernel
theorem dX0_pegCount_5 : decode cX0_pegCount 5 = .ok (.lreturn, 1) := by decide +kernel
set_option maxRecDepth 20000 in
theorem ggX0_pointOf_X0_pegExists : GoodIn wsX0_pointOf wsX0_pegExists := goodIn_r _ [9, 10, 11, 12, 8, 13, 14, 15, 16, 17, 18, 19, 20, 21, 22, 23, 24, 25] (by decide +kernel) (by decide +kernel)
set_option maxRecDepth 20000 in
theorem gX0_pointOf_X0_pegExists : GoodIn wsX0_pointOf (wsV RX0 99 RX0 yX0_pegExists wsX0_pegExists) := goodIn_app (goodIn_of _ (by decide +kernel)) ggX0_pointOf_X0_pegExists
theorem dX0_pointOf_0 : decode cX0_pointOf 0 = .ok (.aload_n 0, 1) := by decide +kernel
theorem dX0_pointOf_1 : decode cX0_pointOf 1 = .ok (.iload_n 1, 1) := by decide +kernel
theorem dX0_pointOf_2 : decode cX0_pointOf 2 = .ok (.invokevirtual 99, 3) := by decide +kernel
theorem dX0_pointOf_5 : decode cX0_pointOf 5 = .ok (.ifCond .ne 7, 3) := by decide +kernel
theorem dX0_pointOf_8 : decode cX0_pointOf 8 = .ok (.ldc2_w 102, 3) := by decide +kernel
theorem dX0_pointOf_11 : decode cX0_pointOf 11 = .ok (.lreturn, 1) := by decide +kernel
theorem dX0_pointOf_12 : decode cX0_pointOf 12 = .ok (.aload_n 0, 1) := by decide +kernel
theorem dX0_pointOf_13 : decode cX0_pointOf 13 = .ok (.getfield 22, 3) := by decide +kernel
theorem dX0_pointOf_16 : decode cX0_pointOf 16 = .ok (.iload_n 1, 1) := by decide +kernel
theorem dX0_pointOf_17 : decode cX0_pointOf 17 = .ok (.baload, 1) := by decide +kernel
theorem dX0_pointOf_18 : decode cX0_pointOf 18 = .ok (.ifCond .eq 9, 3) := by decide +kernel
theorem dX0_pointOf_21 : decode cX0_pointOf 21 = .ok (.ldc2_w 110, 3) := by decide +kernel
theorem dX0_pointOf_24 : decode cX0_pointOf 24 = .ok (.goto 10, 3) := by decide +kernel
theorem dX0_pointOf_27 : decode cX0_pointOf 27 = .ok (.aload_n 0, 1) := by decide +kernel
theorem dX0_pointOf_28 : decode cX0_pointOf 28 = .ok (.getfield 13, 3) := by decide +kernel
theorem dX0_pointOf_31 : decode cX0_pointOf 31 = .ok (.iload_n 1, 1) := by decide +kernel
theorem dX0_pointOf_32 : decode cX0_pointOf 32 = .ok (.iaload, 1) := by decide +kernel
