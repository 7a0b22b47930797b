theorem dX0_pointOf_33 : decode cX0_pointOf 33 = .ok (.i2l, 1) := by decide +kernel
theorem dX0_pointOf_34 : decode cX0_pointOf 34 = .ok (.lreturn, 1) := by decide +kernel
set_option maxRecDepth 20000 in
theorem ggX0_speedOf_X0_pegExists : GoodIn wsX0_speedOf wsX0_pegExists := goodIn_r _ [9, 10, 11, 12, 8, 13, 14, 15, 16, 17, 18, 19, 20, 21, 22, 23, 24, 25] (by decide +kernel) (by decide +kernel)
set_option maxRecDepth 20000 in
theorem gX0_speedOf_X0_pegExists : GoodIn wsX0_speedOf (wsV RX0 99 RX0 yX0_pegExists wsX0_pegExists) := goodIn_app (goodIn_of _ (by decide +kernel)) ggX0_speedOf_X0_pegExists
theorem dX0_speedOf_0 : decode cX0_speedOf 0 = .ok (.aload_n 0, 1) := by decide +kernel
theorem dX0_speedOf_1 : decode cX0_speedOf 1 = .ok (.iload_n 1, 1) := by decide +kernel
theorem dX0_speedOf_2 : decode cX0_speedOf 2 = .ok (.invokevirtual 99, 3) := by decide +kernel
theorem dX0_speedOf_5 : decode cX0_speedOf 5 = .ok (.ifCond .ne 7, 3) := by decide +kernel
theorem dX0_speedOf_8 : decode cX0_speedOf 8 = .ok (.ldc2_w 102, 3) := by decide +kernel
theorem dX0_speedOf_11 : decode cX0_speedOf 11 = .ok (.lreturn, 1) := by decide +kernel
theorem dX0_speedOf_12 : decode cX0_speedOf 12 = .ok (.aload_n 0, 1) := by decide +kernel
theorem dX0_speedOf_13 : decode cX0_speedOf 13 = .ok (.getfield 22, 3) := by decide +kernel
theorem dX0_speedOf_16 : decode cX0_speedOf 16 = .ok (.iload_n 1, 1) := by decide +kernel
theorem dX0_speedOf_17 : decode cX0_speedOf 17 = .ok (.baload, 1) := by decide +kernel
theorem dX0_speedOf_18 : decode cX0_speedOf 18 = .ok (.ifCond .eq 9, 3) := by decide +kernel
theorem dX0_speedOf_21 : decode cX0_speedOf 21 = .ok (.ldc2_w 110, 3) := by decide +kernel
theorem dX0_speedOf_24 : decode cX0_speedOf 24 = .ok (.goto 10, 3) := by decide +kernel
theorem dX0_speedOf_27 : decode cX0_speedOf 27 = .ok (.aload_n 0, 1) := by decide +kernel
theorem dX0_speedOf_28 : decode cX0_speedOf 28 = .ok (.getfield 16, 3) := by decide +kernel
theorem dX0_speedOf_31 : decode cX0_speedOf 31 = .ok (.iload_n 1, 1) := by decide +kernel
theorem dX0_speedOf_32 : decode cX0_speedOf 32 = .ok (.iaload, 1) := by decide +kernel
theorem dX0_speedOf_33 : decode cX0_speedOf 33 = .ok (.i2l, 1) := by decide +kernel
theorem dX0_speedOf_34 : decode cX0_speedOf 34 = .ok (.lreturn, 1) := by decide +kernel
set_option maxRecDepth 20000 in
theorem ggX0_speedTowards_X0_isPoint : GoodIn wsX0_speedTowards wsX0_isPoint := goodIn_r _ [9, 10, 11, 8, 12] (by decide +kernel) (by decide +kernel)
set_option maxRecDepth 20000 in
theorem gX0_speedTowards_X0_isPoint : GoodIn wsX0_speedTowards (va_wsS RX0 93 yX0_isPoint wsX0_isPoint) := goodIn_app (goodIn_of _ (by decide +kernel)) ggX0_speedTowards_X0_isPoint
theorem dX0_speedTowards_0 : decode cX0_speedTowards 0 = .ok (.iload_n 1, 1) := by decide +kernel
theorem dX0_speedTowards_1 : decode cX0_speedTowards 1 = .ok (.invokestatic 93, 3) := by decide +kernel
theorem dX0_speedTowards_4 : decode cX0_speedTowards 4 = .ok (.ifCond .ne 7, 3) := by decide +kernel
theorem dX0_speedTowards_7 : decode cX0_speedTowards 7 = .ok (.ldc2_w 39, 3) := by decide +kernel
theorem dX0_speedTowards_10 : decode cX0_speedTowards 10 = .ok (.lreturn, 1) := by decide +kernel
theorem dX0_speedTowards_11 : decode cX0_speedTowards 11 = .ok (.iconst 0, 1) := by decide +kernel
theorem dX0_speedTowards_12 : decode cX0_speedTowards 12 = .ok (.istore_n 2, 1) := by decide +kernel
theorem dX0_speedTowards_13 : decode cX0_speedTowards 13 = .ok (.iconst 0, 1) := by decide +kernel
theorem dX0_speedTowards_14 : decode cX0_speedTowards 14 = .ok (.istore_n 3, 1) := by decide +kernel
theorem dX0_speedTowards_15 : decode cX0_speedTowards 15 = .ok (.iload_n 3, 1) := by decide +kernel
theorem dX0_speedTowards_16 : decode cX0_speedTowards 16 = .ok (.aload_n 0, 1) := by decide +kernel
theorem dX0_speedTowards_17 : decode cX0_speedTowards 17 = .ok (.getfield 71, 3) := by decide +kernel
theorem dX0_speedTowards_20 : decode cX0_speedTowards 20 = .ok (.if_icmp .ge 37, 3) := by decide +kernel
theorem dX0_speedTowards_23 : decode cX0_speedTowards 23 = .ok (.aload_n 0, 1) := by decide +kernel
theorem dX0_speedTowards_24 : decode cX0_speedTowards 24 = .ok (.getfield 22, 3) := by decide +kernel
theorem dX0_speedTowards_27 : decode cX0_speedTowards 27 = .ok (.iload_n 3, 1) := by decide +kernel
theorem dX0_speedTowards_28 : decode cX0_speedTowards 28 = .ok (.baload, 1) := by decide +kernel
theorem dX0_speedTowards_29 : decode cX0_speedTowards 29 = .ok (.ifCond .ne 22, 3) := by decide +kernel
theorem dX0_speedTowards_32 : decode cX0_speedTowards 32 = .ok (.aload_n 0, 1) := by decide +kernel
theorem dX0_speedTowards_33 : decode cX0_speedTowards 33 = .ok (.getfield 13, 3) := by decide +kernel
theorem dX0_speedTowards_36 : decode cX0_speedTowards 36 = .ok (.iload_n 3, 1) := by decide +kernel
theorem dX0_speedTowards_37 : decode cX0_speedTowards 37 = .ok (.iaload, 1) := by decide +kernel
theorem dX0_speedTowards_38 : decode cX0_speedTowards 38 = .ok (.iload_n 1, 1) := by decide +kernel
theorem dX0_speedTowards_39 : decode cX0_speedTowards 39 = .ok (.if_icmp .ne 12, 3) := by decide +kernel
theorem dX0_speedTowards_42 : decode cX0_speedTowards 42 = .ok (.iload_n 2, 1) := by decide +kernel
theorem dX0_speedTowards_43 : decode cX0_speedTowards 43 = .ok (.aload_n 0, 1) := by decide +kernel
theorem dX0_speedTowards_44 : decode cX0_speedTowards 44 = .ok (.getfield 16, 3) := by decide +kernel
theorem dX0_speedTowards_47 : decode cX0_speedTowards 47 = .ok (.iload_n 3, 1) := by decide +kernel
theorem dX0_speedTowards_48 : decode cX0_speedTowards 48 = .ok (.iaload, 1) := by decide +kernel
theorem dX0_speedTowards_49 : decode cX0_speedTowards 49 = .ok (.iadd, 1) := by decide +kernel
theorem dX0_speedTowards_50 : decode cX0_speedTowards 50 = .ok (.istore_n 2, 1) := by decide +kernel
theorem dX0_speedTowards_51 : decode cX0_speedTowards 51 = .ok (.iinc 3 1, 3) := by decide +kernel
theorem dX0_speedTowards_54 : decode cX0_speedTowards 54 = .ok (.goto (-39), 3) := by decide +kernel
theorem dX0_speedTowards_57 : decode cX0_speedTowards 57 = .ok (.iload_n 2, 1) := by decide +kernel
theorem dX0_speedTowards_58 : decode cX0_speedTowards 58 = .ok (.i2l, 1) := by decide +kernel
theorem dX0_speedTowards_59 : decode cX0_speedTowards 59 = .ok (.lreturn, 1) := by decide +kernel
set_option maxRecDepth 20000 in
theorem ggX0_putBehindLast_X0_put : GoodIn wsX0_putBehindLast wsX0_put := goodIn_r _ [7, 8, 9, 10, 11, 12, 13, 14, 15, 16, 17, 18, 19, 20, 21, 22] (by decide +kernel) (by decide +kernel)
set_option maxRecDepth 20000 in
theorem gX0_putBehindLast_X0_put : GoodIn wsX0_putBehindLast (wsV RX0 104 RX0 yX0_put wsX0_put) := goodIn_app (goodIn_of _ (by decide +kernel)) ggX0_putBehindLast_X0_put
theorem dX0_putBehindLast_0 : decode cX0_putBehindLast 0 = .ok (.aload_n 0, 1) := by decide +kernel
theorem dX0_putBehindLast_1 : decode cX0_putBehindLast 1 = .ok (.getfield 71, 3) := by decide +kernel
theorem dX0_putBehindLast_4 : decode cX0_putBehindLast 4 = .ok (.istore_n 3, 1) := by decide +kernel
theorem dX0_putBehindLast_5 : decode cX0_putBehindLast 5 = .ok (.aload_n 0, 1) := by decide +kernel
theorem dX0_putBehindLast_6 : decode cX0_putBehindLast 6 = .ok (.dup, 1) := by decide +kernel
theorem dX0_putBehindLast_7 : decode cX0_putBehindLast 7 = .ok (.getfield 71, 3) := by decide +kernel
theorem dX0_putBehindLast_10 : decode cX0_putBehindLast 10 = .ok (.iconst 1, 1) := by decide +kernel
theorem dX0_putBehindLast_11 : decode cX0_putBehindLast 11 = .ok (.iadd, 1) := by decide +kernel
theorem dX0_putBehindLast_12 : decode cX0_putBehindLast 12 = .ok (.putfield 71, 3) := by decide +kernel
theorem dX0_putBehindLast_15 : decode cX0_putBehindLast 15 = .ok (.aload_n 0, 1) := by decide +kernel
theorem dX0_putBehindLast_16 : decode cX0_putBehindLast 16 = .ok (.iload_n 3, 1) := by decide +kernel
theorem dX0_putBehindLast_17 : decode cX0_putBehindLast 17 = .ok (.iload_n 1, 1) := by decide +kernel
theorem dX0_putBehindLast_18 : decode cX0_putBehindLast 18 = .ok (.iload_n 2, 1) := by decide +kernel
theorem dX0_putBehindLast_19 : decode cX0_putBehindLast 19 = .ok (.invokevirtual 104, 3) := by decide +kernel
theorem dX0_putBehindLast_22 : decode cX0_putBehindLast 22 = .ok (.aload_n 0, 1) := by decide +kernel
theorem dX0_putBehindLast_23 : decode cX0_putBehindLast 23 = .ok (.getfield 19, 3) := by decide +kernel
theorem dX0_putBehindLast_26 : decode cX0_putBehindLast 26 = .ok (.iload_n 3, 1) := by decide +kernel
theorem dX0_putBehindLast_27 : decode cX0_putBehindLast 27 = .ok (.iconst 0, 1) := by decide +kernel
theorem dX0_putBehindLast_28 : decode cX0_putBehindLast 28 = .ok (.iastore, 1) := by decide +kernel
theorem dX0_putBehindLast_29 : decode cX0_putBehindLast 29 = .ok (.iload_n 3, 1) := by decide +kernel
theorem dX0_putBehindLast_30 : decode cX0_putBehindLast 30 = .ok (.ireturn, 1) := by decide +kernel
theorem dX0_put_0 : decode cX0_put 0 = .ok (.aload_n 0, 1) := by decide +kernel
theorem dX0_put_1 : decode cX0_put 1 = .ok (.getfield 13, 3) := by decide +kernel
theorem dX0_put_4 : decode cX0_put 4 = .ok (.iload_n 1, 1) := by decide +kernel
theorem dX0_put_5 : decode cX0_put 5 = .ok (.iload_n 2, 1) := by decide +kernel
theorem dX0_put_6 : decode cX0_put 6 = .ok (.iastore, 1) := by decide +kernel
theorem dX0_put_7 : decode cX0_put 7 = .ok (.aload_n 0, 1) := by decide +kernel
theorem dX0_put_8 : decode cX0_put 8 = .ok (.getfield 16, 3) := by decide +kernel
theorem dX0_put_11 : decode cX0_put 11 = .ok (.iload_n 1, 1) := by decide +kernel
theorem dX0_put_12 : decode cX0_put 12 = .ok (.iload_n 3, 1) := by decide +kernel
theorem dX0_put_13 : decode cX0_put 13 = .ok (.iastore, 1) := by decide +kernel
theorem dX0_put_14 : decode cX0_put 14 = .ok (.aload_n 0, 1) := by decide +kernel
theorem dX0_put_15 : decode cX0_put 15 = .ok (.getfield 22, 3) := by decide +kernel
theorem dX0_put_18 : decode cX0_put 18 = .ok (.iload_n 1, 1) := by decide +kernel
theorem dX0_put_19 : decode cX0_put 19 = .ok (.iconst 0, 1) := by decide +kernel
theorem dX0_put_20 : decode cX0_put 20 = .ok (.bastore, 1) := by decide +kernel
theorem dX0_put_21 : decode cX0_put 21 = .ok (.return_, 1) := by decide +kernel
theorem dX0_lostCount_0 : decode cX0_lostCount 0 = .ok (.iconst 0, 1) := by decide +kernel
theorem dX0_lostCount_1 : decode cX0_lostCount 1 = .ok (.istore_n 3, 1) := by decide +kernel
theorem dX0_lostCount_2 : decode cX0_lostCount 2 = .ok (.iload_n 1, 1) := by decide +kernel
theorem dX0_lostCount_3 : decode cX0_lostCount 3 = .ok (.istore 4, 2) := by decide +kernel
theorem dX0_lostCount_5 : decode cX0_lostCount 5 = .ok (.iload 4, 2) := by decide +kernel
theorem dX0_lostCount_7 : decode cX0_lostCount 7 = .ok (.iload_n 2, 1) := by decide +kernel
theorem dX0_lostCount_8 : decode cX0_lostCount 8 = .ok (.if_icmp .ge 22, 3) := by decide +kernel
theorem dX0_lostCount_11 : decode cX0_lostCount 11 = .ok (.aload_n 0, 1) := by decide +kernel
theorem dX0_lostCount_12 : decode cX0_lostCount 12 = .ok (.getfield 22, 3) := by decide +kernel
theorem dX0_lostCount_15 : decode cX0_lostCount 15 = .ok (.iload 4, 2) := by decide +kernel
theorem dX0_lostCount_17 : decode cX0_lostCount 17 = .ok (.baload, 1) := by decide +kernel
theorem dX0_lostCount_18 : decode cX0_lostCount 18 = .ok (.ifCond .eq 6, 3) := by decide +kernel
theorem dX0_lostCount_21 : decode cX0_lostCount 21 = .ok (.iinc 3 1, 3) := by decide +kernel
theorem dX0_lostCount_24 : decode cX0_lostCount 24 = .ok (.iinc 4 1, 3) := by decide +kernel
theorem dX0_lostCount_27 : decode cX0_lostCount 27 = .ok (.goto (-22), 3) := by decide +kernel
theorem dX0_lostCount_30 : decode cX0_lostCount 30 = .ok (.iload_n 3, 1) := by decide +kernel
theorem dX0_lostCount_31 : decode cX0_lostCount 31 = .ok (.ireturn, 1) := by decide +kernel
theorem dX0_firstLost_0 : decode cX0_firstLost 0 = .ok (.iconst 0, 1) := by decide +kernel
theorem dX0_firstLost_1 : decode cX0_firstLost 1 = .ok (.istore_n 1, 1) := by decide +kernel
theorem dX0_firstLost_2 : decode cX0_firstLost 2 = .ok (.iload_n 1, 1) := by decide +kernel
theorem dX0_firstLost_3 : decode cX0_firstLost 3 = .ok (.aload_n 0, 1) := by decide +kernel
theorem dX0_firstLost_4 : decode cX0_firstLost 4 = .ok (.getfield 71, 3) := by decide +kernel
theorem dX0_firstLost_7 : decode cX0_firstLost 7 = .ok (.if_icmp .ge 20, 3) := by decide +kernel
theorem dX0_firstLost_10 : decode cX0_firstLost 10 = .ok (.aload_n 0, 1) := by decide +kernel
theorem dX0_firstLost_11 : decode cX0_firstLost 11 = .ok (.getfield 22, 3) := by decide +kernel
theorem dX0_firstLost_14 : decode cX0_firstLost 14 = .ok (.iload_n 1, 1) := by decide +kernel
theorem dX0_firstLost_15 : decode cX0_firstLost 15 = .ok (.baload, 1) := by decide +kernel
theorem dX0_firstLost_16 : decode cX0_firstLost 16 = .ok (.ifCond .eq 5, 3) := by decide +kernel
theorem dX0_firstLost_19 : decode cX0_firstLost 19 = .ok (.iload_n 1, 1) := by decide +kernel
theorem dX0_firstLost_20 : decode cX0_firstLost 20 = .ok (.ireturn, 1) := by decide +kernel
theorem dX0_firstLost_21 : decode cX0_firstLost 21 = .ok (.iinc 1 1, 3) := by decide +kernel
theorem dX0_firstLost_24 : decode cX0_firstLost 24 = .ok (.goto (-22), 3) := by decide +kernel
theorem dX0_firstLost_27 : decode cX0_firstLost 27 = .ok (.iconst (-1), 1) := by decide +kernel
theorem dX0_firstLost_28 : decode cX0_firstLost 28 = .ok (.ireturn, 1) := by decide +kernel
set_option maxRecDepth 20000 in
theorem ggX0_pegExists_X0_inRange : GoodIn wsX0_pegExists wsX0_inRange := goodIn_r _ [5] (by decide +kernel) (by decide +kernel)
set_option maxRecDepth 20000 in
theorem gX0_pegExists_X0_inRange : GoodIn wsX0_pegExists (va_wsS RX0 35 yX0_inRange wsX0_inRange) := goodIn_app (goodIn_of _ (by decide +kernel)) ggX0_pegExists_X0_inRange
theorem dX0_pegExists_0 : decode cX0_pegExists 0 = .ok (.iload_n 1, 1) := by decide +kernel
theorem dX0_pegExists_1 : decode cX0_pegExists 1 = .ok (.iconst 0, 1) := by decide +kernel
theorem dX0_pegExists_2 : decode cX0_pegExists 2 = .ok (.aload_n 0, 1) := by decide +kernel
theorem dX0_pegExists_3 : decode cX0_pegExists 3 = .ok (.getfield 71, 3) := by decide +kernel
theorem dX0_pegExists_6 : decode cX0_pegExists 6 = .ok (.iconst 1, 1) := by decide +kernel
theorem dX0_pegExists_7 : decode cX0_pegExists 7 = .ok (.isub, 1) := by decide +kernel
theorem dX0_pegExists_8 : decode cX0_pegExists 8 = .ok (.invokestatic 35, 3) := by decide +kernel
theorem dX0_pegExists_11 : decode cX0_pegExists 11 = .ok (.ireturn, 1) := by decide +kernel
set_option maxRecDepth 20000 in
theorem ggX0_isPoint_X0_inRange : GoodIn wsX0_isPoint wsX0_inRange := goodIn_r _ [4] (by decide +kernel) (by decide +kernel)
set_option maxRecDepth 20000 in
theorem gX0_isPoint_X0_inRange : GoodIn wsX0_isPoint (va_wsS RX0 35 yX0_inRange wsX0_inRange) := goodIn_app (goodIn_of _ (by decide +kernel)) ggX0_isPoint_X0_inRange
theorem dX0_isPoint_0 : decode cX0_isPoint 0 = .ok (.iload_n 0, 1) := by decide +kernel
theorem dX0_isPoint_1 : decode cX0_isPoint 1 = .ok (.iconst 0, 1) := by decide +kernel
theorem dX0_isPoint_2 : decode cX0_isPoint 2 = .ok (.bipush 31, 2) := by decide +kernel
theorem dX0_isPoint_4 : decode cX0_isPoint 4 = .ok (.invokestatic 35, 3) := by decide +kernel
theorem dX0_isPoint_7 : decode cX0_isPoint 7 = .ok (.ireturn, 1) := by decide +kernel
set_option maxRecDepth 20000 in
theorem ggX0_isSpeed_X0_inRange : GoodIn wsX0_isSpeed wsX0_inRange := goodIn_r _ [4] (by decide +kernel) (by decide +kernel)
set_option maxRecDepth 20000 in
theorem gX0_isSpeed_X0_inRange : GoodIn wsX0_isSpeed (va_wsS RX0 35 yX0_inRange wsX0_inRange) := goodIn_app (goodIn_of _ (by decide +kernel)) ggX0_isSpeed_X0_inRange
theorem dX0_isSpeed_0 : decode cX0_isSpeed 0 = .ok (.iload_n 0, 1) := by decide +kernel
theorem dX0_isSpeed_1 : decode cX0_isSpeed 1 = .ok (.iconst 0, 1) := by decide +kernel
theorem dX0_isSpeed_2 : decode cX0_isSpeed 2 = .ok (.sipush 200, 3) := by decide +kernel
theorem dX0_isSpeed_5 : decode cX0_isSpeed 5 = .ok (.invokestatic 35, 3) := by decide +kernel
theorem dX0_isSpeed_8 : decode cX0_isSpeed 8 = .ok (.ireturn, 1) := by decide +kernel
theorem dX0_inRange_0 : decode cX0_inRange 0 = .ok (.iload_n 0, 1) := by decide +kernel
theorem dX0_inRange_1 : decode cX0_inRange 1 = .ok (.iload_n 1, 1) := by decide +kernel
theorem dX0_inRange_2 : decode cX0_inRange 2 = .ok (.if_icmp .lt 12, 3) := by decide +kernel
theorem dX0_inRange_5 : decode cX0_inRange 5 = .ok (.iload_n 0, 1) := by decide +kernel
theorem dX0_inRange_6 : decode cX0_inRange 6 = .ok (.iload_n 2, 1) := by decide +kernel
theorem dX0_inRange_7 : decode cX0_inRange 7 = .ok (.if_icmp .gt 7, 3) := by decide +kernel
theorem dX0_inRange_10 : decode cX0_inRange 10 = .ok (.iconst 1, 1) := by decide +kernel
theorem dX0_inRange_11 : decode cX0_inRange 11 = .ok (.goto 4, 3) := by decide +kernel
theorem dX0_inRange_14 : decode cX0_inRange 14 = .ok (.iconst 0, 1) := by decide +kernel
theorem dX0_inRange_15 : decode cX0_inRange 15 = .ok (.ireturn, 1) := by decide +kernel
set_option maxRecDepth 20000 in
theorem ggX0_setFix_X0_fixCanStand : GoodIn wsX0_setFix wsX0_fixCanStand := goodIn_r _ [10, 11, 12, 13, 9, 14, 24, 25, 26, 27, 28, 29, 30, 31, 32, 33, 34, 35] (by decide +kernel) (by decide +kernel)
set_option maxRecDepth 20000 in
theorem gX0_setFix_X0_fixCanStand : GoodIn wsX0_setFix (wsV RX0 121 RX0 yX0_fixCanStand wsX0_fixCanStand) := goodIn_app (goodIn_of _ (by decide +kernel)) ggX0_setFix_X0_fixCanStand
set_option maxRecDepth 20000 in
theorem ggX0_setFix_X0_isCoordinate : GoodIn wsX0_setFix wsX0_isCoordinate := goodIn_r _ [17, 18, 19, 12, 13, 9, 14] (by decide +kernel) (by decide +kernel)
set_option maxRecDepth 20000 in
theorem gX0_setFix_X0_isCoordinate : GoodIn wsX0_setFix (va_wsS RX0 126 yX0_isCoordinate wsX0_isCoordinate) := goodIn_app (goodIn_of _ (by decide +kernel)) ggX0_setFix_X0_isCoordinate
set_option maxRecDepth 20000 in
theorem ggX0_setFix_X0_fixCount : GoodIn wsX0_setFix wsX0_fixCount := goodIn_r _ [23, 11, 3, 24, 25, 26, 27, 28, 29, 30, 31, 32, 33, 34, 35] (by decide +kernel) (by decide +kernel)
set_option maxRecDepth 20000 in
theorem gX0_setFix_X0_fixCount : GoodIn wsX0_setFix (wsV RX0 129 RX0 yX0_fixCount wsX0_fixCount) := goodIn_app (goodIn_of _ (by decide +kernel)) ggX0_setFix_X0_fixCount
theorem dX0_setFix_0 : decode cX0_setFix 0 = .ok (.aload_n 0, 1) := by decide +kernel
theorem dX0_setFix_1 : decode cX0_setFix 1 = .ok (.iload_n 1, 1) := by decide +kernel
theorem dX0_setFix_2 : decode cX0_setFix 2 = .ok (.invokevirtual 121, 3) := by decide +kernel
theorem dX0_setFix_5 : decode cX0_setFix 5 = .ok (.ifCond .ne 7, 3) := by decide +kernel
theorem dX0_setFix_8 : decode cX0_setFix 8 = .ok (.ldc2_w 124, 3) := by decide +kernel
theorem dX0_setFix_11 : decode cX0_setFix 11 = .ok (.lreturn, 1) := by decide +kernel
theorem dX0_setFix_12 : decode cX0_setFix 12 = .ok (.iload_n 2, 1) := by decide +kernel
theorem dX0_setFix_13 : decode cX0_setFix 13 = .ok (.invokestatic 126, 3) := by decide +kernel
theorem dX0_setFix_16 : decode cX0_setFix 16 = .ok (.ifCond .eq 10, 3) := by decide +kernel
theorem dX0_setFix_19 : decode cX0_setFix 19 = .ok (.iload_n 3, 1) := by decide +kernel
theorem dX0_setFix_20 : decode cX0_setFix 20 = .ok (.invokestatic 126, 3) := by decide +kernel
theorem dX0_setFix_23 : decode cX0_setFix 23 = .ok (.ifCond .ne 7, 3) := by decide +kernel
theorem dX0_setFix_26 : decode cX0_setFix 26 = .ok (.ldc2_w 39, 3) := by decide +kernel
theorem dX0_setFix_29 : decode cX0_setFix 29 = .ok (.lreturn, 1) := by decide +kernel
theorem dX0_setFix_30 : decode cX0_setFix 30 = .ok (.aload_n 0, 1) := by decide +kernel
theorem dX0_setFix_31 : decode cX0_setFix 31 = .ok (.getfield 26, 3) := by decide +kernel
theorem dX0_setFix_34 : decode cX0_setFix 34 = .ok (.iload_n 1, 1) := by decide +kernel
theorem dX0_setFix_35 : decode cX0_setFix 35 = .ok (.iconst 1, 1) := by decide +kernel
theorem dX0_setFix_36 : decode cX0_setFix 36 = .ok (.bastore, 1) := by decide +kernel
theorem dX0_setFix_37 : decode cX0_setFix 37 = .ok (.aload_n 0, 1) := by decide +kernel
theorem dX0_setFix_38 : decode cX0_setFix 38 = .ok (.getfield 29, 3) := by decide +kernel
theorem dX0_setFix_41 : decode cX0_setFix 41 = .ok (.iload_n 1, 1) := by decide +kernel
theorem dX0_setFix_42 : decode cX0_setFix 42 = .ok (.iload_n 2, 1) := by decide +kernel
theorem dX0_setFix_43 : decode cX0_setFix 43 = .ok (.iastore, 1) := by decide +kernel
theorem dX0_setFix_44 : decode cX0_setFix 44 = .ok (.aload_n 0, 1) := by decide +kernel
theorem dX0_setFix_45 : decode cX0_setFix 45 = .ok (.getfield 32, 3) := by decide +kernel
theorem dX0_setFix_48 : decode cX0_setFix 48 = .ok (.iload_n 1, 1) := by decide +kernel
theorem dX0_setFix_49 : decode cX0_setFix 49 = .ok (.iload_n 3, 1) := by decide +kernel
theorem dX0_setFix_50 : decode cX0_setFix 50 = .ok (.iastore, 1) := by decide +kernel
theorem dX0_setFix_51 : decode cX0_setFix 51 = .ok (.aload_n 0, 1) := by decide +kernel
theorem dX0_setFix_52 : decode cX0_setFix 52 = .ok (.invokevirtual 129, 3) := by decide +kernel
theorem dX0_setFix_55 : decode cX0_setFix 55 = .ok (.i2l, 1) := by decide +kernel
theorem dX0_setFix_56 : decode cX0_setFix 56 = .ok (.lreturn, 1) := by decide +kernel
set_option maxRecDepth 20000 in
theorem ggX0_removeFix_X0_fixCanStand : GoodIn wsX0_removeFix wsX0_fixCanStand := goodIn_r _ [8, 9, 10, 11, 7, 12, 17, 18, 19, 20, 21, 22, 23, 24, 25, 26, 27, 28] (by decide +kernel) (by decide +kernel)
set_option maxRecDepth 20000 in
theorem gX0_removeFix_X0_fixCanStand : GoodIn wsX0_removeFix (wsV RX0 121 RX0 yX0_fixCanStand wsX0_fixCanStand) := goodIn_app (goodIn_of _ (by decide +kernel)) ggX0_removeFix_X0_fixCanStand
set_option maxRecDepth 20000 in
theorem ggX0_removeFix_X0_fixCount : GoodIn wsX0_removeFix wsX0_fixCount := goodIn_r _ [16, 9, 2, 17, 18, 19, 20, 21, 22, 23, 24, 25, 26, 27, 28] (by decide +kernel) (by decide +kernel)
set_option maxRecDepth 20000 in
theorem gX0_removeFix_X0_fixCount : GoodIn wsX0_removeFix (wsV RX0 129 RX0 yX0_fixCount wsX0_fixCount) := goodIn_app (goodIn_of _ (by decide +kernel)) ggX0_removeFix_X0_fixCount
theorem dX0_removeFix_0 : decode cX0_removeFix 0 = .ok (.aload_n 0, 1) := by decide +kernel
theorem dX0_removeFix_1 : decode cX0_removeFix 1 = .ok (.iload_n 1, 1) := by decide +kernel
theorem dX0_removeFix_2 : decode cX0_removeFix 2 = .ok (.invokevirtual 121, 3) := by decide +kernel
theorem dX0_removeFix_5 : decode cX0_removeFix 5 = .ok (.ifCond .ne 7, 3) := by decide +kernel
theorem dX0_removeFix_8 : decode cX0_removeFix 8 = .ok (.ldc2_w 124, 3) := by decide +kernel
theorem dX0_removeFix_11 : decode cX0_removeFix 11 = .ok (.lreturn, 1) := by decide +kernel
theorem dX0_removeFix_12 : decode cX0_removeFix 12 = .ok (.aload_n 0, 1) := by decide +kernel
theorem dX0_removeFix_13 : decode cX0_removeFix 13 = .ok (.getfield 26, 3) := by decide +kernel
theorem dX0_removeFix_16 : decode cX0_removeFix 16 = .ok (.iload_n 1, 1) := by decide +kernel
theorem dX0_removeFix_17 : decode cX0_removeFix 17 = .ok (.baload, 1) := by decide +kernel
theorem dX0_removeFix_18 : decode cX0_removeFix 18 = .ok (.ifCond .ne 7, 3) := by decide +kernel
theorem dX0_removeFix_21 : decode cX0_removeFix 21 = .ok (.ldc2_w 108, 3) := by decide +kernel
theorem dX0_removeFix_24 : decode cX0_removeFix 24 = .ok (.lreturn, 1) := by decide +kernel
theorem dX0_removeFix_25 : decode cX0_removeFix 25 = .ok (.aload_n 0, 1) := by decide +kernel
theorem dX0_removeFix_26 : decode cX0_removeFix 26 = .ok (.getfield 26, 3) := by decide +kernel
theorem dX0_removeFix_29 : decode cX0_removeFix 29 = .ok (.iload_n 1, 1) := by decide +kernel
theorem dX0_removeFix_30 : decode cX0_removeFix 30 = .ok (.iconst 0, 1) := by decide +kernel
theorem dX0_removeFix_31 : decode cX0_removeFix 31 = .ok (.bastore, 1) := by decide +kernel
theorem dX0_removeFix_32 : decode cX0_removeFix 32 = .ok (.aload_n 0, 1) := by decide +kernel
theorem dX0_removeFix_33 : decode cX0_removeFix 33 = .ok (.invokevirtual 129, 3) := by decide +kernel
theorem dX0_removeFix_36 : decode cX0_removeFix 36 = .ok (.i2l, 1) := by decide +kernel
theorem dX0_removeFix_37 : decode cX0_removeFix 37 = .ok (.lreturn, 1) := by decide +kernel
theorem dX0_fixCount_0 : decode cX0_fixCount 0 = .ok (.iconst 0, 1) := by decide +kernel
theorem dX0_fixCount_1 : decode cX0_fixCount 1 = .ok (.istore_n 1, 1) := by decide +kernel
theorem dX0_fixCount_2 : decode cX0_fixCount 2 = .ok (.iconst 0, 1) := by decide +kernel
theorem dX0_fixCount_3 : decode cX0_fixCount 3 = .ok (.istore_n 2, 1) := by decide +kernel
theorem dX0_fixCount_4 : decode cX0_fixCount 4 = .ok (.iload_n 2, 1) := by decide +kernel
theorem dX0_fixCount_5 : decode cX0_fixCount 5 = .ok (.aload_n 0, 1) := by decide +kernel
theorem dX0_fixCount_6 : decode cX0_fixCount 6 = .ok (.getfield 71, 3) := by decide +kernel
theorem dX0_fixCount_9 : decode cX0_fixCount 9 = .ok (.if_icmp .gt 21, 3) := by decide +kernel
theorem dX0_fixCount_12 : decode cX0_fixCount 12 = .ok (.aload_n 0, 1) := by decide +kernel
theorem dX0_fixCount_13 : decode cX0_fixCount 13 = .ok (.getfield 26, 3) := by decide +kernel
theorem dX0_fixCount_16 : decode cX0_fixCount 16 = .ok (.iload_n 2, 1) := by decide +kernel
theorem dX0_fixCount_17 : decode cX0_fixCount 17 = .ok (.baload, 1) := by decide +kernel
theorem dX0_fixCount_18 : decode cX0_fixCount 18 = .ok (.ifCond .eq 6, 3) := by decide +kernel
theorem dX0_fixCount_21 : decode cX0_fixCount 21 = .ok (.iinc 1 1, 3) := by decide +kernel
theorem dX0_fixCount_24 : decode cX0_fixCount 24 = .ok (.iinc 2 1, 3) := by decide +kernel
theorem dX0_fixCount_27 : decode cX0_fixCount 27 = .ok (.goto (-23), 3) := by decide +kernel
theorem dX0_fixCount_30 : decode cX0_fixCount 30 = .ok (.iload_n 1, 1) := by decide +kernel
theorem dX0_fixCount_31 : decode cX0_fixCount 31 = .ok (.ireturn, 1) := by decide +kernel
theorem dX0_lastFix_0 : decode cX0_lastFix 0 = .ok (.iload_n 1, 1) := by decide +kernel
theorem dX0_lastFix_1 : decode cX0_lastFix 1 = .ok (.istore_n 2, 1) := by decide +kernel
theorem dX0_lastFix_2 : decode cX0_lastFix 2 = .ok (.iload_n 2, 1) := by decide +kernel
theorem dX0_lastFix_3 : decode cX0_lastFix 3 = .ok (.ifCond .le 18, 3) := by decide +kernel
theorem dX0_lastFix_6 : decode cX0_lastFix 6 = .ok (.aload_n 0, 1) := by decide +kernel
theorem dX0_lastFix_7 : decode cX0_lastFix 7 = .ok (.getfield 26, 3) := by decide +kernel
theorem dX0_lastFix_10 : decode cX0_lastFix 10 = .ok (.iload_n 2, 1) := by decide +kernel
theorem dX0_lastFix_11 : decode cX0_lastFix 11 = .ok (.baload, 1) := by decide +kernel
theorem dX0_lastFix_12 : decode cX0_lastFix 12 = .ok (.ifCond .ne 9, 3) := by decide +kernel
theorem dX0_lastFix_15 : decode cX0_lastFix 15 = .ok (.iinc 2 (-1), 3) := by decide +kernel
theorem dX0_lastFix_18 : decode cX0_lastFix 18 = .ok (.goto (-16), 3) := by decide +kernel
theorem dX0_lastFix_21 : decode cX0_lastFix 21 = .ok (.iload_n 2, 1) := by decide +kernel
theorem dX0_lastFix_22 : decode cX0_lastFix 22 = .ok (.ireturn, 1) := by decide +kernel
theorem dX0_firstFixAfter_0 : decode cX0_firstFixAfter 0 = .ok (.iload_n 1, 1) := by decide +kernel
theorem dX0_firstFixAfter_1 : decode cX0_firstFixAfter 1 = .ok (.iconst 1, 1) := by decide +kernel
theorem dX0_firstFixAfter_2 : decode cX0_firstFixAfter 2 = .ok (.iadd, 1) := by decide +kernel
theorem dX0_firstFixAfter_3 : decode cX0_firstFixAfter 3 = .ok (.istore_n 2, 1) := by decide +kernel
theorem dX0_firstFixAfter_4 : decode cX0_firstFixAfter 4 = .ok (.iload_n 2, 1) := by decide +kernel
theorem dX0_firstFixAfter_5 : decode cX0_firstFixAfter 5 = .ok (.aload_n 0, 1) := by decide +kernel
theorem dX0_firstFixAfter_6 : decode cX0_firstFixAfter 6 = .ok (.getfield 71, 3) := by decide +kernel
theorem dX0_firstFixAfter_9 : decode cX0_firstFixAfter 9 = .ok (.if_icmp .gt 20, 3) := by decide +kernel
theorem dX0_firstFixAfter_12 : decode cX0_firstFixAfter 12 = .ok (.aload_n 0, 1) := by decide +kernel
theorem dX0_firstFixAfter_13 : decode cX0_firstFixAfter 13 = .ok (.getfield 26, 3) := by decide +kernel
theorem dX0_firstFixAfter_16 : decode cX0_firstFixAfter 16 = .ok (.iload_n 2, 1) := by decide +kernel
theorem dX0_firstFixAfter_17 : decode cX0_firstFixAfter 17 = .ok (.baload, 1) := by decide +kernel
theorem dX0_firstFixAfter_18 : decode cX0_firstFixAfter 18 = .ok (.ifCond .eq 5, 3) := by decide +kernel
theorem dX0_firstFixAfter_21 : decode cX0_firstFixAfter 21 = .ok (.iload_n 2, 1) := by decide +kernel
theorem dX0_firstFixAfter_22 : decode cX0_firstFixAfter 22 = .ok (.ireturn, 1) := by decide +kernel
theorem dX0_firstFixAfter_23 : decode cX0_firstFixAfter 23 = .ok (.iinc 2 1, 3) := by decide +kernel
theorem dX0_firstFixAfter_26 : decode cX0_firstFixAfter 26 = .ok (.goto (-22), 3) := by decide +kernel
theorem dX0_firstFixAfter_29 : decode cX0_firstFixAfter 29 = .ok (.iconst (-1), 1) := by decide +kernel
theorem dX0_firstFixAfter_30 : decode cX0_firstFixAfter 30 = .ok (.ireturn, 1) := by decide +kernel
theorem dX0_fix_0 : decode cX0_fix 0 = .ok (.iload_n 2, 1) := by decide +kernel
theorem dX0_fix_1 : decode cX0_fix 1 = .ok (.bipush 8, 2) := by decide +kernel
theorem dX0_fix_3 : decode cX0_fix 3 = .ok (.if_icmp .ne 12, 3) := by decide +kernel
theorem dX0_fix_6 : decode cX0_fix 6 = .ok (.aload_n 0, 1) := by decide +kernel
theorem dX0_fix_7 : decode cX0_fix 7 = .ok (.getfield 29, 3) := by decide +kernel
theorem dX0_fix_10 : decode cX0_fix 10 = .ok (.iload_n 1, 1) := by decide +kernel
theorem dX0_fix_11 : decode cX0_fix 11 = .ok (.iaload, 1) := by decide +kernel
theorem dX0_fix_12 : decode cX0_fix 12 = .ok (.goto 9, 3) := by decide +kernel
theorem dX0_fix_15 : decode cX0_fix 15 = .ok (.aload_n 0, 1) := by decide +kernel
theorem dX0_fix_16 : decode cX0_fix 16 = .ok (.getfield 32, 3) := by decide +kernel
theorem dX0_fix_19 : decode cX0_fix 19 = .ok (.iload_n 1, 1) := by decide +kernel
theorem dX0_fix_20 : decode cX0_fix 20 = .ok (.iaload, 1) := by decide +kernel
theorem dX0_fix_21 : decode cX0_fix 21 = .ok (.ireturn, 1) := by decide +kernel
set_option maxRecDepth 20000 in
theorem ggX0_momentExists_X0_inRange : GoodIn wsX0_momentExists wsX0_inRange := goodIn_r _ [5] (by decide +kernel) (by decide +kernel)
set_option maxRecDepth 20000 in
theorem gX0_momentExists_X0_inRange : GoodIn wsX0_momentExists (va_wsS RX0 35 yX0_inRange wsX0_inRange) := goodIn_app (goodIn_of _ (by decide +kernel)) ggX0_momentExists_X0_inRange
theorem dX0_momentExists_0 : decode cX0_momentExists 0 = .ok (.iload_n 1, 1) := by decide +kernel
theorem dX0_momentExists_1 : decode cX0_momentExists 1 = .ok (.iconst 0, 1) := by decide +kernel
theorem dX0_momentExists_2 : decode cX0_momentExists 2 = .ok (.aload_n 0, 1) := by decide +kernel
theorem dX0_momentExists_3 : decode cX0_momentExists 3 = .ok (.getfield 71, 3) := by decide +kernel
theorem dX0_momentExists_6 : decode cX0_momentExists 6 = .ok (.invokestatic 35, 3) := by decide +kernel
theorem dX0_momentExists_9 : decode cX0_momentExists 9 = .ok (.ireturn, 1) := by decide +kernel
set_option maxRecDepth 20000 in
theorem ggX0_fixCanStand_X0_inRange : GoodIn wsX0_fixCanStand wsX0_inRange := goodIn_r _ [5] (by decide +kernel) (by decide +kernel)
set_option maxRecDepth 20000 in
theorem gX0_fixCanStand_X0_inRange : GoodIn wsX0_fixCanStand (va_wsS RX0 35 yX0_inRange wsX0_inRange) := goodIn_app (goodIn_of _ (by decide +kernel)) ggX0_fixCanStand_X0_inRange
theorem dX0_fixCanStand_0 : decode cX0_fixCanStand 0 = .ok (.iload_n 1, 1) := by decide +kernel
theorem dX0_fixCanStand_1 : decode cX0_fixCanStand 1 = .ok (.iconst 1, 1) := by decide +kernel
theorem dX0_fixCanStand_2 : decode cX0_fixCanStand 2 = .ok (.aload_n 0, 1) := by decide +kernel
theorem dX0_fixCanStand_3 : decode cX0_fixCanStand 3 = .ok (.getfield 71, 3) := by decide +kernel
theorem dX0_fixCanStand_6 : decode cX0_fixCanStand 6 = .ok (.invokestatic 35, 3) := by decide +kernel
theorem dX0_fixCanStand_9 : decode cX0_fixCanStand 9 = .ok (.ireturn, 1) := by decide +kernel
set_option maxRecDepth 20000 in
theorem ggX0_isCoordinate_X0_inRange : GoodIn wsX0_isCoordinate wsX0_inRange := goodIn_r _ [6] (by decide +kernel) (by decide +kernel)
set_option maxRecDepth 20000 in
theorem gX0_isCoordinate_X0_inRange : GoodIn wsX0_isCoordinate (va_wsS RX0 35 yX0_inRange wsX0_inRange) := goodIn_app (goodIn_of _ (by decide +kernel)) ggX0_isCoordinate_X0_inRange
theorem dX0_isCoordinate_0 : decode cX0_isCoordinate 0 = .ok (.iload_n 0, 1) := by decide +kernel
theorem dX0_isCoordinate_1 : decode cX0_isCoordinate 1 = .ok (.ldc 132, 2) := by decide +kernel
theorem dX0_isCoordinate_3 : decode cX0_isCoordinate 3 = .ok (.ldc 133, 2) := by decide +kernel
theorem dX0_isCoordinate_5 : decode cX0_isCoordinate 5 = .ok (.invokestatic 35, 3) := by decide +kernel
theorem dX0_isCoordinate_8 : decode cX0_isCoordinate 8 = .ok (.ireturn, 1) := by decide +kernel
set_option maxRecDepth 20000 in
theorem ggX0_reckonedNorth_X0_momentExists : GoodIn wsX0_reckonedNorth wsX0_momentExists := goodIn_r _ [6, 7, 8, 9, 5, 10, 44, 45, 46, 47, 48, 49, 50, 51, 52, 53, 54, 55] (by decide +kernel) (by decide +kernel)
set_option maxRecDepth 20000 in
theorem gX0_reckonedNorth_X0_momentExists : GoodIn wsX0_reckonedNorth (wsV RX0 134 RX0 yX0_momentExists wsX0_momentExists) := goodIn_app (goodIn_of _ (by decide +kernel)) ggX0_reckonedNorth_X0_momentExists
set_option maxRecDepth 20000 in
theorem ggX0_reckonedNorth_X0_reckoned : GoodIn wsX0_reckonedNorth wsX0_reckoned := goodIn_r _ [14, 15, 16, 17, 5, 18, 19, 20, 21, 22, 23, 24, 25, 26, 27, 28, 29, 30, 31, 32, 33, 34, 35, 36, 37, 38, 39, 40, 41, 42, 43, 44, 45, 46, 47, 48, 49, 50, 51, 52, 53, 54, 55] (by decide +kernel) (by decide +kernel)
set_option maxRecDepth 20000 in
theorem gX0_reckonedNorth_X0_reckoned : GoodIn wsX0_reckonedNorth (wsV RX0 137 RX0 yX0_reckoned wsX0_reckoned) := goodIn_app (goodIn_of _ (by decide +kernel)) ggX0_reckonedNorth_X0_reckoned
theorem dX0_reckonedNorth_0 : decode cX0_reckonedNorth 0 = .ok (.aload_n 0, 1) := by decide +kernel
theorem dX0_reckonedNorth_1 : decode cX0_reckonedNorth 1 = .ok (.iload_n 1, 1) := by decide +kernel
theorem dX0_reckonedNorth_2 : decode cX0_reckonedNorth 2 = .ok (.invokevirtual 134, 3) := by decide +kernel
theorem dX0_reckonedNorth_5 : decode cX0_reckonedNorth 5 = .ok (.ifCond .eq 13, 3) := by decide +kernel
theorem dX0_reckonedNorth_8 : decode cX0_reckonedNorth 8 = .ok (.aload_n 0, 1) := by decide +kernel
theorem dX0_reckonedNorth_9 : decode cX0_reckonedNorth 9 = .ok (.iload_n 1, 1) := by decide +kernel
theorem dX0_reckonedNorth_10 : decode cX0_reckonedNorth 10 = .ok (.bipush 8, 2) := by decide +kernel
theorem dX0_reckonedNorth_12 : decode cX0_reckonedNorth 12 = .ok (.invokevirtual 137, 3) := by decide +kernel
theorem dX0_reckonedNorth_15 : decode cX0_reckonedNorth 15 = .ok (.goto 6, 3) := by decide +kernel
theorem dX0_reckonedNorth_18 : decode cX0_reckonedNorth 18 = .ok (.ldc2_w 124, 3) := by decide +kernel
theorem dX0_reckonedNorth_21 : decode cX0_reckonedNorth 21 = .ok (.lreturn, 1) := by decide +kernel
set_option maxRecDepth 20000 in
theorem ggX0_reckonedEast_X0_momentExists : GoodIn wsX0_reckonedEast wsX0_momentExists := goodIn_r _ [6, 7, 8, 9, 5, 10, 44, 45, 46, 47, 48, 49, 50, 51, 52, 53, 54, 55] (by decide +kernel) (by decide +kernel)
set_option maxRecDepth 20000 in
theorem gX0_reckonedEast_X0_momentExists : GoodIn wsX0_reckonedEast (wsV RX0 134 RX0 yX0_momentExists wsX0_momentExists) := goodIn_app (goodIn_of _ (by decide +kernel)) ggX0_reckonedEast_X0_momentExists
set_option maxRecDepth 20000 in
theorem ggX0_reckonedEast_X0_reckoned : GoodIn wsX0_reckonedEast wsX0_reckoned := goodIn_r _ [14, 15, 16, 17, 5, 18, 19, 20, 21, 22, 23, 24, 25, 26, 27, 28, 29, 30, 31, 32, 33, 34, 35, 36, 37, 38, 39, 40, 41, 42, 43, 44, 45, 46, 47, 48, 49, 50, 51, 52, 53, 54, 55] (by decide +kernel) (by decide +kernel)
set_option maxRecDepth 20000 in
theorem gX0_reckonedEast_X0_reckoned : GoodIn wsX0_reckonedEast (wsV RX0 137 RX0 yX0_reckoned wsX0_reckoned) := goodIn_app (goodIn_of _ (by decide +kernel)) ggX0_reckonedEast_X0_reckoned
theorem dX0_reckonedEast_0 : decode cX0_reckonedEast 0 = .ok (.aload_n 0, 1) := by decide +kernel
theorem dX0_reckonedEast_1 : decode cX0_reckonedEast 1 = .ok (.iload_n 1, 1) := by decide +kernel
theorem dX0_reckonedEast_2 : decode cX0_reckonedEast 2 = .ok (.invokevirtual 134, 3) := by decide +kernel
theorem dX0_reckonedEast_5 : decode cX0_reckonedEast 5 = .ok (.ifCond .eq 12, 3) := by decide +kernel
theorem dX0_reckonedEast_8 : decode cX0_reckonedEast 8 = .ok (.aload_n 0, 1) := by decide +kernel
theorem dX0_reckonedEast_9 : decode cX0_reckonedEast 9 = .ok (.iload_n 1, 1) := by decide +kernel
theorem dX0_reckonedEast_10 : decode cX0_reckonedEast 10 = .ok (.iconst 0, 1) := by decide +kernel
theorem dX0_reckonedEast_11 : decode cX0_reckonedEast 11 = .ok (.invokevirtual 137, 3) := by decide +kernel
theorem dX0_reckonedEast_14 : decode cX0_reckonedEast 14 = .ok (.goto 6, 3) := by decide +kernel
theorem dX0_reckonedEast_17 : decode cX0_reckonedEast 17 = .ok (.ldc2_w 124, 3) := by decide +kernel
theorem dX0_reckonedEast_20 : decode cX0_reckonedEast 20 = .ok (.lreturn, 1) := by decide +kernel
set_option maxRecDepth 20000 in
theorem ggX0_correctedNorth_X0_momentExists : GoodIn wsX0_correctedNorth wsX0_momentExists := goodIn_r _ [6, 7, 8, 9, 5, 10, 59, 60, 61, 62, 63, 64, 65, 66, 67, 68, 69, 70] (by decide +kernel) (by decide +kernel)
set_option maxRecDepth 20000 in
theorem gX0_correctedNorth_X0_momentExists : GoodIn wsX0_correctedNorth (wsV RX0 134 RX0 yX0_momentExists wsX0_momentExists) := goodIn_app (goodIn_of _ (by decide +kernel)) ggX0_correctedNorth_X0_momentExists
set_option maxRecDepth 20000 in
theorem ggX0_correctedNorth_X0_corrected : GoodIn wsX0_correctedNorth wsX0_corrected := goodIn_r _ [14, 15, 16, 17, 5, 18, 19, 20, 21, 22, 23, 7, 24, 25, 26, 27, 28, 29, 30, 31, 32, 33, 34, 35, 36, 37, 38, 39, 40, 41, 42, 43, 44, 45, 46, 47, 48, 49, 50, 51, 52, 53, 54, 55, 56, 57, 58, 59, 60, 61, 62, 63, 64, 65, 66, 67, 68, 69, 70] (by decide +kernel) (by decide +kernel)
set_option maxRecDepth 20000 in
theorem gX0_correctedNorth_X0_corrected : GoodIn wsX0_correctedNorth (wsV RX0 141 RX0 yX0_corrected wsX0_corrected) := goodIn_app (goodIn_of _ (by decide +kernel)) ggX0_correctedNorth_X0_corrected
theorem dX0_correctedNorth_0 : decode cX0_correctedNorth 0 = .ok (.aload_n 0, 1) := by decide +kernel
theorem dX0_correctedNorth_1 : decode cX0_correctedNorth 1 = .ok (.iload_n 1, 1) := by decide +kernel
theorem dX0_correctedNorth_2 : decode cX0_correctedNorth 2 = .ok (.invokevirtual 134, 3) := by decide +kernel
theorem dX0_correctedNorth_5 : decode cX0_correctedNorth 5 = .ok (.ifCond .eq 13, 3) := by decide +kernel
theorem dX0_correctedNorth_8 : decode cX0_correctedNorth 8 = .ok (.aload_n 0, 1) := by decide +kernel
theorem dX0_correctedNorth_9 : decode cX0_correctedNorth 9 = .ok (.iload_n 1, 1) := by decide +kernel
theorem dX0_correctedNorth_10 : decode cX0_correctedNorth 10 = .ok (.bipush 8, 2) := by decide +kernel
theorem dX0_correctedNorth_12 : decode cX0_correctedNorth 12 = .ok (.invokevirtual 141, 3) := by decide +kernel
theorem dX0_correctedNorth_15 : decode cX0_correctedNorth 15 = .ok (.goto 6, 3) := by decide +kernel
theorem dX0_correctedNorth_18 : decode cX0_correctedNorth 18 = .ok (.ldc2_w 124, 3) := by decide +kernel
theorem dX0_correctedNorth_21 : decode cX0_correctedNorth 21 = .ok (.lreturn, 1) := by decide +kernel
set_option maxRecDepth 20000 in
theorem ggX0_correctedEast_X0_momentExists : GoodIn wsX0_correctedEast wsX0_momentExists := goodIn_r _ [6, 7, 8, 9, 5, 10, 59, 60, 61, 62, 63, 64, 65, 66, 67, 68, 69, 70] (by decide +kernel) (by decide +kernel)
set_option maxRecDepth 20000 in
theorem gX0_correctedEast_X0_momentExists : GoodIn wsX0_correctedEast (wsV RX0 134 RX0 yX0_momentExists wsX0_momentExists) := goodIn_app (goodIn_of _ (by decide +kernel)) ggX0_correctedEast_X0_momentExists
set_option maxRecDepth 20000 in
theorem ggX0_correctedEast_X0_corrected : GoodIn wsX0_correctedEast wsX0_corrected := goodIn_r _ [14, 15, 16, 17, 5, 18, 19, 20, 21, 22, 23, 7, 24, 25, 26, 27, 28, 29, 30, 31, 32, 33, 34, 35, 36, 37, 38, 39, 40, 41, 42, 43, 44, 45, 46, 47, 48, 49, 50, 51, 52, 53, 54, 55, 56, 57, 58, 59, 60, 61, 62, 63, 64, 65, 66, 67, 68, 69, 70] (by decide +kernel) (by decide +kernel)
set_option maxRecDepth 20000 in
theorem gX0_correctedEast_X0_corrected : GoodIn wsX0_correctedEast (wsV RX0 141 RX0 yX0_corrected wsX0_corrected) := goodIn_app (goodIn_of _ (by decide +kernel)) ggX0_correctedEast_X0_corrected
theorem dX0_correctedEast_0 : decode cX0_correctedEast 0 = .ok (.aload_n 0, 1) := by decide +kernel
theorem dX0_correctedEast_1 : decode cX0_correctedEast 1 = .ok (.iload_n 1, 1) := by decide +kernel
theorem dX0_correctedEast_2 : decode cX0_correctedEast 2 = .ok (.invokevirtual 134, 3) := by decide +kernel
theorem dX0_correctedEast_5 : decode cX0_correctedEast 5 = .ok (.ifCond .eq 12, 3) := by decide +kernel
theorem dX0_correctedEast_8 : decode cX0_correctedEast 8 = .ok (.aload_n 0, 1) := by decide +kernel
theorem dX0_correctedEast_9 : decode cX0_correctedEast 9 = .ok (.iload_n 1, 1) := by decide +kernel
theorem dX0_correctedEast_10 : decode cX0_correctedEast 10 = .ok (.iconst 0, 1) := by decide +kernel
theorem dX0_correctedEast_11 : decode cX0_correctedEast 11 = .ok (.invokevirtual 141, 3) := by decide +kernel
theorem dX0_correctedEast_14 : decode cX0_correctedEast 14 = .ok (.goto 6, 3) := by decide +kernel
theorem dX0_correctedEast_17 : decode cX0_correctedEast 17 = .ok (.ldc2_w 124, 3) := by decide +kernel
theorem dX0_correctedEast_20 : decode cX0_correctedEast 20 = .ok (.lreturn, 1) := by decide +kernel
set_option maxRecDepth 20000 in
theorem ggX0_distance_X0_momentExists : GoodIn wsX0_distance wsX0_momentExists := goodIn_r _ [6, 7, 8, 9, 5, 10, 69, 70, 71, 72, 73, 74, 75, 76, 77, 78, 79, 80] (by decide +kernel) (by decide +kernel)
set_option maxRecDepth 20000 in
theorem gX0_distance_X0_momentExists : GoodIn wsX0_distance (wsV RX0 134 RX0 yX0_momentExists wsX0_momentExists) := goodIn_app (goodIn_of _ (by decide +kernel)) ggX0_distance_X0_momentExists
set_option maxRecDepth 20000 in
theorem ggX0_distance_X0_difference : GoodIn wsX0_distance wsX0_difference := goodIn_r _ [14, 15, 16, 17, 5, 18, 19, 20, 21, 22, 23, 24, 25, 26, 27, 7, 28, 29, 30, 31, 32, 33, 34, 35, 36, 37, 38, 39, 40, 41, 42, 43, 44, 45, 46, 47, 48, 49, 50, 51, 52, 53, 54, 55, 56, 57, 58, 59, 60, 61, 62, 69, 70, 71, 72, 73, 74, 75, 76, 77, 78, 79, 80] (by decide +kernel) (by decide +kernel)
set_option maxRecDepth 20000 in
theorem gX0_distance_X0_difference : GoodIn wsX0_distance (wsV RX0 144 RX0 yX0_difference wsX0_difference) := goodIn_app (goodIn_of _ (by decide +kernel)) ggX0_distance_X0_difference
set_option maxRecDepth 20000 in
theorem ggX0_distance_X0_squares : GoodIn wsX0_distance wsX0_squares := goodIn_r _ [65] (by decide +kernel) (by decide +kernel)
set_option maxRecDepth 20000 in
theorem gX0_distance_X0_squares : GoodIn wsX0_distance (va_wsS RX0 148 yX0_squares wsX0_squares) := goodIn_app (goodIn_of _ (by decide +kernel)) ggX0_distance_X0_squares
set_option maxRecDepth 20000 in
theorem ggX0_distance_X0_root : GoodIn wsX0_distance wsX0_root := goodIn_r _ [68] (by decide +kernel) (by decide +kernel)
set_option maxRecDepth 20000 in
theorem gX0_distance_X0_root : GoodIn wsX0_distance (va_wsS RX0 152 yX0_root wsX0_root) := goodIn_app (goodIn_of _ (by decide +kernel)) ggX0_distance_X0_root
theorem dX0_distance_0 : decode cX0_distance 0 = .ok (.aload_n 0, 1) := by decide +kernel
theorem dX0_distance_1 : decode cX0_distance 1 = .ok (.iload_n 1, 1) := by decide +kernel
theorem dX0_distance_2 : decode cX0_distance 2 = .ok (.invokevirtual 134, 3) := by decide +kernel
theorem dX0_distance_5 : decode cX0_distance 5 = .ok (.ifCond .eq 11, 3) := by decide +kernel
theorem dX0_distance_8 : decode cX0_distance 8 = .ok (.aload_n 0, 1) := by decide +kernel
theorem dX0_distance_9 : decode cX0_distance 9 = .ok (.iload_n 2, 1) := by decide +kernel
theorem dX0_distance_10 : decode cX0_distance 10 = .ok (.invokevirtual 134, 3) := by decide +kernel
theorem dX0_distance_13 : decode cX0_distance 13 = .ok (.ifCond .ne 7, 3) := by decide +kernel
theorem dX0_distance_16 : decode cX0_distance 16 = .ok (.ldc2_w 124, 3) := by decide +kernel
theorem dX0_distance_19 : decode cX0_distance 19 = .ok (.lreturn, 1) := by decide +kernel
theorem dX0_distance_20 : decode cX0_distance 20 = .ok (.aload_n 0, 1) := by decide +kernel
theorem dX0_distance_21 : decode cX0_distance 21 = .ok (.iload_n 1, 1) := by decide +kernel
theorem dX0_distance_22 : decode cX0_distance 22 = .ok (.iload_n 2, 1) := by decide +kernel
theorem dX0_distance_23 : decode cX0_distance 23 = .ok (.bipush 8, 2) := by decide +kernel
theorem dX0_distance_25 : decode cX0_distance 25 = .ok (.invokevirtual 144, 3) := by decide +kernel
theorem dX0_distance_28 : decode cX0_distance 28 = .ok (.aload_n 0, 1) := by decide +kernel
theorem dX0_distance_29 : decode cX0_distance 29 = .ok (.iload_n 1, 1) := by decide +kernel
theorem dX0_distance_30 : decode cX0_distance 30 = .ok (.iload_n 2, 1) := by decide +kernel
theorem dX0_distance_31 : decode cX0_distance 31 = .ok (.iconst 0, 1) := by decide +kernel
theorem dX0_distance_32 : decode cX0_distance 32 = .ok (.invokevirtual 144, 3) := by decide +kernel
theorem dX0_distance_35 : decode cX0_distance 35 = .ok (.invokestatic 148, 3) := by decide +kernel
theorem dX0_distance_38 : decode cX0_distance 38 = .ok (.invokestatic 152, 3) := by decide +kernel
theorem dX0_distance_41 : decode cX0_distance 41 = .ok (.lreturn, 1) := by decide +kernel
set_option maxRecDepth 20000 in
theorem ggX0_bearing_X0_momentExists : GoodIn wsX0_bearing wsX0_momentExists := goodIn_r _ [7, 8, 9, 10, 6, 11, 70, 71, 72, 73, 74, 75, 76, 77, 78, 79, 80, 81] (by decide +kernel) (by decide +kernel)
set_option maxRecDepth 20000 in
theorem gX0_bearing_X0_momentExists : GoodIn wsX0_bearing (wsV RX0 134 RX0 yX0_momentExists wsX0_momentExists) := goodIn_app (goodIn_of _ (by decide +kernel)) ggX0_bearing_X0_momentExists
set_option maxRecDepth 20000 in
theorem ggX0_bearing_X0_difference : GoodIn wsX0_bearing wsX0_difference := goodIn_r _ [15, 16, 17, 18, 6, 19, 20, 21, 22, 23, 24, 25, 26, 27, 28, 8, 29, 30, 31, 32, 33, 34, 35, 36, 37, 38, 39, 40, 41, 42, 43, 44, 45, 46, 47, 48, 49, 50, 51, 52, 53, 54, 55, 56, 57, 58, 59, 60, 61, 62, 63, 70, 71, 72, 73, 74, 75, 76, 77, 78, 79, 80, 81] (by decide +kernel) (by decide +kernel)
set_option maxRecDepth 20000 in
theorem gX0_bearing_X0_difference : GoodIn wsX0_bearing (wsV RX0 144 RX0 yX0_difference wsX0_difference) := goodIn_app (goodIn_of _ (by decide +kernel)) ggX0_bearing_X0_difference
set_option maxRecDepth 20000 in
theorem ggX0_bearing_X0_nearestPoint : GoodIn wsX0_bearing wsX0_nearestPoint := goodIn_r _ [66, 67, 68, 6, 69, 49, 50, 51, 52, 53, 54, 55, 56] (by decide +kernel) (by decide +kernel)
set_option maxRecDepth 20000 in
theorem gX0_bearing_X0_nearestPoint : GoodIn wsX0_bearing (va_wsS RX0 156 yX0_nearestPoint wsX0_nearestPoint) := goodIn_app (goodIn_of _ (by decide +kernel)) ggX0_bearing_X0_nearestPoint
theorem dX0_bearing_0 : decode cX0_bearing 0 = .ok (.aload_n 0, 1) := by decide +kernel
theorem dX0_bearing_1 : decode cX0_bearing 1 = .ok (.iload_n 1, 1) := by decide +kernel
theorem dX0_bearing_2 : decode cX0_bearing 2 = .ok (.invokevirtual 134, 3) := by decide +kernel
theorem dX0_bearing_5 : decode cX0_bearing 5 = .ok (.ifCond .eq 11, 3) := by decide +kernel
theorem dX0_bearing_8 : decode cX0_bearing 8 = .ok (.aload_n 0, 1) := by decide +kernel
theorem dX0_bearing_9 : decode cX0_bearing 9 = .ok (.iload_n 2, 1) := by decide +kernel
theorem dX0_bearing_10 : decode cX0_bearing 10 = .ok (.invokevirtual 134, 3) := by decide +kernel
theorem dX0_bearing_13 : decode cX0_bearing 13 = .ok (.ifCond .ne 7, 3) := by decide +kernel
theorem dX0_bearing_16 : decode cX0_bearing 16 = .ok (.ldc2_w 124, 3) := by decide +kernel
theorem dX0_bearing_19 : decode cX0_bearing 19 = .ok (.lreturn, 1) := by decide +kernel
theorem dX0_bearing_20 : decode cX0_bearing 20 = .ok (.aload_n 0, 1) := by decide +kernel
theorem dX0_bearing_21 : decode cX0_bearing 21 = .ok (.iload_n 1, 1) := by decide +kernel
theorem dX0_bearing_22 : decode cX0_bearing 22 = .ok (.iload_n 2, 1) := by decide +kernel
theorem dX0_bearing_23 : decode cX0_bearing 23 = .ok (.bipush 8, 2) := by decide +kernel
theorem dX0_bearing_25 : decode cX0_bearing 25 = .ok (.invokevirtual 144, 3) := by decide +kernel
theorem dX0_bearing_28 : decode cX0_bearing 28 = .ok (.lstore_n 3, 1) := by decide +kernel
theorem dX0_bearing_29 : decode cX0_bearing 29 = .ok (.aload_n 0, 1) := by decide +kernel
theorem dX0_bearing_30 : decode cX0_bearing 30 = .ok (.iload_n 1, 1) := by decide +kernel
theorem dX0_bearing_31 : decode cX0_bearing 31 = .ok (.iload_n 2, 1) := by decide +kernel
theorem dX0_bearing_32 : decode cX0_bearing 32 = .ok (.iconst 0, 1) := by decide +kernel
theorem dX0_bearing_33 : decode cX0_bearing 33 = .ok (.invokevirtual 144, 3) := by decide +kernel
theorem dX0_bearing_36 : decode cX0_bearing 36 = .ok (.lstore 5, 2) := by decide +kernel
theorem dX0_bearing_38 : decode cX0_bearing 38 = .ok (.lload_n 3, 1) := by decide +kernel
theorem dX0_bearing_39 : decode cX0_bearing 39 = .ok (.lconst 0, 1) := by decide +kernel
theorem dX0_bearing_40 : decode cX0_bearing 40 = .ok (.lcmp, 1) := by decide +kernel
theorem dX0_bearing_41 : decode cX0_bearing 41 = .ok (.ifCond .ne 14, 3) := by decide +kernel
theorem dX0_bearing_44 : decode cX0_bearing 44 = .ok (.lload 5, 2) := by decide +kernel
theorem dX0_bearing_46 : decode cX0_bearing 46 = .ok (.lconst 0, 1) := by decide +kernel
theorem dX0_bearing_47 : decode cX0_bearing 47 = .ok (.lcmp, 1) := by decide +kernel
theorem dX0_bearing_48 : decode cX0_bearing 48 = .ok (.ifCond .ne 7, 3) := by decide +kernel
theorem dX0_bearing_51 : decode cX0_bearing 51 = .ok (.ldc2_w 108, 3) := by decide +kernel
theorem dX0_bearing_54 : decode cX0_bearing 54 = .ok (.lreturn, 1) := by decide +kernel
theorem dX0_bearing_55 : decode cX0_bearing 55 = .ok (.lload_n 3, 1) := by decide +kernel
theorem dX0_bearing_56 : decode cX0_bearing 56 = .ok (.lload 5, 2) := by decide +kernel
theorem dX0_bearing_58 : decode cX0_bearing 58 = .ok (.invokestatic 156, 3) := by decide +kernel
theorem dX0_bearing_61 : decode cX0_bearing 61 = .ok (.i2l, 1) := by decide +kernel
theorem dX0_bearing_62 : decode cX0_bearing 62 = .ok (.lreturn, 1) := by decide +kernel
set_option maxRecDepth 20000 in
theorem ggX0_findLost_X0_pegExists : GoodIn wsX0_findLost wsX0_pegExists := goodIn_r _ [10, 11, 12, 13, 9, 14, 64, 65, 66, 67, 68, 69, 70, 71, 72, 73, 74, 75] (by decide +kernel) (by decide +kernel)
set_option maxRecDepth 20000 in
theorem gX0_findLost_X0_pegExists : GoodIn wsX0_findLost (wsV RX0 99 RX0 yX0_pegExists wsX0_pegExists) := goodIn_app (goodIn_of _ (by decide +kernel)) ggX0_findLost_X0_pegExists
set_option maxRecDepth 20000 in
theorem ggX0_findLost_X0_lastFix : GoodIn wsX0_findLost wsX0_lastFix := goodIn_r _ [18, 19, 64, 65, 66, 67, 68, 69, 70, 71, 72, 73, 74, 75] (by decide +kernel) (by decide +kernel)
set_option maxRecDepth 20000 in
theorem gX0_findLost_X0_lastFix : GoodIn wsX0_findLost (wsV RX0 160 RX0 yX0_lastFix wsX0_lastFix) := goodIn_app (goodIn_of _ (by decide +kernel)) ggX0_findLost_X0_lastFix
set_option maxRecDepth 20000 in
theorem ggX0_findLost_X0_firstFixAfter : GoodIn wsX0_findLost wsX0_firstFixAfter := goodIn_r _ [23, 11, 19, 64, 65, 66, 67, 68, 69, 70, 71, 72, 73, 74, 75] (by decide +kernel) (by decide +kernel)
set_option maxRecDepth 20000 in
theorem gX0_findLost_X0_firstFixAfter : GoodIn wsX0_findLost (wsV RX0 163 RX0 yX0_firstFixAfter wsX0_firstFixAfter) := goodIn_app (goodIn_of _ (by decide +kernel)) ggX0_findLost_X0_firstFixAfter
set_option maxRecDepth 20000 in
theorem ggX0_findLost_X0_lostCount : GoodIn wsX0_findLost wsX0_lostCount := goodIn_r _ [27, 2, 64, 65, 66, 67, 68, 69, 70, 71, 72, 73, 74, 75] (by decide +kernel) (by decide +kernel)
set_option maxRecDepth 20000 in
theorem gX0_findLost_X0_lostCount : GoodIn wsX0_findLost (wsV RX0 112 RX0 yX0_lostCount wsX0_lostCount) := goodIn_app (goodIn_of _ (by decide +kernel)) ggX0_findLost_X0_lostCount
set_option maxRecDepth 20000 in
theorem ggX0_findLost_X0_error : GoodIn wsX0_findLost wsX0_error := goodIn_r _ [31, 32, 33, 34, 9, 35, 36, 37, 38, 39, 40, 41, 42, 43, 2, 44, 5, 45, 46, 47, 48, 49, 50, 51, 52, 53, 64, 65, 66, 67, 68, 69, 70, 71, 72, 73, 74, 75] (by decide +kernel) (by decide +kernel)
set_option maxRecDepth 20000 in
theorem gX0_findLost_X0_error : GoodIn wsX0_findLost (wsV RX0 166 RX0 yX0_error wsX0_error) := goodIn_app (goodIn_of _ (by decide +kernel)) ggX0_findLost_X0_error
set_option maxRecDepth 20000 in
theorem ggX0_findLost_X0_likeliest : GoodIn wsX0_findLost wsX0_likeliest := goodIn_r _ [56, 57, 58, 59, 9, 60, 61, 62, 63, 46, 47, 48, 49, 50, 51, 52, 53] (by decide +kernel) (by decide +kernel)
set_option maxRecDepth 20000 in
theorem gX0_findLost_X0_likeliest : GoodIn wsX0_findLost (va_wsS RX0 169 yX0_likeliest wsX0_likeliest) := goodIn_app (goodIn_of _ (by decide +kernel)) ggX0_findLost_X0_likeliest
theorem dX0_findLost_0 : decode cX0_findLost 0 = .ok (.aload_n 0, 1) := by decide +kernel
theorem dX0_findLost_1 : decode cX0_findLost 1 = .ok (.iload_n 1, 1) := by decide +kernel
theorem dX0_findLost_2 : decode cX0_findLost 2 = .ok (.invokevirtual 99, 3) := by decide +kernel
theorem dX0_findLost_5 : decode cX0_findLost 5 = .ok (.ifCond .ne 7, 3) := by decide +kernel
theorem dX0_findLost_8 : decode cX0_findLost 8 = .ok (.ldc2_w 102, 3) := by decide +kernel
theorem dX0_findLost_11 : decode cX0_findLost 11 = .ok (.lreturn, 1) := by decide +kernel
theorem dX0_findLost_12 : decode cX0_findLost 12 = .ok (.aload_n 0, 1) := by decide +kernel
theorem dX0_findLost_13 : decode cX0_findLost 13 = .ok (.getfield 22, 3) := by decide +kernel
theorem dX0_findLost_16 : decode cX0_findLost 16 = .ok (.iload_n 1, 1) := by decide +kernel
theorem dX0_findLost_17 : decode cX0_findLost 17 = .ok (.baload, 1) := by decide +kernel
theorem dX0_findLost_18 : decode cX0_findLost 18 = .ok (.ifCond .ne 7, 3) := by decide +kernel
theorem dX0_findLost_21 : decode cX0_findLost 21 = .ok (.ldc2_w 110, 3) := by decide +kernel
theorem dX0_findLost_24 : decode cX0_findLost 24 = .ok (.lreturn, 1) := by decide +kernel
theorem dX0_findLost_25 : decode cX0_findLost 25 = .ok (.aload_n 0, 1) := by decide +kernel
theorem dX0_findLost_26 : decode cX0_findLost 26 = .ok (.iload_n 1, 1) := by decide +kernel
theorem dX0_findLost_27 : decode cX0_findLost 27 = .ok (.invokevirtual 160, 3) := by decide +kernel
theorem dX0_findLost_30 : decode cX0_findLost 30 = .ok (.istore_n 2, 1) := by decide +kernel
theorem dX0_findLost_31 : decode cX0_findLost 31 = .ok (.aload_n 0, 1) := by decide +kernel
theorem dX0_findLost_32 : decode cX0_findLost 32 = .ok (.iload_n 1, 1) := by decide +kernel
theorem dX0_findLost_33 : decode cX0_findLost 33 = .ok (.invokevirtual 163, 3) := by decide +kernel
theorem dX0_findLost_36 : decode cX0_findLost 36 = .ok (.istore_n 3, 1) := by decide +kernel
theorem dX0_findLost_37 : decode cX0_findLost 37 = .ok (.iload_n 3, 1) := by decide +kernel
theorem dX0_findLost_38 : decode cX0_findLost 38 = .ok (.iconst (-1), 1) := by decide +kernel
theorem dX0_findLost_39 : decode cX0_findLost 39 = .ok (.if_icmp .ne 7, 3) := by decide +kernel
theorem dX0_findLost_42 : decode cX0_findLost 42 = .ok (.ldc2_w 108, 3) := by decide +kernel
theorem dX0_findLost_45 : decode cX0_findLost 45 = .ok (.lreturn, 1) := by decide +kernel
theorem dX0_findLost_46 : decode cX0_findLost 46 = .ok (.aload_n 0, 1) := by decide +kernel
theorem dX0_findLost_47 : decode cX0_findLost 47 = .ok (.iload_n 2, 1) := by decide +kernel
theorem dX0_findLost_48 : decode cX0_findLost 48 = .ok (.iload_n 3, 1) := by decide +kernel
theorem dX0_findLost_49 : decode cX0_findLost 49 = .ok (.invokevirtual 112, 3) := by decide +kernel
theorem dX0_findLost_52 : decode cX0_findLost 52 = .ok (.iconst 1, 1) := by decide +kernel
theorem dX0_findLost_53 : decode cX0_findLost 53 = .ok (.if_icmp .le 7, 3) := by decide +kernel
theorem dX0_findLost_56 : decode cX0_findLost 56 = .ok (.ldc2_w 110, 3) := by decide +kernel
theorem dX0_findLost_59 : decode cX0_findLost 59 = .ok (.lreturn, 1) := by decide +kernel
theorem dX0_findLost_60 : decode cX0_findLost 60 = .ok (.aload_n 0, 1) := by decide +kernel
theorem dX0_findLost_61 : decode cX0_findLost 61 = .ok (.iload_n 2, 1) := by decide +kernel
theorem dX0_findLost_62 : decode cX0_findLost 62 = .ok (.iload_n 3, 1) := by decide +kernel
theorem dX0_findLost_63 : decode cX0_findLost 63 = .ok (.bipush 8, 2) := by decide +kernel
theorem dX0_findLost_65 : decode cX0_findLost 65 = .ok (.invokevirtual 166, 3) := by decide +kernel
theorem dX0_findLost_68 : decode cX0_findLost 68 = .ok (.aload_n 0, 1) := by decide +kernel
theorem dX0_findLost_69 : decode cX0_findLost 69 = .ok (.iload_n 2, 1) := by decide +kernel
theorem dX0_findLost_70 : decode cX0_findLost 70 = .ok (.iload_n 3, 1) := by decide +kernel
theorem dX0_findLost_71 : decode cX0_findLost 71 = .ok (.iconst 0, 1) := by decide +kernel
