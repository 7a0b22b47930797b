set_option maxRecDepth 20000 in
theorem ggX1_corrected_X1_floor : GoodIn wsX1_corrected wsX1_floor := goodIn_r _ [43] (by decide +kernel) (by decide +kernel)
set_option maxRecDepth 20000 in
theorem gX1_corrected_X1_floor : GoodIn wsX1_corrected (va_wsS RX1 156 yX1_floor wsX1_floor) := goodIn_app (goodIn_of _ (by decide +kernel)) ggX1_corrected_X1_floor
theorem dX1_corrected_0 : decode cX1_corrected 0 = .ok (.aload_n 0, 1) := by decide +kernel
theorem dX1_corrected_1 : decode cX1_corrected 1 = .ok (.iload_n 1, 1) := by decide +kernel
theorem dX1_corrected_2 : decode cX1_corrected 2 = .ok (.invokevirtual 146, 3) := by decide +kernel
theorem dX1_corrected_5 : decode cX1_corrected 5 = .ok (.istore_n 3, 1) := by decide +kernel
theorem dX1_corrected_6 : decode cX1_corrected 6 = .ok (.aload_n 0, 1) := by decide +kernel
theorem dX1_corrected_7 : decode cX1_corrected 7 = .ok (.iload_n 1, 1) := by decide +kernel
theorem dX1_corrected_8 : decode cX1_corrected 8 = .ok (.invokevirtual 153, 3) := by decide +kernel
theorem dX1_corrected_11 : decode cX1_corrected 11 = .ok (.istore 4, 2) := by decide +kernel
theorem dX1_corrected_13 : decode cX1_corrected 13 = .ok (.aload_n 0, 1) := by decide +kernel
theorem dX1_corrected_14 : decode cX1_corrected 14 = .ok (.iload_n 3, 1) := by decide +kernel
theorem dX1_corrected_15 : decode cX1_corrected 15 = .ok (.iload_n 1, 1) := by decide +kernel
theorem dX1_corrected_16 : decode cX1_corrected 16 = .ok (.iload_n 2, 1) := by decide +kernel
theorem dX1_corrected_17 : decode cX1_corrected 17 = .ok (.invokevirtual 149, 3) := by decide +kernel
theorem dX1_corrected_20 : decode cX1_corrected 20 = .ok (.lstore 5, 2) := by decide +kernel
theorem dX1_corrected_22 : decode cX1_corrected 22 = .ok (.iload_n 3, 1) := by decide +kernel
theorem dX1_corrected_23 : decode cX1_corrected 23 = .ok (.iload_n 1, 1) := by decide +kernel
theorem dX1_corrected_24 : decode cX1_corrected 24 = .ok (.if_icmp .eq 8, 3) := by decide +kernel
theorem dX1_corrected_27 : decode cX1_corrected 27 = .ok (.iload 4, 2) := by decide +kernel
theorem dX1_corrected_29 : decode cX1_corrected 29 = .ok (.ifCond .ge 6, 3) := by decide +kernel
theorem dX1_corrected_32 : decode cX1_corrected 32 = .ok (.lload 5, 2) := by decide +kernel
theorem dX1_corrected_34 : decode cX1_corrected 34 = .ok (.lreturn, 1) := by decide +kernel
theorem dX1_corrected_35 : decode cX1_corrected 35 = .ok (.aload_n 0, 1) := by decide +kernel
theorem dX1_corrected_36 : decode cX1_corrected 36 = .ok (.iload 4, 2) := by decide +kernel
theorem dX1_corrected_38 : decode cX1_corrected 38 = .ok (.iload_n 2, 1) := by decide +kernel
theorem dX1_corrected_39 : decode cX1_corrected 39 = .ok (.invokevirtual 139, 3) := by decide +kernel
theorem dX1_corrected_42 : decode cX1_corrected 42 = .ok (.aload_n 0, 1) := by decide +kernel
theorem dX1_corrected_43 : decode cX1_corrected 43 = .ok (.iload_n 3, 1) := by decide +kernel
theorem dX1_corrected_44 : decode cX1_corrected 44 = .ok (.iload 4, 2) := by decide +kernel
theorem dX1_corrected_46 : decode cX1_corrected 46 = .ok (.iload_n 2, 1) := by decide +kernel
theorem dX1_corrected_47 : decode cX1_corrected 47 = .ok (.invokevirtual 149, 3) := by decide +kernel
theorem dX1_corrected_50 : decode cX1_corrected 50 = .ok (.lsub, 1) := by decide +kernel
theorem dX1_corrected_51 : decode cX1_corrected 51 = .ok (.lstore 7, 2) := by decide +kernel
theorem dX1_corrected_53 : decode cX1_corrected 53 = .ok (.lload 5, 2) := by decide +kernel
theorem dX1_corrected_55 : decode cX1_corrected 55 = .ok (.lload 7, 2) := by decide +kernel
theorem dX1_corrected_57 : decode cX1_corrected 57 = .ok (.iload_n 1, 1) := by decide +kernel
theorem dX1_corrected_58 : decode cX1_corrected 58 = .ok (.iload_n 3, 1) := by decide +kernel
theorem dX1_corrected_59 : decode cX1_corrected 59 = .ok (.isub, 1) := by decide +kernel
theorem dX1_corrected_60 : decode cX1_corrected 60 = .ok (.i2l, 1) := by decide +kernel
theorem dX1_corrected_61 : decode cX1_corrected 61 = .ok (.lmul, 1) := by decide +kernel
theorem dX1_corrected_62 : decode cX1_corrected 62 = .ok (.iload 4, 2) := by decide +kernel
theorem dX1_corrected_64 : decode cX1_corrected 64 = .ok (.iload_n 3, 1) := by decide +kernel
theorem dX1_corrected_65 : decode cX1_corrected 65 = .ok (.isub, 1) := by decide +kernel
theorem dX1_corrected_66 : decode cX1_corrected 66 = .ok (.i2l, 1) := by decide +kernel
theorem dX1_corrected_67 : decode cX1_corrected 67 = .ok (.invokestatic 156, 3) := by decide +kernel
theorem dX1_corrected_70 : decode cX1_corrected 70 = .ok (.ladd, 1) := by decide +kernel
theorem dX1_corrected_71 : decode cX1_corrected 71 = .ok (.lreturn, 1) := by decide +kernel
set_option maxRecDepth 20000 in
theorem ggX1_reckonedNorth_X1_isMoment : GoodIn wsX1_reckonedNorth wsX1_isMoment := goodIn_r _ [6, 7, 8, 9, 5, 10, 49, 50, 51, 52, 53, 54, 55, 56, 57, 58, 59, 60, 61, 62, 63, 64, 65] (by decide +kernel) (by decide +kernel)
set_option maxRecDepth 20000 in
theorem gX1_reckonedNorth_X1_isMoment : GoodIn wsX1_reckonedNorth (wsV RX1 160 RX1 yX1_isMoment wsX1_isMoment) := goodIn_app (goodIn_of _ (by decide +kernel)) ggX1_reckonedNorth_X1_isMoment
set_option maxRecDepth 20000 in
theorem ggX1_reckonedNorth_X1_reckoned : GoodIn wsX1_reckonedNorth wsX1_reckoned := goodIn_r _ [14, 15, 16, 17, 5, 18, 19, 20, 21, 22, 23, 24, 25, 26, 27, 28, 29, 30, 31, 32, 33, 34, 35, 36, 37, 38, 39, 40, 41, 42, 43, 44, 45, 46, 47, 48, 49, 50, 51, 52, 53, 54, 55, 56, 57, 58, 59, 60, 61, 62, 63, 64, 65] (by decide +kernel) (by decide +kernel)
set_option maxRecDepth 20000 in
theorem gX1_reckonedNorth_X1_reckoned : GoodIn wsX1_reckonedNorth (wsV RX1 163 RX1 yX1_reckoned wsX1_reckoned) := goodIn_app (goodIn_of _ (by decide +kernel)) ggX1_reckonedNorth_X1_reckoned
theorem dX1_reckonedNorth_0 : decode cX1_reckonedNorth 0 = .ok (.aload_n 0, 1) := by decide +kernel
theorem dX1_reckonedNorth_1 : decode cX1_reckonedNorth 1 = .ok (.iload_n 1, 1) := by decide +kernel
theorem dX1_reckonedNorth_2 : decode cX1_reckonedNorth 2 = .ok (.invokevirtual 160, 3) := by decide +kernel
theorem dX1_reckonedNorth_5 : decode cX1_reckonedNorth 5 = .ok (.ifCond .eq 12, 3) := by decide +kernel
theorem dX1_reckonedNorth_8 : decode cX1_reckonedNorth 8 = .ok (.aload_n 0, 1) := by decide +kernel
theorem dX1_reckonedNorth_9 : decode cX1_reckonedNorth 9 = .ok (.iload_n 1, 1) := by decide +kernel
theorem dX1_reckonedNorth_10 : decode cX1_reckonedNorth 10 = .ok (.iconst 0, 1) := by decide +kernel
theorem dX1_reckonedNorth_11 : decode cX1_reckonedNorth 11 = .ok (.invokevirtual 163, 3) := by decide +kernel
theorem dX1_reckonedNorth_14 : decode cX1_reckonedNorth 14 = .ok (.goto 6, 3) := by decide +kernel
theorem dX1_reckonedNorth_17 : decode cX1_reckonedNorth 17 = .ok (.ldc2_w 129, 3) := by decide +kernel
theorem dX1_reckonedNorth_20 : decode cX1_reckonedNorth 20 = .ok (.lreturn, 1) := by decide +kernel
set_option maxRecDepth 20000 in
theorem ggX1_reckonedEast_X1_isMoment : GoodIn wsX1_reckonedEast wsX1_isMoment := goodIn_r _ [6, 7, 8, 9, 5, 10, 49, 50, 51, 52, 53, 54, 55, 56, 57, 58, 59, 60, 61, 62, 63, 64, 65] (by decide +kernel) (by decide +kernel)
set_option maxRecDepth 20000 in
theorem gX1_reckonedEast_X1_isMoment : GoodIn wsX1_reckonedEast (wsV RX1 160 RX1 yX1_isMoment wsX1_isMoment) := goodIn_app (goodIn_of _ (by decide +kernel)) ggX1_reckonedEast_X1_isMoment
set_option maxRecDepth 20000 in
theorem ggX1_reckonedEast_X1_reckoned : GoodIn wsX1_reckonedEast wsX1_reckoned := goodIn_r _ [14, 15, 16, 17, 5, 18, 19, 20, 21, 22, 23, 24, 25, 26, 27, 28, 29, 30, 31, 32, 33, 34, 35, 36, 37, 38, 39, 40, 41, 42, 43, 44, 45, 46, 47, 48, 49, 50, 51, 52, 53, 54, 55, 56, 57, 58, 59, 60, 61, 62, 63, 64, 65] (by decide +kernel) (by decide +kernel)
set_option maxRecDepth 20000 in
theorem gX1_reckonedEast_X1_reckoned : GoodIn wsX1_reckonedEast (wsV RX1 163 RX1 yX1_reckoned wsX1_reckoned) := goodIn_app (goodIn_of _ (by decide +kernel)) ggX1_reckonedEast_X1_reckoned
theorem dX1_reckonedEast_0 : decode cX1_reckonedEast 0 = .ok (.aload_n 0, 1) := by decide +kernel
theorem dX1_reckonedEast_1 : decode cX1_reckonedEast 1 = .ok (.iload_n 1, 1) := by decide +kernel
theorem dX1_reckonedEast_2 : decode cX1_reckonedEast 2 = .ok (.invokevirtual 160, 3) := by decide +kernel
theorem dX1_reckonedEast_5 : decode cX1_reckonedEast 5 = .ok (.ifCond .eq 12, 3) := by decide +kernel
theorem dX1_reckonedEast_8 : decode cX1_reckonedEast 8 = .ok (.aload_n 0, 1) := by decide +kernel
theorem dX1_reckonedEast_9 : decode cX1_reckonedEast 9 = .ok (.iload_n 1, 1) := by decide +kernel
theorem dX1_reckonedEast_10 : decode cX1_reckonedEast 10 = .ok (.iconst 1, 1) := by decide +kernel
theorem dX1_reckonedEast_11 : decode cX1_reckonedEast 11 = .ok (.invokevirtual 163, 3) := by decide +kernel
theorem dX1_reckonedEast_14 : decode cX1_reckonedEast 14 = .ok (.goto 6, 3) := by decide +kernel
theorem dX1_reckonedEast_17 : decode cX1_reckonedEast 17 = .ok (.ldc2_w 129, 3) := by decide +kernel
theorem dX1_reckonedEast_20 : decode cX1_reckonedEast 20 = .ok (.lreturn, 1) := by decide +kernel
set_option maxRecDepth 20000 in
theorem ggX1_correctedNorth_X1_isMoment : GoodIn wsX1_correctedNorth wsX1_isMoment := goodIn_r _ [6, 7, 8, 9, 5, 10, 56, 57, 58, 59, 60, 61, 62, 63, 64, 65, 66, 67, 68, 69, 70, 71, 72] (by decide +kernel) (by decide +kernel)
set_option maxRecDepth 20000 in
theorem gX1_correctedNorth_X1_isMoment : GoodIn wsX1_correctedNorth (wsV RX1 160 RX1 yX1_isMoment wsX1_isMoment) := goodIn_app (goodIn_of _ (by decide +kernel)) ggX1_correctedNorth_X1_isMoment
set_option maxRecDepth 20000 in
theorem ggX1_correctedNorth_X1_corrected : GoodIn wsX1_correctedNorth wsX1_corrected := goodIn_r _ [14, 15, 16, 17, 5, 18, 19, 20, 21, 22, 23, 7, 24, 25, 26, 27, 28, 29, 30, 31, 32, 33, 34, 35, 36, 37, 38, 39, 40, 41, 42, 43, 44, 45, 46, 47, 48, 49, 50, 51, 52, 53, 54, 55, 56, 57, 58, 59, 60, 61, 62, 63, 64, 65, 66, 67, 68, 69, 70, 71, 72] (by decide +kernel) (by decide +kernel)
set_option maxRecDepth 20000 in
theorem gX1_correctedNorth_X1_corrected : GoodIn wsX1_correctedNorth (wsV RX1 166 RX1 yX1_corrected wsX1_corrected) := goodIn_app (goodIn_of _ (by decide +kernel)) ggX1_correctedNorth_X1_corrected
theorem dX1_correctedNorth_0 : decode cX1_correctedNorth 0 = .ok (.aload_n 0, 1) := by decide +kernel
theorem dX1_correctedNorth_1 : decode cX1_correctedNorth 1 = .ok (.iload_n 1, 1) := by decide +kernel
theorem dX1_correctedNorth_2 : decode cX1_correctedNorth 2 = .ok (.invokevirtual 160, 3) := by decide +kernel
theorem dX1_correctedNorth_5 : decode cX1_correctedNorth 5 = .ok (.ifCond .eq 12, 3) := by decide +kernel
theorem dX1_correctedNorth_8 : decode cX1_correctedNorth 8 = .ok (.aload_n 0, 1) := by decide +kernel
theorem dX1_correctedNorth_9 : decode cX1_correctedNorth 9 = .ok (.iload_n 1, 1) := by decide +kernel
theorem dX1_correctedNorth_10 : decode cX1_correctedNorth 10 = .ok (.iconst 0, 1) := by decide +kernel
theorem dX1_correctedNorth_11 : decode cX1_correctedNorth 11 = .ok (.invokevirtual 166, 3) := by decide +kernel
theorem dX1_correctedNorth_14 : decode cX1_correctedNorth 14 = .ok (.goto 6, 3) := by decide +kernel
theorem dX1_correctedNorth_17 : decode cX1_correctedNorth 17 = .ok (.ldc2_w 129, 3) := by decide +kernel
theorem dX1_correctedNorth_20 : decode cX1_correctedNorth 20 = .ok (.lreturn, 1) := by decide +kernel
set_option maxRecDepth 20000 in
theorem ggX1_correctedEast_X1_isMoment : GoodIn wsX1_correctedEast wsX1_isMoment := goodIn_r _ [6, 7, 8, 9, 5, 10, 56, 57, 58, 59, 60, 61, 62, 63, 64, 65, 66, 67, 68, 69, 70, 71, 72] (by decide +kernel) (by decide +kernel)
set_option maxRecDepth 20000 in
theorem gX1_correctedEast_X1_isMoment : GoodIn wsX1_correctedEast (wsV RX1 160 RX1 yX1_isMoment wsX1_isMoment) := goodIn_app (goodIn_of _ (by decide +kernel)) ggX1_correctedEast_X1_isMoment
set_option maxRecDepth 20000 in
theorem ggX1_correctedEast_X1_corrected : GoodIn wsX1_correctedEast wsX1_corrected := goodIn_r _ [14, 15, 16, 17, 5, 18, 19, 20, 21, 22, 23, 7, 24, 25, 26, 27, 28, 29, 30, 31, 32, 33, 34, 35, 36, 37, 38, 39, 40, 41, 42, 43, 44, 45, 46, 47, 48, 49, 50, 51, 52, 53, 54, 55, 56, 57, 58, 59, 60, 61, 62, 63, 64, 65, 66, 67, 68, 69, 70, 71, 72] (by decide +kernel) (by decide +kernel)
set_option maxRecDepth 20000 in
theorem gX1_correctedEast_X1_corrected : GoodIn wsX1_correctedEast (wsV RX1 166 RX1 yX1_corrected wsX1_corrected) := goodIn_app (goodIn_of _ (by decide +kernel)) ggX1_correctedEast_X1_corrected
theorem dX1_correctedEast_0 : decode cX1_correctedEast 0 = .ok (.aload_n 0, 1) := by decide +kernel
theorem dX1_correctedEast_1 : decode cX1_correctedEast 1 = .ok (.iload_n 1, 1) := by decide +kernel
theorem dX1_correctedEast_2 : decode cX1_correctedEast 2 = .ok (.invokevirtual 160, 3) := by decide +kernel
theorem dX1_correctedEast_5 : decode cX1_correctedEast 5 = .ok (.ifCond .eq 12, 3) := by decide +kernel
theorem dX1_correctedEast_8 : decode cX1_correctedEast 8 = .ok (.aload_n 0, 1) := by decide +kernel
theorem dX1_correctedEast_9 : decode cX1_correctedEast 9 = .ok (.iload_n 1, 1) := by decide +kernel
theorem dX1_correctedEast_10 : decode cX1_correctedEast 10 = .ok (.iconst 1, 1) := by decide +kernel
theorem dX1_correctedEast_11 : decode cX1_correctedEast 11 = .ok (.invokevirtual 166, 3) := by decide +kernel
theorem dX1_correctedEast_14 : decode cX1_correctedEast 14 = .ok (.goto 6, 3) := by decide +kernel
theorem dX1_correctedEast_17 : decode cX1_correctedEast 17 = .ok (.ldc2_w 129, 3) := by decide +kernel
theorem dX1_correctedEast_20 : decode cX1_correctedEast 20 = .ok (.lreturn, 1) := by decide +kernel
set_option maxRecDepth 20000 in
theorem ggX1_distanceNow_X1_corrected : GoodIn wsX1_distanceNow wsX1_corrected := goodIn_r _ [7, 8, 9, 10, 6, 11, 12, 13, 14, 15, 16, 17, 18, 19, 20, 21, 22, 23, 24, 25, 26, 27, 28, 29, 30, 31, 32, 33, 34, 35, 36, 37, 38, 39, 40, 41, 42, 43, 44, 45, 46, 47, 48, 49, 50, 51, 52, 53, 54, 55, 56, 57, 58, 59, 60, 61, 62, 63, 64, 65, 66] (by decide +kernel) (by decide +kernel)
set_option maxRecDepth 20000 in
theorem gX1_distanceNow_X1_corrected : GoodIn wsX1_distanceNow (wsV RX1 166 RX1 yX1_corrected wsX1_corrected) := goodIn_app (goodIn_of _ (by decide +kernel)) ggX1_distanceNow_X1_corrected
theorem dX1_distanceNow_0 : decode cX1_distanceNow 0 = .ok (.aload_n 0, 1) := by decide +kernel
theorem dX1_distanceNow_1 : decode cX1_distanceNow 1 = .ok (.iload_n 2, 1) := by decide +kernel
theorem dX1_distanceNow_2 : decode cX1_distanceNow 2 = .ok (.iconst 0, 1) := by decide +kernel
theorem dX1_distanceNow_3 : decode cX1_distanceNow 3 = .ok (.invokevirtual 166, 3) := by decide +kernel
theorem dX1_distanceNow_6 : decode cX1_distanceNow 6 = .ok (.aload_n 0, 1) := by decide +kernel
theorem dX1_distanceNow_7 : decode cX1_distanceNow 7 = .ok (.iload_n 1, 1) := by decide +kernel
theorem dX1_distanceNow_8 : decode cX1_distanceNow 8 = .ok (.iconst 0, 1) := by decide +kernel
theorem dX1_distanceNow_9 : decode cX1_distanceNow 9 = .ok (.invokevirtual 166, 3) := by decide +kernel
theorem dX1_distanceNow_12 : decode cX1_distanceNow 12 = .ok (.lsub, 1) := by decide +kernel
theorem dX1_distanceNow_13 : decode cX1_distanceNow 13 = .ok (.lstore_n 3, 1) := by decide +kernel
theorem dX1_distanceNow_14 : decode cX1_distanceNow 14 = .ok (.aload_n 0, 1) := by decide +kernel
theorem dX1_distanceNow_15 : decode cX1_distanceNow 15 = .ok (.iload_n 2, 1) := by decide +kernel
theorem dX1_distanceNow_16 : decode cX1_distanceNow 16 = .ok (.iconst 1, 1) := by decide +kernel
theorem dX1_distanceNow_17 : decode cX1_distanceNow 17 = .ok (.invokevirtual 166, 3) := by decide +kernel
theorem dX1_distanceNow_20 : decode cX1_distanceNow 20 = .ok (.aload_n 0, 1) := by decide +kernel
theorem dX1_distanceNow_21 : decode cX1_distanceNow 21 = .ok (.iload_n 1, 1) := by decide +kernel
theorem dX1_distanceNow_22 : decode cX1_distanceNow 22 = .ok (.iconst 1, 1) := by decide +kernel
theorem dX1_distanceNow_23 : decode cX1_distanceNow 23 = .ok (.invokevirtual 166, 3) := by decide +kernel
theorem dX1_distanceNow_26 : decode cX1_distanceNow 26 = .ok (.lsub, 1) := by decide +kernel
theorem dX1_distanceNow_27 : decode cX1_distanceNow 27 = .ok (.lstore 5, 2) := by decide +kernel
theorem dX1_distanceNow_29 : decode cX1_distanceNow 29 = .ok (.lload_n 3, 1) := by decide +kernel
theorem dX1_distanceNow_30 : decode cX1_distanceNow 30 = .ok (.lload_n 3, 1) := by decide +kernel
theorem dX1_distanceNow_31 : decode cX1_distanceNow 31 = .ok (.lmul, 1) := by decide +kernel
theorem dX1_distanceNow_32 : decode cX1_distanceNow 32 = .ok (.lload 5, 2) := by decide +kernel
theorem dX1_distanceNow_34 : decode cX1_distanceNow 34 = .ok (.lload 5, 2) := by decide +kernel
theorem dX1_distanceNow_36 : decode cX1_distanceNow 36 = .ok (.lmul, 1) := by decide +kernel
theorem dX1_distanceNow_37 : decode cX1_distanceNow 37 = .ok (.ladd, 1) := by decide +kernel
theorem dX1_distanceNow_38 : decode cX1_distanceNow 38 = .ok (.lstore 7, 2) := by decide +kernel
theorem dX1_distanceNow_40 : decode cX1_distanceNow 40 = .ok (.lconst 0, 1) := by decide +kernel
theorem dX1_distanceNow_41 : decode cX1_distanceNow 41 = .ok (.lstore 9, 2) := by decide +kernel
theorem dX1_distanceNow_43 : decode cX1_distanceNow 43 = .ok (.ldc2_w 169, 3) := by decide +kernel
theorem dX1_distanceNow_46 : decode cX1_distanceNow 46 = .ok (.lstore 11, 2) := by decide +kernel
theorem dX1_distanceNow_48 : decode cX1_distanceNow 48 = .ok (.lload 9, 2) := by decide +kernel
theorem dX1_distanceNow_50 : decode cX1_distanceNow 50 = .ok (.lload 11, 2) := by decide +kernel
theorem dX1_distanceNow_52 : decode cX1_distanceNow 52 = .ok (.lcmp, 1) := by decide +kernel
theorem dX1_distanceNow_53 : decode cX1_distanceNow 53 = .ok (.ifCond .ge 43, 3) := by decide +kernel
theorem dX1_distanceNow_56 : decode cX1_distanceNow 56 = .ok (.lload 9, 2) := by decide +kernel
theorem dX1_distanceNow_58 : decode cX1_distanceNow 58 = .ok (.lload 11, 2) := by decide +kernel
theorem dX1_distanceNow_60 : decode cX1_distanceNow 60 = .ok (.ladd, 1) := by decide +kernel
theorem dX1_distanceNow_61 : decode cX1_distanceNow 61 = .ok (.lconst 1, 1) := by decide +kernel
theorem dX1_distanceNow_62 : decode cX1_distanceNow 62 = .ok (.ladd, 1) := by decide +kernel
theorem dX1_distanceNow_63 : decode cX1_distanceNow 63 = .ok (.ldc2_w 171, 3) := by decide +kernel
theorem dX1_distanceNow_66 : decode cX1_distanceNow 66 = .ok (.ldiv, 1) := by decide +kernel
theorem dX1_distanceNow_67 : decode cX1_distanceNow 67 = .ok (.lstore 13, 2) := by decide +kernel
theorem dX1_distanceNow_69 : decode cX1_distanceNow 69 = .ok (.lload 13, 2) := by decide +kernel
theorem dX1_distanceNow_71 : decode cX1_distanceNow 71 = .ok (.lload 13, 2) := by decide +kernel
theorem dX1_distanceNow_73 : decode cX1_distanceNow 73 = .ok (.lmul, 1) := by decide +kernel
theorem dX1_distanceNow_74 : decode cX1_distanceNow 74 = .ok (.lload 7, 2) := by decide +kernel
theorem dX1_distanceNow_76 : decode cX1_distanceNow 76 = .ok (.lcmp, 1) := by decide +kernel
theorem dX1_distanceNow_77 : decode cX1_distanceNow 77 = .ok (.ifCond .gt 10, 3) := by decide +kernel
theorem dX1_distanceNow_80 : decode cX1_distanceNow 80 = .ok (.lload 13, 2) := by decide +kernel
theorem dX1_distanceNow_82 : decode cX1_distanceNow 82 = .ok (.lstore 9, 2) := by decide +kernel
theorem dX1_distanceNow_84 : decode cX1_distanceNow 84 = .ok (.goto 9, 3) := by decide +kernel
theorem dX1_distanceNow_87 : decode cX1_distanceNow 87 = .ok (.lload 13, 2) := by decide +kernel
theorem dX1_distanceNow_89 : decode cX1_distanceNow 89 = .ok (.lconst 1, 1) := by decide +kernel
theorem dX1_distanceNow_90 : decode cX1_distanceNow 90 = .ok (.lsub, 1) := by decide +kernel
theorem dX1_distanceNow_91 : decode cX1_distanceNow 91 = .ok (.lstore 11, 2) := by decide +kernel
theorem dX1_distanceNow_93 : decode cX1_distanceNow 93 = .ok (.goto (-45), 3) := by decide +kernel
theorem dX1_distanceNow_96 : decode cX1_distanceNow 96 = .ok (.lload 9, 2) := by decide +kernel
theorem dX1_distanceNow_98 : decode cX1_distanceNow 98 = .ok (.lreturn, 1) := by decide +kernel
set_option maxRecDepth 20000 in
theorem ggX1_distance_X1_isMoment : GoodIn wsX1_distance wsX1_isMoment := goodIn_r _ [6, 7, 8, 9, 5, 10, 62, 63, 64, 65, 66, 67, 68, 69, 70, 71, 72, 73, 74, 75, 76, 77, 78] (by decide +kernel) (by decide +kernel)
set_option maxRecDepth 20000 in
theorem gX1_distance_X1_isMoment : GoodIn wsX1_distance (wsV RX1 160 RX1 yX1_isMoment wsX1_isMoment) := goodIn_app (goodIn_of _ (by decide +kernel)) ggX1_distance_X1_isMoment
set_option maxRecDepth 20000 in
theorem ggX1_distance_X1_distanceNow : GoodIn wsX1_distance wsX1_distanceNow := goodIn_r _ [14, 15, 16, 17, 18, 19, 5, 20, 21, 22, 23, 24, 25, 26, 27, 28, 29, 7, 30, 31, 32, 33, 34, 35, 36, 37, 38, 39, 40, 41, 42, 43, 44, 45, 46, 47, 48, 49, 50, 51, 52, 53, 54, 55, 56, 57, 58, 59, 60, 61, 62, 63, 64, 65, 66, 67, 68, 69, 70, 71, 72, 73, 74, 75, 76, 77, 78] (by decide +kernel) (by decide +kernel)
set_option maxRecDepth 20000 in
theorem gX1_distance_X1_distanceNow : GoodIn wsX1_distance (wsV RX1 173 RX1 yX1_distanceNow wsX1_distanceNow) := goodIn_app (goodIn_of _ (by decide +kernel)) ggX1_distance_X1_distanceNow
theorem dX1_distance_0 : decode cX1_distance 0 = .ok (.aload_n 0, 1) := by decide +kernel
theorem dX1_distance_1 : decode cX1_distance 1 = .ok (.iload_n 1, 1) := by decide +kernel
theorem dX1_distance_2 : decode cX1_distance 2 = .ok (.invokevirtual 160, 3) := by decide +kernel
theorem dX1_distance_5 : decode cX1_distance 5 = .ok (.ifCond .eq 20, 3) := by decide +kernel
theorem dX1_distance_8 : decode cX1_distance 8 = .ok (.aload_n 0, 1) := by decide +kernel
theorem dX1_distance_9 : decode cX1_distance 9 = .ok (.iload_n 2, 1) := by decide +kernel
theorem dX1_distance_10 : decode cX1_distance 10 = .ok (.invokevirtual 160, 3) := by decide +kernel
theorem dX1_distance_13 : decode cX1_distance 13 = .ok (.ifCond .eq 12, 3) := by decide +kernel
theorem dX1_distance_16 : decode cX1_distance 16 = .ok (.aload_n 0, 1) := by decide +kernel
theorem dX1_distance_17 : decode cX1_distance 17 = .ok (.iload_n 1, 1) := by decide +kernel
theorem dX1_distance_18 : decode cX1_distance 18 = .ok (.iload_n 2, 1) := by decide +kernel
theorem dX1_distance_19 : decode cX1_distance 19 = .ok (.invokevirtual 173, 3) := by decide +kernel
theorem dX1_distance_22 : decode cX1_distance 22 = .ok (.goto 6, 3) := by decide +kernel
theorem dX1_distance_25 : decode cX1_distance 25 = .ok (.ldc2_w 129, 3) := by decide +kernel
theorem dX1_distance_28 : decode cX1_distance 28 = .ok (.lreturn, 1) := by decide +kernel
set_option maxRecDepth 20000 in
theorem ggX1_bearingNow_X1_corrected : GoodIn wsX1_bearingNow wsX1_corrected := goodIn_r _ [6, 7, 8, 9, 5, 10, 11, 12, 13, 14, 15, 16, 17, 18, 19, 20, 21, 22, 23, 24, 25, 26, 27, 28, 29, 30, 31, 32, 33, 34, 35, 36, 37, 38, 39, 40, 41, 42, 43, 44, 45, 46, 47, 48, 49, 50, 51, 52, 53, 54, 55, 56, 57, 58, 59, 60, 61, 62, 63, 64, 65] (by decide +kernel) (by decide +kernel)
set_option maxRecDepth 20000 in
theorem gX1_bearingNow_X1_corrected : GoodIn wsX1_bearingNow (wsV RX1 166 RX1 yX1_corrected wsX1_corrected) := goodIn_app (goodIn_of _ (by decide +kernel)) ggX1_bearingNow_X1_corrected
set_option maxRecDepth 20000 in
theorem ggX1_bearingNow_X1_cosine : GoodIn wsX1_bearingNow wsX1_cosine := goodIn_r _ [39, 40, 41, 5, 42, 43, 44, 45] (by decide +kernel) (by decide +kernel)
set_option maxRecDepth 20000 in
theorem gX1_bearingNow_X1_cosine : GoodIn wsX1_bearingNow (va_wsS RX1 136 yX1_cosine wsX1_cosine) := goodIn_app (goodIn_of _ (by decide +kernel)) ggX1_bearingNow_X1_cosine
set_option maxRecDepth 20000 in
theorem ggX1_bearingNow_X1_sine : GoodIn wsX1_bearingNow wsX1_sine := goodIn_r _ [42, 43, 44, 5, 45] (by decide +kernel) (by decide +kernel)
set_option maxRecDepth 20000 in
theorem gX1_bearingNow_X1_sine : GoodIn wsX1_bearingNow (va_wsS RX1 44 yX1_sine wsX1_sine) := goodIn_app (goodIn_of _ (by decide +kernel)) ggX1_bearingNow_X1_sine
theorem dX1_bearingNow_0 : decode cX1_bearingNow 0 = .ok (.aload_n 0, 1) := by decide +kernel
theorem dX1_bearingNow_1 : decode cX1_bearingNow 1 = .ok (.iload_n 2, 1) := by decide +kernel
theorem dX1_bearingNow_2 : decode cX1_bearingNow 2 = .ok (.iconst 0, 1) := by decide +kernel
theorem dX1_bearingNow_3 : decode cX1_bearingNow 3 = .ok (.invokevirtual 166, 3) := by decide +kernel
theorem dX1_bearingNow_6 : decode cX1_bearingNow 6 = .ok (.aload_n 0, 1) := by decide +kernel
theorem dX1_bearingNow_7 : decode cX1_bearingNow 7 = .ok (.iload_n 1, 1) := by decide +kernel
theorem dX1_bearingNow_8 : decode cX1_bearingNow 8 = .ok (.iconst 0, 1) := by decide +kernel
theorem dX1_bearingNow_9 : decode cX1_bearingNow 9 = .ok (.invokevirtual 166, 3) := by decide +kernel
theorem dX1_bearingNow_12 : decode cX1_bearingNow 12 = .ok (.lsub, 1) := by decide +kernel
theorem dX1_bearingNow_13 : decode cX1_bearingNow 13 = .ok (.lstore_n 3, 1) := by decide +kernel
theorem dX1_bearingNow_14 : decode cX1_bearingNow 14 = .ok (.aload_n 0, 1) := by decide +kernel
theorem dX1_bearingNow_15 : decode cX1_bearingNow 15 = .ok (.iload_n 2, 1) := by decide +kernel
theorem dX1_bearingNow_16 : decode cX1_bearingNow 16 = .ok (.iconst 1, 1) := by decide +kernel
theorem dX1_bearingNow_17 : decode cX1_bearingNow 17 = .ok (.invokevirtual 166, 3) := by decide +kernel
theorem dX1_bearingNow_20 : decode cX1_bearingNow 20 = .ok (.aload_n 0, 1) := by decide +kernel
theorem dX1_bearingNow_21 : decode cX1_bearingNow 21 = .ok (.iload_n 1, 1) := by decide +kernel
theorem dX1_bearingNow_22 : decode cX1_bearingNow 22 = .ok (.iconst 1, 1) := by decide +kernel
theorem dX1_bearingNow_23 : decode cX1_bearingNow 23 = .ok (.invokevirtual 166, 3) := by decide +kernel
theorem dX1_bearingNow_26 : decode cX1_bearingNow 26 = .ok (.lsub, 1) := by decide +kernel
theorem dX1_bearingNow_27 : decode cX1_bearingNow 27 = .ok (.lstore 5, 2) := by decide +kernel
theorem dX1_bearingNow_29 : decode cX1_bearingNow 29 = .ok (.lload_n 3, 1) := by decide +kernel
theorem dX1_bearingNow_30 : decode cX1_bearingNow 30 = .ok (.lconst 0, 1) := by decide +kernel
theorem dX1_bearingNow_31 : decode cX1_bearingNow 31 = .ok (.lcmp, 1) := by decide +kernel
theorem dX1_bearingNow_32 : decode cX1_bearingNow 32 = .ok (.ifCond .ne 14, 3) := by decide +kernel
theorem dX1_bearingNow_35 : decode cX1_bearingNow 35 = .ok (.lload 5, 2) := by decide +kernel
theorem dX1_bearingNow_37 : decode cX1_bearingNow 37 = .ok (.lconst 0, 1) := by decide +kernel
theorem dX1_bearingNow_38 : decode cX1_bearingNow 38 = .ok (.lcmp, 1) := by decide +kernel
theorem dX1_bearingNow_39 : decode cX1_bearingNow 39 = .ok (.ifCond .ne 7, 3) := by decide +kernel
theorem dX1_bearingNow_42 : decode cX1_bearingNow 42 = .ok (.ldc2_w 108, 3) := by decide +kernel
theorem dX1_bearingNow_45 : decode cX1_bearingNow 45 = .ok (.lreturn, 1) := by decide +kernel
theorem dX1_bearingNow_46 : decode cX1_bearingNow 46 = .ok (.iconst 0, 1) := by decide +kernel
theorem dX1_bearingNow_47 : decode cX1_bearingNow 47 = .ok (.istore 7, 2) := by decide +kernel
theorem dX1_bearingNow_49 : decode cX1_bearingNow 49 = .ok (.iconst 1, 1) := by decide +kernel
theorem dX1_bearingNow_50 : decode cX1_bearingNow 50 = .ok (.istore 8, 2) := by decide +kernel
theorem dX1_bearingNow_52 : decode cX1_bearingNow 52 = .ok (.iload 8, 2) := by decide +kernel
theorem dX1_bearingNow_54 : decode cX1_bearingNow 54 = .ok (.bipush 32, 2) := by decide +kernel
theorem dX1_bearingNow_56 : decode cX1_bearingNow 56 = .ok (.if_icmp .ge 58, 3) := by decide +kernel
theorem dX1_bearingNow_59 : decode cX1_bearingNow 59 = .ok (.lload_n 3, 1) := by decide +kernel
theorem dX1_bearingNow_60 : decode cX1_bearingNow 60 = .ok (.iload 8, 2) := by decide +kernel
theorem dX1_bearingNow_62 : decode cX1_bearingNow 62 = .ok (.invokestatic 136, 3) := by decide +kernel
theorem dX1_bearingNow_65 : decode cX1_bearingNow 65 = .ok (.i2l, 1) := by decide +kernel
theorem dX1_bearingNow_66 : decode cX1_bearingNow 66 = .ok (.lmul, 1) := by decide +kernel
theorem dX1_bearingNow_67 : decode cX1_bearingNow 67 = .ok (.lload 5, 2) := by decide +kernel
theorem dX1_bearingNow_69 : decode cX1_bearingNow 69 = .ok (.iload 8, 2) := by decide +kernel
theorem dX1_bearingNow_71 : decode cX1_bearingNow 71 = .ok (.invokestatic 44, 3) := by decide +kernel
theorem dX1_bearingNow_74 : decode cX1_bearingNow 74 = .ok (.i2l, 1) := by decide +kernel
theorem dX1_bearingNow_75 : decode cX1_bearingNow 75 = .ok (.lmul, 1) := by decide +kernel
theorem dX1_bearingNow_76 : decode cX1_bearingNow 76 = .ok (.ladd, 1) := by decide +kernel
theorem dX1_bearingNow_77 : decode cX1_bearingNow 77 = .ok (.lload_n 3, 1) := by decide +kernel
theorem dX1_bearingNow_78 : decode cX1_bearingNow 78 = .ok (.iload 7, 2) := by decide +kernel
theorem dX1_bearingNow_80 : decode cX1_bearingNow 80 = .ok (.invokestatic 136, 3) := by decide +kernel
theorem dX1_bearingNow_83 : decode cX1_bearingNow 83 = .ok (.i2l, 1) := by decide +kernel
theorem dX1_bearingNow_84 : decode cX1_bearingNow 84 = .ok (.lmul, 1) := by decide +kernel
theorem dX1_bearingNow_85 : decode cX1_bearingNow 85 = .ok (.lload 5, 2) := by decide +kernel
theorem dX1_bearingNow_87 : decode cX1_bearingNow 87 = .ok (.iload 7, 2) := by decide +kernel
theorem dX1_bearingNow_89 : decode cX1_bearingNow 89 = .ok (.invokestatic 44, 3) := by decide +kernel
theorem dX1_bearingNow_92 : decode cX1_bearingNow 92 = .ok (.i2l, 1) := by decide +kernel
theorem dX1_bearingNow_93 : decode cX1_bearingNow 93 = .ok (.lmul, 1) := by decide +kernel
theorem dX1_bearingNow_94 : decode cX1_bearingNow 94 = .ok (.ladd, 1) := by decide +kernel
theorem dX1_bearingNow_95 : decode cX1_bearingNow 95 = .ok (.lcmp, 1) := by decide +kernel
theorem dX1_bearingNow_96 : decode cX1_bearingNow 96 = .ok (.ifCond .le 8, 3) := by decide +kernel
theorem dX1_bearingNow_99 : decode cX1_bearingNow 99 = .ok (.iload 8, 2) := by decide +kernel
theorem dX1_bearingNow_101 : decode cX1_bearingNow 101 = .ok (.goto 5, 3) := by decide +kernel
theorem dX1_bearingNow_104 : decode cX1_bearingNow 104 = .ok (.iload 7, 2) := by decide +kernel
theorem dX1_bearingNow_106 : decode cX1_bearingNow 106 = .ok (.istore 7, 2) := by decide +kernel
theorem dX1_bearingNow_108 : decode cX1_bearingNow 108 = .ok (.iinc 8 1, 3) := by decide +kernel
theorem dX1_bearingNow_111 : decode cX1_bearingNow 111 = .ok (.goto (-59), 3) := by decide +kernel
theorem dX1_bearingNow_114 : decode cX1_bearingNow 114 = .ok (.iload 7, 2) := by decide +kernel
theorem dX1_bearingNow_116 : decode cX1_bearingNow 116 = .ok (.i2l, 1) := by decide +kernel
theorem dX1_bearingNow_117 : decode cX1_bearingNow 117 = .ok (.lreturn, 1) := by decide +kernel
set_option maxRecDepth 20000 in
theorem ggX1_bearing_X1_isMoment : GoodIn wsX1_bearing wsX1_isMoment := goodIn_r _ [6, 7, 8, 9, 5, 10, 61, 62, 63, 64, 65, 66, 67, 68, 69, 70, 71, 72, 73, 74, 75, 76, 77] (by decide +kernel) (by decide +kernel)
set_option maxRecDepth 20000 in
theorem gX1_bearing_X1_isMoment : GoodIn wsX1_bearing (wsV RX1 160 RX1 yX1_isMoment wsX1_isMoment) := goodIn_app (goodIn_of _ (by decide +kernel)) ggX1_bearing_X1_isMoment
set_option maxRecDepth 20000 in
theorem ggX1_bearing_X1_bearingNow : GoodIn wsX1_bearing wsX1_bearingNow := goodIn_r _ [14, 15, 16, 17, 18, 5, 19, 20, 21, 22, 23, 24, 25, 26, 27, 28, 7, 29, 30, 31, 32, 33, 34, 35, 36, 37, 38, 39, 40, 41, 42, 43, 44, 45, 46, 47, 48, 49, 50, 51, 52, 53, 54, 55, 56, 57, 58, 59, 60, 61, 62, 63, 64, 65, 66, 67, 68, 69, 70, 71, 72, 73, 74, 75, 76, 77] (by decide +kernel) (by decide +kernel)
set_option maxRecDepth 20000 in
theorem gX1_bearing_X1_bearingNow : GoodIn wsX1_bearing (wsV RX1 176 RX1 yX1_bearingNow wsX1_bearingNow) := goodIn_app (goodIn_of _ (by decide +kernel)) ggX1_bearing_X1_bearingNow
theorem dX1_bearing_0 : decode cX1_bearing 0 = .ok (.aload_n 0, 1) := by decide +kernel
theorem dX1_bearing_1 : decode cX1_bearing 1 = .ok (.iload_n 1, 1) := by decide +kernel
theorem dX1_bearing_2 : decode cX1_bearing 2 = .ok (.invokevirtual 160, 3) := by decide +kernel
theorem dX1_bearing_5 : decode cX1_bearing 5 = .ok (.ifCond .eq 20, 3) := by decide +kernel
theorem dX1_bearing_8 : decode cX1_bearing 8 = .ok (.aload_n 0, 1) := by decide +kernel
theorem dX1_bearing_9 : decode cX1_bearing 9 = .ok (.iload_n 2, 1) := by decide +kernel
theorem dX1_bearing_10 : decode cX1_bearing 10 = .ok (.invokevirtual 160, 3) := by decide +kernel
theorem dX1_bearing_13 : decode cX1_bearing 13 = .ok (.ifCond .eq 12, 3) := by decide +kernel
theorem dX1_bearing_16 : decode cX1_bearing 16 = .ok (.aload_n 0, 1) := by decide +kernel
theorem dX1_bearing_17 : decode cX1_bearing 17 = .ok (.iload_n 1, 1) := by decide +kernel
theorem dX1_bearing_18 : decode cX1_bearing 18 = .ok (.iload_n 2, 1) := by decide +kernel
theorem dX1_bearing_19 : decode cX1_bearing 19 = .ok (.invokevirtual 176, 3) := by decide +kernel
theorem dX1_bearing_22 : decode cX1_bearing 22 = .ok (.goto 6, 3) := by decide +kernel
theorem dX1_bearing_25 : decode cX1_bearing 25 = .ok (.ldc2_w 129, 3) := by decide +kernel
theorem dX1_bearing_28 : decode cX1_bearing 28 = .ok (.lreturn, 1) := by decide +kernel
theorem dX1_isOtherLost_0 : decode cX1_isOtherLost 0 = .ok (.iconst 0, 1) := by decide +kernel
theorem dX1_isOtherLost_1 : decode cX1_isOtherLost 1 = .ok (.istore 4, 2) := by decide +kernel
theorem dX1_isOtherLost_3 : decode cX1_isOtherLost 3 = .ok (.iload_n 2, 1) := by decide +kernel
theorem dX1_isOtherLost_4 : decode cX1_isOtherLost 4 = .ok (.istore 5, 2) := by decide +kernel
theorem dX1_isOtherLost_6 : decode cX1_isOtherLost 6 = .ok (.iload 5, 2) := by decide +kernel
theorem dX1_isOtherLost_8 : decode cX1_isOtherLost 8 = .ok (.iload_n 3, 1) := by decide +kernel
theorem dX1_isOtherLost_9 : decode cX1_isOtherLost 9 = .ok (.if_icmp .ge 37, 3) := by decide +kernel
theorem dX1_isOtherLost_12 : decode cX1_isOtherLost 12 = .ok (.iload 4, 2) := by decide +kernel
theorem dX1_isOtherLost_14 : decode cX1_isOtherLost 14 = .ok (.ifCond .ne 19, 3) := by decide +kernel
theorem dX1_isOtherLost_17 : decode cX1_isOtherLost 17 = .ok (.iload 5, 2) := by decide +kernel
theorem dX1_isOtherLost_19 : decode cX1_isOtherLost 19 = .ok (.iload_n 1, 1) := by decide +kernel
theorem dX1_isOtherLost_20 : decode cX1_isOtherLost 20 = .ok (.if_icmp .eq 17, 3) := by decide +kernel
theorem dX1_isOtherLost_23 : decode cX1_isOtherLost 23 = .ok (.aload_n 0, 1) := by decide +kernel
theorem dX1_isOtherLost_24 : decode cX1_isOtherLost 24 = .ok (.getfield 22, 3) := by decide +kernel
theorem dX1_isOtherLost_27 : decode cX1_isOtherLost 27 = .ok (.iload 5, 2) := by decide +kernel
theorem dX1_isOtherLost_29 : decode cX1_isOtherLost 29 = .ok (.baload, 1) := by decide +kernel
theorem dX1_isOtherLost_30 : decode cX1_isOtherLost 30 = .ok (.ifCond .eq 7, 3) := by decide +kernel
theorem dX1_isOtherLost_33 : decode cX1_isOtherLost 33 = .ok (.iconst 1, 1) := by decide +kernel
theorem dX1_isOtherLost_34 : decode cX1_isOtherLost 34 = .ok (.goto 4, 3) := by decide +kernel
theorem dX1_isOtherLost_37 : decode cX1_isOtherLost 37 = .ok (.iconst 0, 1) := by decide +kernel
theorem dX1_isOtherLost_38 : decode cX1_isOtherLost 38 = .ok (.istore 4, 2) := by decide +kernel
theorem dX1_isOtherLost_40 : decode cX1_isOtherLost 40 = .ok (.iinc 5 1, 3) := by decide +kernel
theorem dX1_isOtherLost_43 : decode cX1_isOtherLost 43 = .ok (.goto (-37), 3) := by decide +kernel
theorem dX1_isOtherLost_46 : decode cX1_isOtherLost 46 = .ok (.iload 4, 2) := by decide +kernel
theorem dX1_isOtherLost_48 : decode cX1_isOtherLost 48 = .ok (.ireturn, 1) := by decide +kernel
set_option maxRecDepth 20000 in
theorem ggX1_search_X1_fixed : GoodIn wsX1_search wsX1_fixed := goodIn_r _ [8, 9, 10, 33, 34, 35, 36, 37, 38, 39, 40, 41, 42, 43, 44, 45, 46, 47, 48, 49] (by decide +kernel) (by decide +kernel)
set_option maxRecDepth 20000 in
theorem gX1_search_X1_fixed : GoodIn wsX1_search (wsV RX1 139 RX1 yX1_fixed wsX1_fixed) := goodIn_app (goodIn_of _ (by decide +kernel)) ggX1_search_X1_fixed
set_option maxRecDepth 20000 in
theorem ggX1_search_X1_gone : GoodIn wsX1_search wsX1_gone := goodIn_r _ [14, 4, 5, 6, 7, 8, 9, 10, 15, 16, 17, 18, 19, 2, 20, 21, 22, 23, 24, 25, 26, 27, 28, 29, 30, 31, 32, 33, 34, 35, 36, 37, 38, 39, 40, 41, 42, 43, 44, 45, 46, 47, 48, 49] (by decide +kernel) (by decide +kernel)
set_option maxRecDepth 20000 in
theorem gX1_search_X1_gone : GoodIn wsX1_search (wsV RX1 149 RX1 yX1_gone wsX1_gone) := goodIn_app (goodIn_of _ (by decide +kernel)) ggX1_search_X1_gone
set_option maxRecDepth 20000 in
theorem ggX1_search_X1_cosine : GoodIn wsX1_search wsX1_cosine := goodIn_r _ [26, 27, 28, 7, 29, 30, 31, 32] (by decide +kernel) (by decide +kernel)
set_option maxRecDepth 20000 in
theorem gX1_search_X1_cosine : GoodIn wsX1_search (va_wsS RX1 136 yX1_cosine wsX1_cosine) := goodIn_app (goodIn_of _ (by decide +kernel)) ggX1_search_X1_cosine
set_option maxRecDepth 20000 in
theorem ggX1_search_X1_sine : GoodIn wsX1_search wsX1_sine := goodIn_r _ [29, 30, 31, 7, 32] (by decide +kernel) (by decide +kernel)
set_option maxRecDepth 20000 in
theorem gX1_search_X1_sine : GoodIn wsX1_search (va_wsS RX1 44 yX1_sine wsX1_sine) := goodIn_app (goodIn_of _ (by decide +kernel)) ggX1_search_X1_sine
theorem dX1_search_0 : decode cX1_search 0 = .ok (.aload_n 0, 1) := by decide +kernel
theorem dX1_search_1 : decode cX1_search 1 = .ok (.iload_n 3, 1) := by decide +kernel
theorem dX1_search_2 : decode cX1_search 2 = .ok (.iconst 0, 1) := by decide +kernel
theorem dX1_search_3 : decode cX1_search 3 = .ok (.invokevirtual 139, 3) := by decide +kernel
theorem dX1_search_6 : decode cX1_search 6 = .ok (.aload_n 0, 1) := by decide +kernel
theorem dX1_search_7 : decode cX1_search 7 = .ok (.iload_n 2, 1) := by decide +kernel
theorem dX1_search_8 : decode cX1_search 8 = .ok (.iload_n 3, 1) := by decide +kernel
theorem dX1_search_9 : decode cX1_search 9 = .ok (.iconst 0, 1) := by decide +kernel
theorem dX1_search_10 : decode cX1_search 10 = .ok (.invokevirtual 149, 3) := by decide +kernel
theorem dX1_search_13 : decode cX1_search 13 = .ok (.lsub, 1) := by decide +kernel
theorem dX1_search_14 : decode cX1_search 14 = .ok (.lstore 4, 2) := by decide +kernel
theorem dX1_search_16 : decode cX1_search 16 = .ok (.aload_n 0, 1) := by decide +kernel
theorem dX1_search_17 : decode cX1_search 17 = .ok (.iload_n 3, 1) := by decide +kernel
theorem dX1_search_18 : decode cX1_search 18 = .ok (.iconst 1, 1) := by decide +kernel
theorem dX1_search_19 : decode cX1_search 19 = .ok (.invokevirtual 139, 3) := by decide +kernel
theorem dX1_search_22 : decode cX1_search 22 = .ok (.aload_n 0, 1) := by decide +kernel
theorem dX1_search_23 : decode cX1_search 23 = .ok (.iload_n 2, 1) := by decide +kernel
theorem dX1_search_24 : decode cX1_search 24 = .ok (.iload_n 3, 1) := by decide +kernel
theorem dX1_search_25 : decode cX1_search 25 = .ok (.iconst 1, 1) := by decide +kernel
theorem dX1_search_26 : decode cX1_search 26 = .ok (.invokevirtual 149, 3) := by decide +kernel
theorem dX1_search_29 : decode cX1_search 29 = .ok (.lsub, 1) := by decide +kernel
theorem dX1_search_30 : decode cX1_search 30 = .ok (.lstore 6, 2) := by decide +kernel
theorem dX1_search_32 : decode cX1_search 32 = .ok (.ldc2_w 179, 3) := by decide +kernel
theorem dX1_search_35 : decode cX1_search 35 = .ok (.lstore 8, 2) := by decide +kernel
theorem dX1_search_37 : decode cX1_search 37 = .ok (.lconst 0, 1) := by decide +kernel
theorem dX1_search_38 : decode cX1_search 38 = .ok (.lstore 10, 2) := by decide +kernel
theorem dX1_search_40 : decode cX1_search 40 = .ok (.iconst 0, 1) := by decide +kernel
theorem dX1_search_41 : decode cX1_search 41 = .ok (.istore 12, 2) := by decide +kernel
theorem dX1_search_43 : decode cX1_search 43 = .ok (.iload 12, 2) := by decide +kernel
theorem dX1_search_45 : decode cX1_search 45 = .ok (.sipush 200, 3) := by decide +kernel
theorem dX1_search_48 : decode cX1_search 48 = .ok (.if_icmp .gt 117, 3) := by decide +kernel
theorem dX1_search_51 : decode cX1_search 51 = .ok (.iconst 0, 1) := by decide +kernel
theorem dX1_search_52 : decode cX1_search 52 = .ok (.istore 13, 2) := by decide +kernel
theorem dX1_search_54 : decode cX1_search 54 = .ok (.iload 13, 2) := by decide +kernel
theorem dX1_search_56 : decode cX1_search 56 = .ok (.bipush 32, 2) := by decide +kernel
theorem dX1_search_58 : decode cX1_search 58 = .ok (.if_icmp .ge 101, 3) := by decide +kernel
theorem dX1_search_61 : decode cX1_search 61 = .ok (.iload 13, 2) := by decide +kernel
theorem dX1_search_63 : decode cX1_search 63 = .ok (.aload_n 0, 1) := by decide +kernel
theorem dX1_search_64 : decode cX1_search 64 = .ok (.getfield 19, 3) := by decide +kernel
theorem dX1_search_67 : decode cX1_search 67 = .ok (.iload_n 1, 1) := by decide +kernel
theorem dX1_search_68 : decode cX1_search 68 = .ok (.iaload, 1) := by decide +kernel
theorem dX1_search_69 : decode cX1_search 69 = .ok (.iadd, 1) := by decide +kernel
theorem dX1_search_70 : decode cX1_search 70 = .ok (.bipush 32, 2) := by decide +kernel
theorem dX1_search_72 : decode cX1_search 72 = .ok (.iadd, 1) := by decide +kernel
theorem dX1_search_73 : decode cX1_search 73 = .ok (.bipush 32, 2) := by decide +kernel
theorem dX1_search_75 : decode cX1_search 75 = .ok (.irem, 1) := by decide +kernel
theorem dX1_search_76 : decode cX1_search 76 = .ok (.istore 14, 2) := by decide +kernel
theorem dX1_search_78 : decode cX1_search 78 = .ok (.lload 4, 2) := by decide +kernel
theorem dX1_search_80 : decode cX1_search 80 = .ok (.iload 12, 2) := by decide +kernel
theorem dX1_search_82 : decode cX1_search 82 = .ok (.i2l, 1) := by decide +kernel
theorem dX1_search_83 : decode cX1_search 83 = .ok (.iload 14, 2) := by decide +kernel
theorem dX1_search_85 : decode cX1_search 85 = .ok (.invokestatic 136, 3) := by decide +kernel
theorem dX1_search_88 : decode cX1_search 88 = .ok (.i2l, 1) := by decide +kernel
theorem dX1_search_89 : decode cX1_search 89 = .ok (.lmul, 1) := by decide +kernel
theorem dX1_search_90 : decode cX1_search 90 = .ok (.lsub, 1) := by decide +kernel
theorem dX1_search_91 : decode cX1_search 91 = .ok (.lstore 15, 2) := by decide +kernel
theorem dX1_search_93 : decode cX1_search 93 = .ok (.lload 6, 2) := by decide +kernel
theorem dX1_search_95 : decode cX1_search 95 = .ok (.iload 12, 2) := by decide +kernel
theorem dX1_search_97 : decode cX1_search 97 = .ok (.i2l, 1) := by decide +kernel
theorem dX1_search_98 : decode cX1_search 98 = .ok (.iload 14, 2) := by decide +kernel
theorem dX1_search_100 : decode cX1_search 100 = .ok (.invokestatic 44, 3) := by decide +kernel
theorem dX1_search_103 : decode cX1_search 103 = .ok (.i2l, 1) := by decide +kernel
theorem dX1_search_104 : decode cX1_search 104 = .ok (.lmul, 1) := by decide +kernel
theorem dX1_search_105 : decode cX1_search 105 = .ok (.lsub, 1) := by decide +kernel
theorem dX1_search_106 : decode cX1_search 106 = .ok (.lstore 17, 2) := by decide +kernel
theorem dX1_search_108 : decode cX1_search 108 = .ok (.lload 15, 2) := by decide +kernel
theorem dX1_search_110 : decode cX1_search 110 = .ok (.lload 15, 2) := by decide +kernel
theorem dX1_search_112 : decode cX1_search 112 = .ok (.lmul, 1) := by decide +kernel
theorem dX1_search_113 : decode cX1_search 113 = .ok (.lload 17, 2) := by decide +kernel
theorem dX1_search_115 : decode cX1_search 115 = .ok (.lload 17, 2) := by decide +kernel
theorem dX1_search_117 : decode cX1_search 117 = .ok (.lmul, 1) := by decide +kernel
theorem dX1_search_118 : decode cX1_search 118 = .ok (.ladd, 1) := by decide +kernel
theorem dX1_search_119 : decode cX1_search 119 = .ok (.lstore 19, 2) := by decide +kernel
theorem dX1_search_121 : decode cX1_search 121 = .ok (.lload 8, 2) := by decide +kernel
theorem dX1_search_123 : decode cX1_search 123 = .ok (.lconst 0, 1) := by decide +kernel
theorem dX1_search_124 : decode cX1_search 124 = .ok (.lcmp, 1) := by decide +kernel
theorem dX1_search_125 : decode cX1_search 125 = .ok (.ifCond .lt 11, 3) := by decide +kernel
theorem dX1_search_128 : decode cX1_search 128 = .ok (.lload 19, 2) := by decide +kernel
theorem dX1_search_130 : decode cX1_search 130 = .ok (.lload 8, 2) := by decide +kernel
theorem dX1_search_132 : decode cX1_search 132 = .ok (.lcmp, 1) := by decide +kernel
theorem dX1_search_133 : decode cX1_search 133 = .ok (.ifCond .ge 20, 3) := by decide +kernel
theorem dX1_search_136 : decode cX1_search 136 = .ok (.lload 19, 2) := by decide +kernel
theorem dX1_search_138 : decode cX1_search 138 = .ok (.lstore 8, 2) := by decide +kernel
theorem dX1_search_140 : decode cX1_search 140 = .ok (.ldc2_w 181, 3) := by decide +kernel
theorem dX1_search_143 : decode cX1_search 143 = .ok (.iload 13, 2) := by decide +kernel
theorem dX1_search_145 : decode cX1_search 145 = .ok (.i2l, 1) := by decide +kernel
theorem dX1_search_146 : decode cX1_search 146 = .ok (.lmul, 1) := by decide +kernel
theorem dX1_search_147 : decode cX1_search 147 = .ok (.iload 12, 2) := by decide +kernel
theorem dX1_search_149 : decode cX1_search 149 = .ok (.i2l, 1) := by decide +kernel
theorem dX1_search_150 : decode cX1_search 150 = .ok (.ladd, 1) := by decide +kernel
theorem dX1_search_151 : decode cX1_search 151 = .ok (.lstore 10, 2) := by decide +kernel
theorem dX1_search_153 : decode cX1_search 153 = .ok (.iinc 13 1, 3) := by decide +kernel
theorem dX1_search_156 : decode cX1_search 156 = .ok (.goto (-102), 3) := by decide +kernel
theorem dX1_search_159 : decode cX1_search 159 = .ok (.iinc 12 1, 3) := by decide +kernel
theorem dX1_search_162 : decode cX1_search 162 = .ok (.goto (-119), 3) := by decide +kernel
theorem dX1_search_165 : decode cX1_search 165 = .ok (.lload 10, 2) := by decide +kernel
theorem dX1_search_167 : decode cX1_search 167 = .ok (.lreturn, 1) := by decide +kernel
set_option maxRecDepth 20000 in
theorem ggX1_lostNow_X1_fixAt : GoodIn wsX1_lostNow wsX1_fixAt := goodIn_r _ [8, 9, 53, 54, 55, 56, 57, 58, 59, 60, 61, 62, 63, 64, 65, 66, 67, 68, 69] (by decide +kernel) (by decide +kernel)
set_option maxRecDepth 20000 in
theorem gX1_lostNow_X1_fixAt : GoodIn wsX1_lostNow (wsV RX1 146 RX1 yX1_fixAt wsX1_fixAt) := goodIn_app (goodIn_of _ (by decide +kernel)) ggX1_lostNow_X1_fixAt
set_option maxRecDepth 20000 in
theorem ggX1_lostNow_X1_fixBehind : GoodIn wsX1_lostNow wsX1_fixBehind := goodIn_r _ [13, 14, 9, 53, 54, 55, 56, 57, 58, 59, 60, 61, 62, 63, 64, 65, 66, 67, 68, 69] (by decide +kernel) (by decide +kernel)
set_option maxRecDepth 20000 in
theorem gX1_lostNow_X1_fixBehind : GoodIn wsX1_lostNow (wsV RX1 153 RX1 yX1_fixBehind wsX1_fixBehind) := goodIn_app (goodIn_of _ (by decide +kernel)) ggX1_lostNow_X1_fixBehind
set_option maxRecDepth 20000 in
theorem ggX1_lostNow_X1_isOtherLost : GoodIn wsX1_lostNow wsX1_isOtherLost := goodIn_r _ [18, 1, 53, 54, 55, 56, 57, 58, 59, 60, 61, 62, 63, 64, 65, 66, 67, 68, 69] (by decide +kernel) (by decide +kernel)
set_option maxRecDepth 20000 in
theorem gX1_lostNow_X1_isOtherLost : GoodIn wsX1_lostNow (wsV RX1 183 RX1 yX1_isOtherLost wsX1_isOtherLost) := goodIn_app (goodIn_of _ (by decide +kernel)) ggX1_lostNow_X1_isOtherLost
set_option maxRecDepth 20000 in
theorem ggX1_lostNow_X1_search : GoodIn wsX1_lostNow wsX1_search := goodIn_r _ [22, 23, 24, 25, 26, 27, 28, 7, 29, 30, 31, 32, 33, 34, 35, 36, 37, 38, 39, 40, 1, 41, 42, 43, 44, 45, 46, 47, 48, 49, 50, 51, 52, 53, 54, 55, 56, 57, 58, 59, 60, 61, 62, 63, 64, 65, 66, 67, 68, 69] (by decide +kernel) (by decide +kernel)
set_option maxRecDepth 20000 in
theorem gX1_lostNow_X1_search : GoodIn wsX1_lostNow (wsV RX1 186 RX1 yX1_search wsX1_search) := goodIn_app (goodIn_of _ (by decide +kernel)) ggX1_lostNow_X1_search
theorem dX1_lostNow_0 : decode cX1_lostNow 0 = .ok (.aload_n 0, 1) := by decide +kernel
theorem dX1_lostNow_1 : decode cX1_lostNow 1 = .ok (.getfield 22, 3) := by decide +kernel
theorem dX1_lostNow_4 : decode cX1_lostNow 4 = .ok (.iload_n 1, 1) := by decide +kernel
theorem dX1_lostNow_5 : decode cX1_lostNow 5 = .ok (.baload, 1) := by decide +kernel
theorem dX1_lostNow_6 : decode cX1_lostNow 6 = .ok (.ifCond .ne 7, 3) := by decide +kernel
theorem dX1_lostNow_9 : decode cX1_lostNow 9 = .ok (.ldc2_w 110, 3) := by decide +kernel
theorem dX1_lostNow_12 : decode cX1_lostNow 12 = .ok (.lreturn, 1) := by decide +kernel
theorem dX1_lostNow_13 : decode cX1_lostNow 13 = .ok (.aload_n 0, 1) := by decide +kernel
theorem dX1_lostNow_14 : decode cX1_lostNow 14 = .ok (.iload_n 1, 1) := by decide +kernel
theorem dX1_lostNow_15 : decode cX1_lostNow 15 = .ok (.invokevirtual 146, 3) := by decide +kernel
theorem dX1_lostNow_18 : decode cX1_lostNow 18 = .ok (.istore_n 2, 1) := by decide +kernel
theorem dX1_lostNow_19 : decode cX1_lostNow 19 = .ok (.aload_n 0, 1) := by decide +kernel
theorem dX1_lostNow_20 : decode cX1_lostNow 20 = .ok (.iload_n 1, 1) := by decide +kernel
theorem dX1_lostNow_21 : decode cX1_lostNow 21 = .ok (.invokevirtual 153, 3) := by decide +kernel
theorem dX1_lostNow_24 : decode cX1_lostNow 24 = .ok (.istore_n 3, 1) := by decide +kernel
theorem dX1_lostNow_25 : decode cX1_lostNow 25 = .ok (.iload_n 3, 1) := by decide +kernel
theorem dX1_lostNow_26 : decode cX1_lostNow 26 = .ok (.ifCond .ge 7, 3) := by decide +kernel
theorem dX1_lostNow_29 : decode cX1_lostNow 29 = .ok (.ldc2_w 108, 3) := by decide +kernel
theorem dX1_lostNow_32 : decode cX1_lostNow 32 = .ok (.lreturn, 1) := by decide +kernel
theorem dX1_lostNow_33 : decode cX1_lostNow 33 = .ok (.aload_n 0, 1) := by decide +kernel
theorem dX1_lostNow_34 : decode cX1_lostNow 34 = .ok (.iload_n 1, 1) := by decide +kernel
theorem dX1_lostNow_35 : decode cX1_lostNow 35 = .ok (.iload_n 2, 1) := by decide +kernel
theorem dX1_lostNow_36 : decode cX1_lostNow 36 = .ok (.iload_n 3, 1) := by decide +kernel
theorem dX1_lostNow_37 : decode cX1_lostNow 37 = .ok (.invokevirtual 183, 3) := by decide +kernel
theorem dX1_lostNow_40 : decode cX1_lostNow 40 = .ok (.ifCond .eq 9, 3) := by decide +kernel
theorem dX1_lostNow_43 : decode cX1_lostNow 43 = .ok (.ldc2_w 110, 3) := by decide +kernel
theorem dX1_lostNow_46 : decode cX1_lostNow 46 = .ok (.goto 10, 3) := by decide +kernel
theorem dX1_lostNow_49 : decode cX1_lostNow 49 = .ok (.aload_n 0, 1) := by decide +kernel
theorem dX1_lostNow_50 : decode cX1_lostNow 50 = .ok (.iload_n 1, 1) := by decide +kernel
theorem dX1_lostNow_51 : decode cX1_lostNow 51 = .ok (.iload_n 2, 1) := by decide +kernel
theorem dX1_lostNow_52 : decode cX1_lostNow 52 = .ok (.iload_n 3, 1) := by decide +kernel
theorem dX1_lostNow_53 : decode cX1_lostNow 53 = .ok (.invokevirtual 186, 3) := by decide +kernel
theorem dX1_lostNow_56 : decode cX1_lostNow 56 = .ok (.lreturn, 1) := by decide +kernel
set_option maxRecDepth 20000 in
theorem ggX1_findLost_X1_isPegNumber : GoodIn wsX1_findLost wsX1_isPegNumber := goodIn_r _ [6, 7, 8, 9, 5, 10, 65, 66, 67, 68, 69, 70, 71, 72, 73, 74, 75, 76, 77, 78, 79, 80, 81] (by decide +kernel) (by decide +kernel)
set_option maxRecDepth 20000 in
theorem gX1_findLost_X1_isPegNumber : GoodIn wsX1_findLost (wsV RX1 103 RX1 yX1_isPegNumber wsX1_isPegNumber) := goodIn_app (goodIn_of _ (by decide +kernel)) ggX1_findLost_X1_isPegNumber
set_option maxRecDepth 20000 in
theorem ggX1_findLost_X1_lostNow : GoodIn wsX1_findLost wsX1_lostNow := goodIn_r _ [14, 15, 16, 17, 18, 19, 20, 5, 21, 22, 23, 24, 25, 26, 7, 27, 28, 29, 30, 31, 32, 33, 34, 35, 36, 37, 38, 39, 40, 41, 42, 43, 44, 45, 46, 47, 48, 49, 50, 51, 52, 53, 54, 55, 56, 57, 58, 59, 60, 61, 62, 63, 64, 65, 66, 67, 68, 69, 70, 71, 72, 73, 74, 75, 76, 77, 78, 79, 80, 81] (by decide +kernel) (by decide +kernel)
set_option maxRecDepth 20000 in
theorem gX1_findLost_X1_lostNow : GoodIn wsX1_findLost (wsV RX1 189 RX1 yX1_lostNow wsX1_lostNow) := goodIn_app (goodIn_of _ (by decide +kernel)) ggX1_findLost_X1_lostNow
theorem dX1_findLost_0 : decode cX1_findLost 0 = .ok (.aload_n 0, 1) := by decide +kernel
theorem dX1_findLost_1 : decode cX1_findLost 1 = .ok (.iload_n 1, 1) := by decide +kernel
theorem dX1_findLost_2 : decode cX1_findLost 2 = .ok (.invokevirtual 103, 3) := by decide +kernel
theorem dX1_findLost_5 : decode cX1_findLost 5 = .ok (.ifCond .eq 11, 3) := by decide +kernel
theorem dX1_findLost_8 : decode cX1_findLost 8 = .ok (.aload_n 0, 1) := by decide +kernel
theorem dX1_findLost_9 : decode cX1_findLost 9 = .ok (.iload_n 1, 1) := by decide +kernel
theorem dX1_findLost_10 : decode cX1_findLost 10 = .ok (.invokevirtual 189, 3) := by decide +kernel
theorem dX1_findLost_13 : decode cX1_findLost 13 = .ok (.goto 6, 3) := by decide +kernel
theorem dX1_findLost_16 : decode cX1_findLost 16 = .ok (.ldc2_w 106, 3) := by decide +kernel
theorem dX1_findLost_19 : decode cX1_findLost 19 = .ok (.lreturn, 1) := by decide +kernel
theorem dX1_mix_0 : decode cX1_mix 0 = .ok (.aload_n 0, 1) := by decide +kernel
theorem dX1_mix_1 : decode cX1_mix 1 = .ok (.ldc2_w 192, 3) := by decide +kernel
theorem dX1_mix_4 : decode cX1_mix 4 = .ok (.aload_n 0, 1) := by decide +kernel
theorem dX1_mix_5 : decode cX1_mix 5 = .ok (.getfield 194, 3) := by decide +kernel
theorem dX1_mix_8 : decode cX1_mix 8 = .ok (.lmul, 1) := by decide +kernel
theorem dX1_mix_9 : decode cX1_mix 9 = .ok (.lload_n 1, 1) := by decide +kernel
theorem dX1_mix_10 : decode cX1_mix 10 = .ok (.ladd, 1) := by decide +kernel
theorem dX1_mix_11 : decode cX1_mix 11 = .ok (.putfield 194, 3) := by decide +kernel
theorem dX1_mix_14 : decode cX1_mix 14 = .ok (.return_, 1) := by decide +kernel
set_option maxRecDepth 20000 in
theorem ggX1_digest_X1_mix : GoodIn wsX1_digest wsX1_mix := goodIn_r _ [15, 16, 2, 95, 96, 97, 98, 99, 100, 101, 102, 103, 104, 105, 106, 107, 108, 109, 110, 111] (by decide +kernel) (by decide +kernel)
set_option maxRecDepth 20000 in
theorem gX1_digest_X1_mix : GoodIn wsX1_digest (wsV RX1 200 RX1 yX1_mix wsX1_mix) := goodIn_app (goodIn_of _ (by decide +kernel)) ggX1_digest_X1_mix
set_option maxRecDepth 20000 in
theorem ggX1_digest_X1_pointNow : GoodIn wsX1_digest wsX1_pointNow := goodIn_r _ [20, 5, 21, 22, 95, 96, 97, 98, 99, 100, 101, 102, 103, 104, 105, 106, 107, 108, 109, 110, 111] (by decide +kernel) (by decide +kernel)
set_option maxRecDepth 20000 in
theorem gX1_digest_X1_pointNow : GoodIn wsX1_digest (wsV RX1 122 RX1 yX1_pointNow wsX1_pointNow) := goodIn_app (goodIn_of _ (by decide +kernel)) ggX1_digest_X1_pointNow
set_option maxRecDepth 20000 in
theorem ggX1_digest_X1_speedNow : GoodIn wsX1_digest wsX1_speedNow := goodIn_r _ [26, 5, 21, 27, 95, 96, 97, 98, 99, 100, 101, 102, 103, 104, 105, 106, 107, 108, 109, 110, 111] (by decide +kernel) (by decide +kernel)
set_option maxRecDepth 20000 in
theorem gX1_digest_X1_speedNow : GoodIn wsX1_digest (wsV RX1 126 RX1 yX1_speedNow wsX1_speedNow) := goodIn_app (goodIn_of _ (by decide +kernel)) ggX1_digest_X1_speedNow
set_option maxRecDepth 20000 in
theorem ggX1_digest_X1_reckoned : GoodIn wsX1_digest wsX1_reckoned := goodIn_r _ [31, 32, 33, 34, 14, 35, 8, 36, 37, 38, 39, 40, 41, 42, 43, 44, 45, 46, 47, 48, 49, 22, 4, 5, 27, 7, 6, 50, 51, 52, 53, 54, 55, 56, 57, 58, 95, 96, 97, 98, 99, 100, 101, 102, 103, 104, 105, 106, 107, 108, 109, 110, 111] (by decide +kernel) (by decide +kernel)
set_option maxRecDepth 20000 in
theorem gX1_digest_X1_reckoned : GoodIn wsX1_digest (wsV RX1 163 RX1 yX1_reckoned wsX1_reckoned) := goodIn_app (goodIn_of _ (by decide +kernel)) ggX1_digest_X1_reckoned
set_option maxRecDepth 20000 in
theorem ggX1_digest_X1_corrected : GoodIn wsX1_digest wsX1_corrected := goodIn_r _ [62, 32, 33, 34, 14, 35, 8, 63, 64, 65, 66, 3, 36, 37, 38, 39, 40, 41, 42, 43, 44, 45, 46, 47, 48, 49, 22, 4, 5, 27, 7, 6, 50, 51, 52, 53, 54, 55, 56, 57, 58, 67, 68, 69, 95, 96, 97, 98, 99, 100, 101, 102, 103, 104, 105, 106, 107, 108, 109, 110, 111] (by decide +kernel) (by decide +kernel)
set_option maxRecDepth 20000 in
theorem gX1_digest_X1_corrected : GoodIn wsX1_digest (wsV RX1 166 RX1 yX1_corrected wsX1_corrected) := goodIn_app (goodIn_of _ (by decide +kernel)) ggX1_digest_X1_corrected
set_option maxRecDepth 20000 in
theorem ggX1_digest_X1_distanceNow : GoodIn wsX1_digest wsX1_distanceNow := goodIn_r _ [73, 74, 75, 59, 60, 61, 14, 62, 32, 33, 34, 35, 8, 63, 64, 65, 66, 3, 36, 37, 38, 39, 40, 41, 42, 43, 44, 45, 46, 47, 48, 49, 22, 4, 5, 27, 7, 6, 50, 51, 52, 53, 54, 55, 56, 57, 58, 67, 68, 69, 95, 96, 97, 98, 99, 100, 101, 102, 103, 104, 105, 106, 107, 108, 109, 110, 111] (by decide +kernel) (by decide +kernel)
set_option maxRecDepth 20000 in
theorem gX1_digest_X1_distanceNow : GoodIn wsX1_digest (wsV RX1 173 RX1 yX1_distanceNow wsX1_distanceNow) := goodIn_app (goodIn_of _ (by decide +kernel)) ggX1_digest_X1_distanceNow
set_option maxRecDepth 20000 in
theorem ggX1_digest_X1_bearingNow : GoodIn wsX1_digest wsX1_bearingNow := goodIn_r _ [79, 80, 59, 60, 61, 14, 62, 32, 33, 34, 35, 8, 63, 64, 65, 66, 3, 36, 37, 38, 39, 40, 41, 42, 43, 44, 45, 46, 47, 48, 49, 22, 4, 5, 27, 7, 6, 50, 51, 52, 53, 54, 55, 56, 57, 58, 67, 68, 69, 95, 96, 97, 98, 99, 100, 101, 102, 103, 104, 105, 106, 107, 108, 109, 110, 111] (by decide +kernel) (by decide +kernel)
set_option maxRecDepth 20000 in
theorem gX1_digest_X1_bearingNow : GoodIn wsX1_digest (wsV RX1 176 RX1 yX1_bearingNow wsX1_bearingNow) := goodIn_app (goodIn_of _ (by decide +kernel)) ggX1_digest_X1_bearingNow
set_option maxRecDepth 20000 in
theorem ggX1_digest_X1_lostNow : GoodIn wsX1_digest wsX1_lostNow := goodIn_r _ [84, 5, 21, 80, 32, 33, 34, 14, 35, 8, 63, 64, 65, 66, 3, 85, 86, 87, 88, 89, 90, 91, 92, 93, 4, 94, 40, 41, 42, 43, 44, 45, 36, 37, 38, 39, 46, 47, 48, 49, 22, 27, 7, 6, 50, 51, 52, 53, 54, 55, 56, 57, 58, 95, 96, 97, 98, 99, 100, 101, 102, 103, 104, 105, 106, 107, 108, 109, 110, 111] (by decide +kernel) (by decide +kernel)
set_option maxRecDepth 20000 in
theorem gX1_digest_X1_lostNow : GoodIn wsX1_digest (wsV RX1 189 RX1 yX1_lostNow wsX1_lostNow) := goodIn_app (goodIn_of _ (by decide +kernel)) ggX1_digest_X1_lostNow
theorem dX1_digest_0 : decode cX1_digest 0 = .ok (.aload_n 0, 1) := by decide +kernel
theorem dX1_digest_1 : decode cX1_digest 1 = .ok (.ldc2_w 198, 3) := by decide +kernel
theorem dX1_digest_4 : decode cX1_digest 4 = .ok (.putfield 194, 3) := by decide +kernel
theorem dX1_digest_7 : decode cX1_digest 7 = .ok (.aload_n 0, 1) := by decide +kernel
theorem dX1_digest_8 : decode cX1_digest 8 = .ok (.aload_n 0, 1) := by decide +kernel
theorem dX1_digest_9 : decode cX1_digest 9 = .ok (.getfield 91, 3) := by decide +kernel
theorem dX1_digest_12 : decode cX1_digest 12 = .ok (.i2l, 1) := by decide +kernel
theorem dX1_digest_13 : decode cX1_digest 13 = .ok (.invokevirtual 200, 3) := by decide +kernel
theorem dX1_digest_16 : decode cX1_digest 16 = .ok (.iconst (-1), 1) := by decide +kernel
theorem dX1_digest_17 : decode cX1_digest 17 = .ok (.istore_n 1, 1) := by decide +kernel
theorem dX1_digest_18 : decode cX1_digest 18 = .ok (.iconst 0, 1) := by decide +kernel
theorem dX1_digest_19 : decode cX1_digest 19 = .ok (.istore_n 2, 1) := by decide +kernel
theorem dX1_digest_20 : decode cX1_digest 20 = .ok (.iload_n 2, 1) := by decide +kernel
theorem dX1_digest_21 : decode cX1_digest 21 = .ok (.aload_n 0, 1) := by decide +kernel
theorem dX1_digest_22 : decode cX1_digest 22 = .ok (.getfield 91, 3) := by decide +kernel
theorem dX1_digest_25 : decode cX1_digest 25 = .ok (.if_icmp .ge 57, 3) := by decide +kernel
theorem dX1_digest_28 : decode cX1_digest 28 = .ok (.aload_n 0, 1) := by decide +kernel
theorem dX1_digest_29 : decode cX1_digest 29 = .ok (.aload_n 0, 1) := by decide +kernel
theorem dX1_digest_30 : decode cX1_digest 30 = .ok (.iload_n 2, 1) := by decide +kernel
theorem dX1_digest_31 : decode cX1_digest 31 = .ok (.invokevirtual 122, 3) := by decide +kernel
theorem dX1_digest_34 : decode cX1_digest 34 = .ok (.invokevirtual 200, 3) := by decide +kernel
theorem dX1_digest_37 : decode cX1_digest 37 = .ok (.aload_n 0, 1) := by decide +kernel
theorem dX1_digest_38 : decode cX1_digest 38 = .ok (.aload_n 0, 1) := by decide +kernel
theorem dX1_digest_39 : decode cX1_digest 39 = .ok (.iload_n 2, 1) := by decide +kernel
theorem dX1_digest_40 : decode cX1_digest 40 = .ok (.invokevirtual 126, 3) := by decide +kernel
theorem dX1_digest_43 : decode cX1_digest 43 = .ok (.invokevirtual 200, 3) := by decide +kernel
theorem dX1_digest_46 : decode cX1_digest 46 = .ok (.aload_n 0, 1) := by decide +kernel
theorem dX1_digest_47 : decode cX1_digest 47 = .ok (.aload_n 0, 1) := by decide +kernel
theorem dX1_digest_48 : decode cX1_digest 48 = .ok (.getfield 19, 3) := by decide +kernel
theorem dX1_digest_51 : decode cX1_digest 51 = .ok (.iload_n 2, 1) := by decide +kernel
theorem dX1_digest_52 : decode cX1_digest 52 = .ok (.iaload, 1) := by decide +kernel
theorem dX1_digest_53 : decode cX1_digest 53 = .ok (.i2l, 1) := by decide +kernel
theorem dX1_digest_54 : decode cX1_digest 54 = .ok (.invokevirtual 200, 3) := by decide +kernel
theorem dX1_digest_57 : decode cX1_digest 57 = .ok (.iload_n 1, 1) := by decide +kernel
theorem dX1_digest_58 : decode cX1_digest 58 = .ok (.ifCond .ge 16, 3) := by decide +kernel
theorem dX1_digest_61 : decode cX1_digest 61 = .ok (.aload_n 0, 1) := by decide +kernel
theorem dX1_digest_62 : decode cX1_digest 62 = .ok (.getfield 22, 3) := by decide +kernel
theorem dX1_digest_65 : decode cX1_digest 65 = .ok (.iload_n 2, 1) := by decide +kernel
theorem dX1_digest_66 : decode cX1_digest 66 = .ok (.baload, 1) := by decide +kernel
theorem dX1_digest_67 : decode cX1_digest 67 = .ok (.ifCond .eq 7, 3) := by decide +kernel
theorem dX1_digest_70 : decode cX1_digest 70 = .ok (.iload_n 2, 1) := by decide +kernel
theorem dX1_digest_71 : decode cX1_digest 71 = .ok (.goto 4, 3) := by decide +kernel
theorem dX1_digest_74 : decode cX1_digest 74 = .ok (.iload_n 1, 1) := by decide +kernel
theorem dX1_digest_75 : decode cX1_digest 75 = .ok (.istore_n 1, 1) := by decide +kernel
theorem dX1_digest_76 : decode cX1_digest 76 = .ok (.iinc 2 1, 3) := by decide +kernel
theorem dX1_digest_79 : decode cX1_digest 79 = .ok (.goto (-59), 3) := by decide +kernel
theorem dX1_digest_82 : decode cX1_digest 82 = .ok (.aload_n 0, 1) := by decide +kernel
theorem dX1_digest_83 : decode cX1_digest 83 = .ok (.aload_n 0, 1) := by decide +kernel
theorem dX1_digest_84 : decode cX1_digest 84 = .ok (.getfield 119, 3) := by decide +kernel
theorem dX1_digest_87 : decode cX1_digest 87 = .ok (.i2l, 1) := by decide +kernel
theorem dX1_digest_88 : decode cX1_digest 88 = .ok (.invokevirtual 200, 3) := by decide +kernel
theorem dX1_digest_91 : decode cX1_digest 91 = .ok (.aload_n 0, 1) := by decide +kernel
theorem dX1_digest_92 : decode cX1_digest 92 = .ok (.aload_n 0, 1) := by decide +kernel
theorem dX1_digest_93 : decode cX1_digest 93 = .ok (.getfield 116, 3) := by decide +kernel
theorem dX1_digest_96 : decode cX1_digest 96 = .ok (.i2l, 1) := by decide +kernel
theorem dX1_digest_97 : decode cX1_digest 97 = .ok (.invokevirtual 200, 3) := by decide +kernel
theorem dX1_digest_100 : decode cX1_digest 100 = .ok (.iconst 0, 1) := by decide +kernel
theorem dX1_digest_101 : decode cX1_digest 101 = .ok (.istore_n 2, 1) := by decide +kernel
theorem dX1_digest_102 : decode cX1_digest 102 = .ok (.iload_n 2, 1) := by decide +kernel
theorem dX1_digest_103 : decode cX1_digest 103 = .ok (.aload_n 0, 1) := by decide +kernel
theorem dX1_digest_104 : decode cX1_digest 104 = .ok (.getfield 91, 3) := by decide +kernel
theorem dX1_digest_107 : decode cX1_digest 107 = .ok (.if_icmp .gt 67, 3) := by decide +kernel
theorem dX1_digest_110 : decode cX1_digest 110 = .ok (.aload_n 0, 1) := by decide +kernel
theorem dX1_digest_111 : decode cX1_digest 111 = .ok (.aload_n 0, 1) := by decide +kernel
theorem dX1_digest_112 : decode cX1_digest 112 = .ok (.getfield 26, 3) := by decide +kernel
theorem dX1_digest_115 : decode cX1_digest 115 = .ok (.iload_n 2, 1) := by decide +kernel
theorem dX1_digest_116 : decode cX1_digest 116 = .ok (.baload, 1) := by decide +kernel
theorem dX1_digest_117 : decode cX1_digest 117 = .ok (.ifCond .eq 7, 3) := by decide +kernel
theorem dX1_digest_120 : decode cX1_digest 120 = .ok (.lconst 1, 1) := by decide +kernel
theorem dX1_digest_121 : decode cX1_digest 121 = .ok (.goto 4, 3) := by decide +kernel
theorem dX1_digest_124 : decode cX1_digest 124 = .ok (.lconst 0, 1) := by decide +kernel
theorem dX1_digest_125 : decode cX1_digest 125 = .ok (.invokevirtual 200, 3) := by decide +kernel
theorem dX1_digest_128 : decode cX1_digest 128 = .ok (.aload_n 0, 1) := by decide +kernel
theorem dX1_digest_129 : decode cX1_digest 129 = .ok (.aload_n 0, 1) := by decide +kernel
theorem dX1_digest_130 : decode cX1_digest 130 = .ok (.iload_n 2, 1) := by decide +kernel
theorem dX1_digest_131 : decode cX1_digest 131 = .ok (.iconst 0, 1) := by decide +kernel
theorem dX1_digest_132 : decode cX1_digest 132 = .ok (.invokevirtual 163, 3) := by decide +kernel
theorem dX1_digest_135 : decode cX1_digest 135 = .ok (.invokevirtual 200, 3) := by decide +kernel
theorem dX1_digest_138 : decode cX1_digest 138 = .ok (.aload_n 0, 1) := by decide +kernel
theorem dX1_digest_139 : decode cX1_digest 139 = .ok (.aload_n 0, 1) := by decide +kernel
theorem dX1_digest_140 : decode cX1_digest 140 = .ok (.iload_n 2, 1) := by decide +kernel
theorem dX1_digest_141 : decode cX1_digest 141 = .ok (.iconst 1, 1) := by decide +kernel
theorem dX1_digest_142 : decode cX1_digest 142 = .ok (.invokevirtual 163, 3) := by decide +kernel
theorem dX1_digest_145 : decode cX1_digest 145 = .ok (.invokevirtual 200, 3) := by decide +kernel
theorem dX1_digest_148 : decode cX1_digest 148 = .ok (.aload_n 0, 1) := by decide +kernel
theorem dX1_digest_149 : decode cX1_digest 149 = .ok (.aload_n 0, 1) := by decide +kernel
theorem dX1_digest_150 : decode cX1_digest 150 = .ok (.iload_n 2, 1) := by decide +kernel
theorem dX1_digest_151 : decode cX1_digest 151 = .ok (.iconst 0, 1) := by decide +kernel
theorem dX1_digest_152 : decode cX1_digest 152 = .ok (.invokevirtual 166, 3) := by decide +kernel
theorem dX1_digest_155 : decode cX1_digest 155 = .ok (.invokevirtual 200, 3) := by decide +kernel
theorem dX1_digest_158 : decode cX1_digest 158 = .ok (.aload_n 0, 1) := by decide +kernel
theorem dX1_digest_159 : decode cX1_digest 159 = .ok (.aload_n 0, 1) := by decide +kernel
theorem dX1_digest_160 : decode cX1_digest 160 = .ok (.iload_n 2, 1) := by decide +kernel
theorem dX1_digest_161 : decode cX1_digest 161 = .ok (.iconst 1, 1) := by decide +kernel
theorem dX1_digest_162 : decode cX1_digest 162 = .ok (.invokevirtual 166, 3) := by decide +kernel
theorem dX1_digest_165 : decode cX1_digest 165 = .ok (.invokevirtual 200, 3) := by decide +kernel
theorem dX1_digest_168 : decode cX1_digest 168 = .ok (.iinc 2 1, 3) := by decide +kernel
theorem dX1_digest_171 : decode cX1_digest 171 = .ok (.goto (-69), 3) := by decide +kernel
theorem dX1_digest_174 : decode cX1_digest 174 = .ok (.aload_n 0, 1) := by decide +kernel
theorem dX1_digest_175 : decode cX1_digest 175 = .ok (.aload_n 0, 1) := by decide +kernel
theorem dX1_digest_176 : decode cX1_digest 176 = .ok (.iconst 0, 1) := by decide +kernel
theorem dX1_digest_177 : decode cX1_digest 177 = .ok (.aload_n 0, 1) := by decide +kernel
theorem dX1_digest_178 : decode cX1_digest 178 = .ok (.getfield 91, 3) := by decide +kernel
theorem dX1_digest_181 : decode cX1_digest 181 = .ok (.invokevirtual 173, 3) := by decide +kernel
theorem dX1_digest_184 : decode cX1_digest 184 = .ok (.invokevirtual 200, 3) := by decide +kernel
theorem dX1_digest_187 : decode cX1_digest 187 = .ok (.aload_n 0, 1) := by decide +kernel
theorem dX1_digest_188 : decode cX1_digest 188 = .ok (.aload_n 0, 1) := by decide +kernel
theorem dX1_digest_189 : decode cX1_digest 189 = .ok (.iconst 0, 1) := by decide +kernel
theorem dX1_digest_190 : decode cX1_digest 190 = .ok (.aload_n 0, 1) := by decide +kernel
theorem dX1_digest_191 : decode cX1_digest 191 = .ok (.getfield 91, 3) := by decide +kernel
theorem dX1_digest_194 : decode cX1_digest 194 = .ok (.invokevirtual 176, 3) := by decide +kernel
theorem dX1_digest_197 : decode cX1_digest 197 = .ok (.invokevirtual 200, 3) := by decide +kernel
theorem dX1_digest_200 : decode cX1_digest 200 = .ok (.iload_n 1, 1) := by decide +kernel
theorem dX1_digest_201 : decode cX1_digest 201 = .ok (.ifCond .lt 12, 3) := by decide +kernel
theorem dX1_digest_204 : decode cX1_digest 204 = .ok (.aload_n 0, 1) := by decide +kernel
theorem dX1_digest_205 : decode cX1_digest 205 = .ok (.aload_n 0, 1) := by decide +kernel
theorem dX1_digest_206 : decode cX1_digest 206 = .ok (.iload_n 1, 1) := by decide +kernel
theorem dX1_digest_207 : decode cX1_digest 207 = .ok (.invokevirtual 189, 3) := by decide +kernel
theorem dX1_digest_210 : decode cX1_digest 210 = .ok (.invokevirtual 200, 3) := by decide +kernel
theorem dX1_digest_213 : decode cX1_digest 213 = .ok (.aload_n 0, 1) := by decide +kernel
theorem dX1_digest_214 : decode cX1_digest 214 = .ok (.aload_n 0, 1) := by decide +kernel
theorem dX1_digest_215 : decode cX1_digest 215 = .ok (.getfield 53, 3) := by decide +kernel
theorem dX1_digest_218 : decode cX1_digest 218 = .ok (.i2l, 1) := by decide +kernel
theorem dX1_digest_219 : decode cX1_digest 219 = .ok (.invokevirtual 200, 3) := by decide +kernel
theorem dX1_digest_222 : decode cX1_digest 222 = .ok (.iconst 0, 1) := by decide +kernel
theorem dX1_digest_223 : decode cX1_digest 223 = .ok (.istore_n 2, 1) := by decide +kernel
theorem dX1_digest_224 : decode cX1_digest 224 = .ok (.iload_n 2, 1) := by decide +kernel
theorem dX1_digest_225 : decode cX1_digest 225 = .ok (.aload_n 0, 1) := by decide +kernel
theorem dX1_digest_226 : decode cX1_digest 226 = .ok (.getfield 53, 3) := by decide +kernel
theorem dX1_digest_229 : decode cX1_digest 229 = .ok (.if_icmp .ge 20, 3) := by decide +kernel
theorem dX1_digest_232 : decode cX1_digest 232 = .ok (.aload_n 0, 1) := by decide +kernel
theorem dX1_digest_233 : decode cX1_digest 233 = .ok (.aload_n 0, 1) := by decide +kernel
theorem dX1_digest_234 : decode cX1_digest 234 = .ok (.getfield 7, 3) := by decide +kernel
theorem dX1_digest_237 : decode cX1_digest 237 = .ok (.iload_n 2, 1) := by decide +kernel
theorem dX1_digest_238 : decode cX1_digest 238 = .ok (.iaload, 1) := by decide +kernel
theorem dX1_digest_239 : decode cX1_digest 239 = .ok (.i2l, 1) := by decide +kernel
theorem dX1_digest_240 : decode cX1_digest 240 = .ok (.invokevirtual 200, 3) := by decide +kernel
theorem dX1_digest_243 : decode cX1_digest 243 = .ok (.iinc 2 1, 3) := by decide +kernel
theorem dX1_digest_246 : decode cX1_digest 246 = .ok (.goto (-22), 3) := by decide +kernel
theorem dX1_digest_249 : decode cX1_digest 249 = .ok (.aload_n 0, 1) := by decide +kernel
theorem dX1_digest_250 : decode cX1_digest 250 = .ok (.getfield 194, 3) := by decide +kernel
theorem dX1_digest_253 : decode cX1_digest 253 = .ok (.lreturn, 1) := by decide +kernel
