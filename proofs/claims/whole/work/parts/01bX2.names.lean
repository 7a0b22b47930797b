theorem dX0_findLost_72 : decode cX0_findLost 72 = .ok (.invokevirtual 166, 3) := by decide +kernel
theorem dX0_findLost_75 : decode cX0_findLost 75 = .ok (.aload_n 0, 1) := by decide +kernel
theorem dX0_findLost_76 : decode cX0_findLost 76 = .ok (.getfield 19, 3) := by decide +kernel
theorem dX0_findLost_79 : decode cX0_findLost 79 = .ok (.iload_n 1, 1) := by decide +kernel
theorem dX0_findLost_80 : decode cX0_findLost 80 = .ok (.iaload, 1) := by decide +kernel
theorem dX0_findLost_81 : decode cX0_findLost 81 = .ok (.invokestatic 169, 3) := by decide +kernel
theorem dX0_findLost_84 : decode cX0_findLost 84 = .ok (.lreturn, 1) := by decide +kernel
set_option maxRecDepth 20000 in
theorem ggX0_reckoned_X0_lastFix : GoodIn wsX0_reckoned wsX0_lastFix := goodIn_r _ [5, 6, 31, 32, 33, 34, 35, 36, 37, 38, 39, 40, 41, 42] (by decide +kernel) (by decide +kernel)
set_option maxRecDepth 20000 in
theorem gX0_reckoned_X0_lastFix : GoodIn wsX0_reckoned (wsV RX0 160 RX0 yX0_lastFix wsX0_lastFix) := goodIn_app (goodIn_of _ (by decide +kernel)) ggX0_reckoned_X0_lastFix
set_option maxRecDepth 20000 in
theorem ggX0_reckoned_X0_fix : GoodIn wsX0_reckoned wsX0_fix := goodIn_r _ [10, 11, 12, 31, 32, 33, 34, 35, 36, 37, 38, 39, 40, 41, 42] (by decide +kernel) (by decide +kernel)
set_option maxRecDepth 20000 in
theorem gX0_reckoned_X0_fix : GoodIn wsX0_reckoned (wsV RX0 173 RX0 yX0_fix wsX0_fix) := goodIn_app (goodIn_of _ (by decide +kernel)) ggX0_reckoned_X0_fix
set_option maxRecDepth 20000 in
theorem ggX0_reckoned_X0_legs : GoodIn wsX0_reckoned wsX0_legs := goodIn_r _ [16, 17, 18, 19, 20, 21, 22, 23, 24, 4, 25, 26, 27, 28, 29, 30, 31, 32, 33, 34, 35, 36, 37, 38, 39, 40, 41, 42] (by decide +kernel) (by decide +kernel)
set_option maxRecDepth 20000 in
theorem gX0_reckoned_X0_legs : GoodIn wsX0_reckoned (wsV RX0 176 RX0 yX0_legs wsX0_legs) := goodIn_app (goodIn_of _ (by decide +kernel)) ggX0_reckoned_X0_legs
theorem dX0_reckoned_0 : decode cX0_reckoned 0 = .ok (.aload_n 0, 1) := by decide +kernel
theorem dX0_reckoned_1 : decode cX0_reckoned 1 = .ok (.iload_n 1, 1) := by decide +kernel
theorem dX0_reckoned_2 : decode cX0_reckoned 2 = .ok (.invokevirtual 160, 3) := by decide +kernel
theorem dX0_reckoned_5 : decode cX0_reckoned 5 = .ok (.istore_n 3, 1) := by decide +kernel
theorem dX0_reckoned_6 : decode cX0_reckoned 6 = .ok (.aload_n 0, 1) := by decide +kernel
theorem dX0_reckoned_7 : decode cX0_reckoned 7 = .ok (.iload_n 3, 1) := by decide +kernel
theorem dX0_reckoned_8 : decode cX0_reckoned 8 = .ok (.iload_n 2, 1) := by decide +kernel
theorem dX0_reckoned_9 : decode cX0_reckoned 9 = .ok (.invokevirtual 173, 3) := by decide +kernel
theorem dX0_reckoned_12 : decode cX0_reckoned 12 = .ok (.i2l, 1) := by decide +kernel
theorem dX0_reckoned_13 : decode cX0_reckoned 13 = .ok (.aload_n 0, 1) := by decide +kernel
theorem dX0_reckoned_14 : decode cX0_reckoned 14 = .ok (.iload_n 3, 1) := by decide +kernel
theorem dX0_reckoned_15 : decode cX0_reckoned 15 = .ok (.iload_n 1, 1) := by decide +kernel
theorem dX0_reckoned_16 : decode cX0_reckoned 16 = .ok (.iload_n 2, 1) := by decide +kernel
theorem dX0_reckoned_17 : decode cX0_reckoned 17 = .ok (.invokevirtual 176, 3) := by decide +kernel
theorem dX0_reckoned_20 : decode cX0_reckoned 20 = .ok (.ladd, 1) := by decide +kernel
theorem dX0_reckoned_21 : decode cX0_reckoned 21 = .ok (.lreturn, 1) := by decide +kernel
set_option maxRecDepth 20000 in
theorem ggX0_corrected_X0_lastFix : GoodIn wsX0_corrected wsX0_lastFix := goodIn_r _ [5, 6, 47, 48, 49, 50, 51, 52, 53, 54, 55, 56, 57, 58] (by decide +kernel) (by decide +kernel)
set_option maxRecDepth 20000 in
theorem gX0_corrected_X0_lastFix : GoodIn wsX0_corrected (wsV RX0 160 RX0 yX0_lastFix wsX0_lastFix) := goodIn_app (goodIn_of _ (by decide +kernel)) ggX0_corrected_X0_lastFix
set_option maxRecDepth 20000 in
theorem ggX0_corrected_X0_firstFixAfter : GoodIn wsX0_corrected wsX0_firstFixAfter := goodIn_r _ [10, 11, 6, 47, 48, 49, 50, 51, 52, 53, 54, 55, 56, 57, 58] (by decide +kernel) (by decide +kernel)
set_option maxRecDepth 20000 in
theorem gX0_corrected_X0_firstFixAfter : GoodIn wsX0_corrected (wsV RX0 163 RX0 yX0_firstFixAfter wsX0_firstFixAfter) := goodIn_app (goodIn_of _ (by decide +kernel)) ggX0_corrected_X0_firstFixAfter
set_option maxRecDepth 20000 in
theorem ggX0_corrected_X0_reckoned : GoodIn wsX0_corrected wsX0_reckoned := goodIn_r _ [15, 1, 2, 3, 4, 5, 6, 16, 17, 18, 19, 20, 21, 22, 23, 24, 25, 26, 27, 28, 29, 30, 31, 32, 33, 34, 35, 36, 37, 38, 39, 47, 48, 49, 50, 51, 52, 53, 54, 55, 56, 57, 58] (by decide +kernel) (by decide +kernel)
set_option maxRecDepth 20000 in
theorem gX0_corrected_X0_reckoned : GoodIn wsX0_corrected (wsV RX0 137 RX0 yX0_reckoned wsX0_reckoned) := goodIn_app (goodIn_of _ (by decide +kernel)) ggX0_corrected_X0_reckoned
set_option maxRecDepth 20000 in
theorem ggX0_corrected_X0_error : GoodIn wsX0_corrected wsX0_error := goodIn_r _ [43, 16, 17, 18, 4, 19, 20, 21, 22, 23, 24, 25, 26, 27, 28, 29, 30, 31, 32, 33, 34, 35, 36, 37, 38, 39, 47, 48, 49, 50, 51, 52, 53, 54, 55, 56, 57, 58] (by decide +kernel) (by decide +kernel)
set_option maxRecDepth 20000 in
theorem gX0_corrected_X0_error : GoodIn wsX0_corrected (wsV RX0 166 RX0 yX0_error wsX0_error) := goodIn_app (goodIn_of _ (by decide +kernel)) ggX0_corrected_X0_error
set_option maxRecDepth 20000 in
theorem ggX0_corrected_J9_floorDiv_f86c9 : GoodIn wsX0_corrected wsJ9_floorDiv_f86c9 := goodIn_r _ [46] (by decide +kernel) (by decide +kernel)
set_option maxRecDepth 20000 in
theorem gX0_corrected_J9_floorDiv_f86c9 : GoodIn wsX0_corrected (va_wsS RX0 179 yJ9_floorDiv_f86c9 wsJ9_floorDiv_f86c9) := goodIn_app (goodIn_of _ (by decide +kernel)) ggX0_corrected_J9_floorDiv_f86c9
theorem dX0_corrected_0 : decode cX0_corrected 0 = .ok (.aload_n 0, 1) := by decide +kernel
theorem dX0_corrected_1 : decode cX0_corrected 1 = .ok (.iload_n 1, 1) := by decide +kernel
theorem dX0_corrected_2 : decode cX0_corrected 2 = .ok (.invokevirtual 160, 3) := by decide +kernel
theorem dX0_corrected_5 : decode cX0_corrected 5 = .ok (.istore_n 3, 1) := by decide +kernel
theorem dX0_corrected_6 : decode cX0_corrected 6 = .ok (.aload_n 0, 1) := by decide +kernel
theorem dX0_corrected_7 : decode cX0_corrected 7 = .ok (.iload_n 1, 1) := by decide +kernel
theorem dX0_corrected_8 : decode cX0_corrected 8 = .ok (.invokevirtual 163, 3) := by decide +kernel
theorem dX0_corrected_11 : decode cX0_corrected 11 = .ok (.istore 4, 2) := by decide +kernel
theorem dX0_corrected_13 : decode cX0_corrected 13 = .ok (.iload_n 3, 1) := by decide +kernel
theorem dX0_corrected_14 : decode cX0_corrected 14 = .ok (.iload_n 1, 1) := by decide +kernel
theorem dX0_corrected_15 : decode cX0_corrected 15 = .ok (.if_icmp .eq 9, 3) := by decide +kernel
theorem dX0_corrected_18 : decode cX0_corrected 18 = .ok (.iload 4, 2) := by decide +kernel
theorem dX0_corrected_20 : decode cX0_corrected 20 = .ok (.iload_n 3, 1) := by decide +kernel
theorem dX0_corrected_21 : decode cX0_corrected 21 = .ok (.if_icmp .gt 10, 3) := by decide +kernel
theorem dX0_corrected_24 : decode cX0_corrected 24 = .ok (.aload_n 0, 1) := by decide +kernel
theorem dX0_corrected_25 : decode cX0_corrected 25 = .ok (.iload_n 1, 1) := by decide +kernel
theorem dX0_corrected_26 : decode cX0_corrected 26 = .ok (.iload_n 2, 1) := by decide +kernel
theorem dX0_corrected_27 : decode cX0_corrected 27 = .ok (.invokevirtual 137, 3) := by decide +kernel
theorem dX0_corrected_30 : decode cX0_corrected 30 = .ok (.lreturn, 1) := by decide +kernel
theorem dX0_corrected_31 : decode cX0_corrected 31 = .ok (.aload_n 0, 1) := by decide +kernel
theorem dX0_corrected_32 : decode cX0_corrected 32 = .ok (.iload_n 1, 1) := by decide +kernel
theorem dX0_corrected_33 : decode cX0_corrected 33 = .ok (.iload_n 2, 1) := by decide +kernel
theorem dX0_corrected_34 : decode cX0_corrected 34 = .ok (.invokevirtual 137, 3) := by decide +kernel
theorem dX0_corrected_37 : decode cX0_corrected 37 = .ok (.aload_n 0, 1) := by decide +kernel
theorem dX0_corrected_38 : decode cX0_corrected 38 = .ok (.iload_n 3, 1) := by decide +kernel
theorem dX0_corrected_39 : decode cX0_corrected 39 = .ok (.iload 4, 2) := by decide +kernel
theorem dX0_corrected_41 : decode cX0_corrected 41 = .ok (.iload_n 2, 1) := by decide +kernel
theorem dX0_corrected_42 : decode cX0_corrected 42 = .ok (.invokevirtual 166, 3) := by decide +kernel
theorem dX0_corrected_45 : decode cX0_corrected 45 = .ok (.iload_n 1, 1) := by decide +kernel
theorem dX0_corrected_46 : decode cX0_corrected 46 = .ok (.iload_n 3, 1) := by decide +kernel
theorem dX0_corrected_47 : decode cX0_corrected 47 = .ok (.isub, 1) := by decide +kernel
theorem dX0_corrected_48 : decode cX0_corrected 48 = .ok (.i2l, 1) := by decide +kernel
theorem dX0_corrected_49 : decode cX0_corrected 49 = .ok (.lmul, 1) := by decide +kernel
theorem dX0_corrected_50 : decode cX0_corrected 50 = .ok (.iload 4, 2) := by decide +kernel
theorem dX0_corrected_52 : decode cX0_corrected 52 = .ok (.iload_n 3, 1) := by decide +kernel
theorem dX0_corrected_53 : decode cX0_corrected 53 = .ok (.isub, 1) := by decide +kernel
theorem dX0_corrected_54 : decode cX0_corrected 54 = .ok (.i2l, 1) := by decide +kernel
theorem dX0_corrected_55 : decode cX0_corrected 55 = .ok (.invokestatic 179, 3) := by decide +kernel
theorem dX0_corrected_58 : decode cX0_corrected 58 = .ok (.ladd, 1) := by decide +kernel
theorem dX0_corrected_59 : decode cX0_corrected 59 = .ok (.lreturn, 1) := by decide +kernel
set_option maxRecDepth 20000 in
theorem ggX0_error_X0_fix : GoodIn wsX0_error wsX0_fix := goodIn_r _ [5, 6, 7, 26, 27, 28, 29, 30, 31, 32, 33, 34, 35, 36, 37] (by decide +kernel) (by decide +kernel)
set_option maxRecDepth 20000 in
theorem gX0_error_X0_fix : GoodIn wsX0_error (wsV RX0 173 RX0 yX0_fix wsX0_fix) := goodIn_app (goodIn_of _ (by decide +kernel)) ggX0_error_X0_fix
set_option maxRecDepth 20000 in
theorem ggX0_error_X0_legs : GoodIn wsX0_error wsX0_legs := goodIn_r _ [11, 12, 13, 14, 15, 16, 17, 18, 19, 4, 20, 21, 22, 23, 24, 25, 26, 27, 28, 29, 30, 31, 32, 33, 34, 35, 36, 37] (by decide +kernel) (by decide +kernel)
set_option maxRecDepth 20000 in
theorem gX0_error_X0_legs : GoodIn wsX0_error (wsV RX0 176 RX0 yX0_legs wsX0_legs) := goodIn_app (goodIn_of _ (by decide +kernel)) ggX0_error_X0_legs
theorem dX0_error_0 : decode cX0_error 0 = .ok (.aload_n 0, 1) := by decide +kernel
theorem dX0_error_1 : decode cX0_error 1 = .ok (.iload_n 2, 1) := by decide +kernel
theorem dX0_error_2 : decode cX0_error 2 = .ok (.iload_n 3, 1) := by decide +kernel
theorem dX0_error_3 : decode cX0_error 3 = .ok (.invokevirtual 173, 3) := by decide +kernel
theorem dX0_error_6 : decode cX0_error 6 = .ok (.aload_n 0, 1) := by decide +kernel
theorem dX0_error_7 : decode cX0_error 7 = .ok (.iload_n 1, 1) := by decide +kernel
theorem dX0_error_8 : decode cX0_error 8 = .ok (.iload_n 3, 1) := by decide +kernel
theorem dX0_error_9 : decode cX0_error 9 = .ok (.invokevirtual 173, 3) := by decide +kernel
theorem dX0_error_12 : decode cX0_error 12 = .ok (.isub, 1) := by decide +kernel
theorem dX0_error_13 : decode cX0_error 13 = .ok (.i2l, 1) := by decide +kernel
theorem dX0_error_14 : decode cX0_error 14 = .ok (.aload_n 0, 1) := by decide +kernel
theorem dX0_error_15 : decode cX0_error 15 = .ok (.iload_n 1, 1) := by decide +kernel
theorem dX0_error_16 : decode cX0_error 16 = .ok (.iload_n 2, 1) := by decide +kernel
theorem dX0_error_17 : decode cX0_error 17 = .ok (.iload_n 3, 1) := by decide +kernel
theorem dX0_error_18 : decode cX0_error 18 = .ok (.invokevirtual 176, 3) := by decide +kernel
theorem dX0_error_21 : decode cX0_error 21 = .ok (.lsub, 1) := by decide +kernel
theorem dX0_error_22 : decode cX0_error 22 = .ok (.lreturn, 1) := by decide +kernel
set_option maxRecDepth 20000 in
theorem ggX0_legs_X0_movement : GoodIn wsX0_legs wsX0_movement := goodIn_r _ [10, 11, 12, 13, 14, 15] (by decide +kernel) (by decide +kernel)
set_option maxRecDepth 20000 in
theorem gX0_legs_X0_movement : GoodIn wsX0_legs (va_wsS RX0 184 yX0_movement wsX0_movement) := goodIn_app (goodIn_of _ (by decide +kernel)) ggX0_legs_X0_movement
theorem dX0_legs_0 : decode cX0_legs 0 = .ok (.iload_n 2, 1) := by decide +kernel
theorem dX0_legs_1 : decode cX0_legs 1 = .ok (.iload_n 1, 1) := by decide +kernel
theorem dX0_legs_2 : decode cX0_legs 2 = .ok (.isub, 1) := by decide +kernel
theorem dX0_legs_3 : decode cX0_legs 3 = .ok (.i2l, 1) := by decide +kernel
theorem dX0_legs_4 : decode cX0_legs 4 = .ok (.aload_n 0, 1) := by decide +kernel
theorem dX0_legs_5 : decode cX0_legs 5 = .ok (.getfield 118, 3) := by decide +kernel
theorem dX0_legs_8 : decode cX0_legs 8 = .ok (.aload_n 0, 1) := by decide +kernel
theorem dX0_legs_9 : decode cX0_legs 9 = .ok (.getfield 115, 3) := by decide +kernel
theorem dX0_legs_12 : decode cX0_legs 12 = .ok (.iload_n 3, 1) := by decide +kernel
theorem dX0_legs_13 : decode cX0_legs 13 = .ok (.invokestatic 184, 3) := by decide +kernel
theorem dX0_legs_16 : decode cX0_legs 16 = .ok (.lmul, 1) := by decide +kernel
theorem dX0_legs_17 : decode cX0_legs 17 = .ok (.lstore 4, 2) := by decide +kernel
theorem dX0_legs_19 : decode cX0_legs 19 = .ok (.iload_n 1, 1) := by decide +kernel
theorem dX0_legs_20 : decode cX0_legs 20 = .ok (.istore 6, 2) := by decide +kernel
theorem dX0_legs_22 : decode cX0_legs 22 = .ok (.iload 6, 2) := by decide +kernel
theorem dX0_legs_24 : decode cX0_legs 24 = .ok (.iload_n 2, 1) := by decide +kernel
theorem dX0_legs_25 : decode cX0_legs 25 = .ok (.if_icmp .ge 50, 3) := by decide +kernel
theorem dX0_legs_28 : decode cX0_legs 28 = .ok (.aload_n 0, 1) := by decide +kernel
theorem dX0_legs_29 : decode cX0_legs 29 = .ok (.getfield 22, 3) := by decide +kernel
theorem dX0_legs_32 : decode cX0_legs 32 = .ok (.iload 6, 2) := by decide +kernel
theorem dX0_legs_34 : decode cX0_legs 34 = .ok (.baload, 1) := by decide +kernel
theorem dX0_legs_35 : decode cX0_legs 35 = .ok (.ifCond .ne 34, 3) := by decide +kernel
theorem dX0_legs_38 : decode cX0_legs 38 = .ok (.lload 4, 2) := by decide +kernel
theorem dX0_legs_40 : decode cX0_legs 40 = .ok (.aload_n 0, 1) := by decide +kernel
theorem dX0_legs_41 : decode cX0_legs 41 = .ok (.getfield 13, 3) := by decide +kernel
theorem dX0_legs_44 : decode cX0_legs 44 = .ok (.iload 6, 2) := by decide +kernel
theorem dX0_legs_46 : decode cX0_legs 46 = .ok (.iaload, 1) := by decide +kernel
theorem dX0_legs_47 : decode cX0_legs 47 = .ok (.aload_n 0, 1) := by decide +kernel
theorem dX0_legs_48 : decode cX0_legs 48 = .ok (.getfield 19, 3) := by decide +kernel
theorem dX0_legs_51 : decode cX0_legs 51 = .ok (.iload 6, 2) := by decide +kernel
theorem dX0_legs_53 : decode cX0_legs 53 = .ok (.iaload, 1) := by decide +kernel
theorem dX0_legs_54 : decode cX0_legs 54 = .ok (.iadd, 1) := by decide +kernel
theorem dX0_legs_55 : decode cX0_legs 55 = .ok (.aload_n 0, 1) := by decide +kernel
theorem dX0_legs_56 : decode cX0_legs 56 = .ok (.getfield 16, 3) := by decide +kernel
theorem dX0_legs_59 : decode cX0_legs 59 = .ok (.iload 6, 2) := by decide +kernel
theorem dX0_legs_61 : decode cX0_legs 61 = .ok (.iaload, 1) := by decide +kernel
theorem dX0_legs_62 : decode cX0_legs 62 = .ok (.iload_n 3, 1) := by decide +kernel
theorem dX0_legs_63 : decode cX0_legs 63 = .ok (.invokestatic 184, 3) := by decide +kernel
theorem dX0_legs_66 : decode cX0_legs 66 = .ok (.ladd, 1) := by decide +kernel
theorem dX0_legs_67 : decode cX0_legs 67 = .ok (.lstore 4, 2) := by decide +kernel
theorem dX0_legs_69 : decode cX0_legs 69 = .ok (.iinc 6 1, 3) := by decide +kernel
theorem dX0_legs_72 : decode cX0_legs 72 = .ok (.goto (-50), 3) := by decide +kernel
theorem dX0_legs_75 : decode cX0_legs 75 = .ok (.lload 4, 2) := by decide +kernel
theorem dX0_legs_77 : decode cX0_legs 77 = .ok (.lreturn, 1) := by decide +kernel
set_option maxRecDepth 20000 in
theorem ggX0_movement_J9_floorMod_7cf53 : GoodIn wsX0_movement wsJ9_floorMod_7cf53 := goodIn_r _ [5] (by decide +kernel) (by decide +kernel)
set_option maxRecDepth 20000 in
theorem gX0_movement_J9_floorMod_7cf53 : GoodIn wsX0_movement (va_wsS RX0 190 yJ9_floorMod_7cf53 wsJ9_floorMod_7cf53) := goodIn_app (goodIn_of _ (by decide +kernel)) ggX0_movement_J9_floorMod_7cf53
theorem dX0_movement_0 : decode cX0_movement 0 = .ok (.iload_n 1, 1) := by decide +kernel
theorem dX0_movement_1 : decode cX0_movement 1 = .ok (.i2l, 1) := by decide +kernel
theorem dX0_movement_2 : decode cX0_movement 2 = .ok (.getstatic 187, 3) := by decide +kernel
theorem dX0_movement_5 : decode cX0_movement 5 = .ok (.iload_n 0, 1) := by decide +kernel
theorem dX0_movement_6 : decode cX0_movement 6 = .ok (.iload_n 2, 1) := by decide +kernel
theorem dX0_movement_7 : decode cX0_movement 7 = .ok (.iadd, 1) := by decide +kernel
theorem dX0_movement_8 : decode cX0_movement 8 = .ok (.bipush 32, 2) := by decide +kernel
theorem dX0_movement_10 : decode cX0_movement 10 = .ok (.invokestatic 190, 3) := by decide +kernel
theorem dX0_movement_13 : decode cX0_movement 13 = .ok (.iaload, 1) := by decide +kernel
theorem dX0_movement_14 : decode cX0_movement 14 = .ok (.i2l, 1) := by decide +kernel
theorem dX0_movement_15 : decode cX0_movement 15 = .ok (.lmul, 1) := by decide +kernel
theorem dX0_movement_16 : decode cX0_movement 16 = .ok (.lreturn, 1) := by decide +kernel
set_option maxRecDepth 20000 in
theorem ggX0_difference_X0_corrected : GoodIn wsX0_difference wsX0_corrected := goodIn_r _ [5, 6, 7, 8, 4, 9, 10, 11, 12, 13, 14, 15, 16, 17, 18, 19, 20, 21, 22, 23, 24, 25, 26, 27, 28, 29, 30, 31, 32, 33, 34, 35, 36, 37, 38, 39, 40, 41, 42, 43, 44, 45, 46, 47, 48, 49, 50, 51, 52, 53, 54, 55, 56, 57, 58, 59, 60, 61, 62] (by decide +kernel) (by decide +kernel)
set_option maxRecDepth 20000 in
theorem gX0_difference_X0_corrected : GoodIn wsX0_difference (wsV RX0 141 RX0 yX0_corrected wsX0_corrected) := goodIn_app (goodIn_of _ (by decide +kernel)) ggX0_difference_X0_corrected
theorem dX0_difference_0 : decode cX0_difference 0 = .ok (.aload_n 0, 1) := by decide +kernel
theorem dX0_difference_1 : decode cX0_difference 1 = .ok (.iload_n 2, 1) := by decide +kernel
theorem dX0_difference_2 : decode cX0_difference 2 = .ok (.iload_n 3, 1) := by decide +kernel
theorem dX0_difference_3 : decode cX0_difference 3 = .ok (.invokevirtual 141, 3) := by decide +kernel
theorem dX0_difference_6 : decode cX0_difference 6 = .ok (.aload_n 0, 1) := by decide +kernel
theorem dX0_difference_7 : decode cX0_difference 7 = .ok (.iload_n 1, 1) := by decide +kernel
theorem dX0_difference_8 : decode cX0_difference 8 = .ok (.iload_n 3, 1) := by decide +kernel
theorem dX0_difference_9 : decode cX0_difference 9 = .ok (.invokevirtual 141, 3) := by decide +kernel
theorem dX0_difference_12 : decode cX0_difference 12 = .ok (.lsub, 1) := by decide +kernel
theorem dX0_difference_13 : decode cX0_difference 13 = .ok (.lreturn, 1) := by decide +kernel
theorem dX0_squares_0 : decode cX0_squares 0 = .ok (.lload_n 0, 1) := by decide +kernel
theorem dX0_squares_1 : decode cX0_squares 1 = .ok (.lload_n 0, 1) := by decide +kernel
theorem dX0_squares_2 : decode cX0_squares 2 = .ok (.lmul, 1) := by decide +kernel
theorem dX0_squares_3 : decode cX0_squares 3 = .ok (.lload_n 2, 1) := by decide +kernel
theorem dX0_squares_4 : decode cX0_squares 4 = .ok (.lload_n 2, 1) := by decide +kernel
theorem dX0_squares_5 : decode cX0_squares 5 = .ok (.lmul, 1) := by decide +kernel
theorem dX0_squares_6 : decode cX0_squares 6 = .ok (.ladd, 1) := by decide +kernel
theorem dX0_squares_7 : decode cX0_squares 7 = .ok (.lreturn, 1) := by decide +kernel
theorem dX0_root_0 : decode cX0_root 0 = .ok (.lconst 0, 1) := by decide +kernel
theorem dX0_root_1 : decode cX0_root 1 = .ok (.lstore_n 2, 1) := by decide +kernel
theorem dX0_root_2 : decode cX0_root 2 = .ok (.bipush 30, 2) := by decide +kernel
theorem dX0_root_4 : decode cX0_root 4 = .ok (.istore 4, 2) := by decide +kernel
theorem dX0_root_6 : decode cX0_root 6 = .ok (.iload 4, 2) := by decide +kernel
theorem dX0_root_8 : decode cX0_root 8 = .ok (.ifCond .lt 30, 3) := by decide +kernel
theorem dX0_root_11 : decode cX0_root 11 = .ok (.lload_n 2, 1) := by decide +kernel
theorem dX0_root_12 : decode cX0_root 12 = .ok (.lconst 1, 1) := by decide +kernel
theorem dX0_root_13 : decode cX0_root 13 = .ok (.iload 4, 2) := by decide +kernel
theorem dX0_root_15 : decode cX0_root 15 = .ok (.lshl, 1) := by decide +kernel
theorem dX0_root_16 : decode cX0_root 16 = .ok (.ladd, 1) := by decide +kernel
theorem dX0_root_17 : decode cX0_root 17 = .ok (.lstore 5, 2) := by decide +kernel
theorem dX0_root_19 : decode cX0_root 19 = .ok (.lload 5, 2) := by decide +kernel
theorem dX0_root_21 : decode cX0_root 21 = .ok (.lload 5, 2) := by decide +kernel
theorem dX0_root_23 : decode cX0_root 23 = .ok (.lmul, 1) := by decide +kernel
theorem dX0_root_24 : decode cX0_root 24 = .ok (.lload_n 0, 1) := by decide +kernel
theorem dX0_root_25 : decode cX0_root 25 = .ok (.lcmp, 1) := by decide +kernel
theorem dX0_root_26 : decode cX0_root 26 = .ok (.ifCond .gt 6, 3) := by decide +kernel
theorem dX0_root_29 : decode cX0_root 29 = .ok (.lload 5, 2) := by decide +kernel
theorem dX0_root_31 : decode cX0_root 31 = .ok (.lstore_n 2, 1) := by decide +kernel
theorem dX0_root_32 : decode cX0_root 32 = .ok (.iinc 4 (-1), 3) := by decide +kernel
theorem dX0_root_35 : decode cX0_root 35 = .ok (.goto (-29), 3) := by decide +kernel
theorem dX0_root_38 : decode cX0_root 38 = .ok (.lload_n 2, 1) := by decide +kernel
theorem dX0_root_39 : decode cX0_root 39 = .ok (.lreturn, 1) := by decide +kernel
set_option maxRecDepth 20000 in
theorem ggX0_nearestPoint_X0_advance : GoodIn wsX0_nearestPoint wsX0_advance := goodIn_r _ [4, 5, 6, 3, 7, 8, 9, 10, 11, 12] (by decide +kernel) (by decide +kernel)
set_option maxRecDepth 20000 in
theorem gX0_nearestPoint_X0_advance : GoodIn wsX0_nearestPoint (va_wsS RX0 193 yX0_advance wsX0_advance) := goodIn_app (goodIn_of _ (by decide +kernel)) ggX0_nearestPoint_X0_advance
theorem dX0_nearestPoint_0 : decode cX0_nearestPoint 0 = .ok (.iconst 0, 1) := by decide +kernel
theorem dX0_nearestPoint_1 : decode cX0_nearestPoint 1 = .ok (.istore 4, 2) := by decide +kernel
theorem dX0_nearestPoint_3 : decode cX0_nearestPoint 3 = .ok (.iconst 1, 1) := by decide +kernel
theorem dX0_nearestPoint_4 : decode cX0_nearestPoint 4 = .ok (.istore 5, 2) := by decide +kernel
theorem dX0_nearestPoint_6 : decode cX0_nearestPoint 6 = .ok (.iload 5, 2) := by decide +kernel
theorem dX0_nearestPoint_8 : decode cX0_nearestPoint 8 = .ok (.bipush 32, 2) := by decide +kernel
theorem dX0_nearestPoint_10 : decode cX0_nearestPoint 10 = .ok (.if_icmp .ge 31, 3) := by decide +kernel
theorem dX0_nearestPoint_13 : decode cX0_nearestPoint 13 = .ok (.lload_n 0, 1) := by decide +kernel
theorem dX0_nearestPoint_14 : decode cX0_nearestPoint 14 = .ok (.lload_n 2, 1) := by decide +kernel
theorem dX0_nearestPoint_15 : decode cX0_nearestPoint 15 = .ok (.iload 5, 2) := by decide +kernel
theorem dX0_nearestPoint_17 : decode cX0_nearestPoint 17 = .ok (.invokestatic 193, 3) := by decide +kernel
theorem dX0_nearestPoint_20 : decode cX0_nearestPoint 20 = .ok (.lload_n 0, 1) := by decide +kernel
theorem dX0_nearestPoint_21 : decode cX0_nearestPoint 21 = .ok (.lload_n 2, 1) := by decide +kernel
theorem dX0_nearestPoint_22 : decode cX0_nearestPoint 22 = .ok (.iload 4, 2) := by decide +kernel
theorem dX0_nearestPoint_24 : decode cX0_nearestPoint 24 = .ok (.invokestatic 193, 3) := by decide +kernel
theorem dX0_nearestPoint_27 : decode cX0_nearestPoint 27 = .ok (.lcmp, 1) := by decide +kernel
theorem dX0_nearestPoint_28 : decode cX0_nearestPoint 28 = .ok (.ifCond .le 7, 3) := by decide +kernel
theorem dX0_nearestPoint_31 : decode cX0_nearestPoint 31 = .ok (.iload 5, 2) := by decide +kernel
theorem dX0_nearestPoint_33 : decode cX0_nearestPoint 33 = .ok (.istore 4, 2) := by decide +kernel
theorem dX0_nearestPoint_35 : decode cX0_nearestPoint 35 = .ok (.iinc 5 1, 3) := by decide +kernel
theorem dX0_nearestPoint_38 : decode cX0_nearestPoint 38 = .ok (.goto (-32), 3) := by decide +kernel
theorem dX0_nearestPoint_41 : decode cX0_nearestPoint 41 = .ok (.iload 4, 2) := by decide +kernel
theorem dX0_nearestPoint_43 : decode cX0_nearestPoint 43 = .ok (.ireturn, 1) := by decide +kernel
set_option maxRecDepth 20000 in
theorem ggX0_advance_X0_movement : GoodIn wsX0_advance wsX0_movement := goodIn_r _ [4, 5, 6, 7, 8, 9] (by decide +kernel) (by decide +kernel)
set_option maxRecDepth 20000 in
theorem gX0_advance_X0_movement : GoodIn wsX0_advance (va_wsS RX0 184 yX0_movement wsX0_movement) := goodIn_app (goodIn_of _ (by decide +kernel)) ggX0_advance_X0_movement
theorem dX0_advance_0 : decode cX0_advance 0 = .ok (.lload_n 0, 1) := by decide +kernel
theorem dX0_advance_1 : decode cX0_advance 1 = .ok (.iload 4, 2) := by decide +kernel
theorem dX0_advance_3 : decode cX0_advance 3 = .ok (.iconst 1, 1) := by decide +kernel
theorem dX0_advance_4 : decode cX0_advance 4 = .ok (.bipush 8, 2) := by decide +kernel
theorem dX0_advance_6 : decode cX0_advance 6 = .ok (.invokestatic 184, 3) := by decide +kernel
theorem dX0_advance_9 : decode cX0_advance 9 = .ok (.lmul, 1) := by decide +kernel
theorem dX0_advance_10 : decode cX0_advance 10 = .ok (.lload_n 2, 1) := by decide +kernel
theorem dX0_advance_11 : decode cX0_advance 11 = .ok (.iload 4, 2) := by decide +kernel
theorem dX0_advance_13 : decode cX0_advance 13 = .ok (.iconst 1, 1) := by decide +kernel
theorem dX0_advance_14 : decode cX0_advance 14 = .ok (.iconst 0, 1) := by decide +kernel
theorem dX0_advance_15 : decode cX0_advance 15 = .ok (.invokestatic 184, 3) := by decide +kernel
theorem dX0_advance_18 : decode cX0_advance 18 = .ok (.lmul, 1) := by decide +kernel
theorem dX0_advance_19 : decode cX0_advance 19 = .ok (.ladd, 1) := by decide +kernel
theorem dX0_advance_20 : decode cX0_advance 20 = .ok (.lreturn, 1) := by decide +kernel
set_option maxRecDepth 20000 in
theorem ggX0_likeliest_X0_squares : GoodIn wsX0_likeliest wsX0_squares := goodIn_r _ [5] (by decide +kernel) (by decide +kernel)
set_option maxRecDepth 20000 in
theorem gX0_likeliest_X0_squares : GoodIn wsX0_likeliest (va_wsS RX0 148 yX0_squares wsX0_squares) := goodIn_app (goodIn_of _ (by decide +kernel)) ggX0_likeliest_X0_squares
set_option maxRecDepth 20000 in
theorem ggX0_likeliest_X0_miss : GoodIn wsX0_likeliest wsX0_miss := goodIn_r _ [8, 9, 10, 4, 11, 12, 13, 14, 15, 16, 2, 3, 5] (by decide +kernel) (by decide +kernel)
set_option maxRecDepth 20000 in
theorem gX0_likeliest_X0_miss : GoodIn wsX0_likeliest (va_wsS RX0 196 yX0_miss wsX0_miss) := goodIn_app (goodIn_of _ (by decide +kernel)) ggX0_likeliest_X0_miss
theorem dX0_likeliest_0 : decode cX0_likeliest 0 = .ok (.lconst 0, 1) := by decide +kernel
theorem dX0_likeliest_1 : decode cX0_likeliest 1 = .ok (.lstore 5, 2) := by decide +kernel
theorem dX0_likeliest_3 : decode cX0_likeliest 3 = .ok (.lload_n 0, 1) := by decide +kernel
theorem dX0_likeliest_4 : decode cX0_likeliest 4 = .ok (.lload_n 2, 1) := by decide +kernel
theorem dX0_likeliest_5 : decode cX0_likeliest 5 = .ok (.invokestatic 148, 3) := by decide +kernel
theorem dX0_likeliest_8 : decode cX0_likeliest 8 = .ok (.lstore 7, 2) := by decide +kernel
theorem dX0_likeliest_10 : decode cX0_likeliest 10 = .ok (.iconst 1, 1) := by decide +kernel
theorem dX0_likeliest_11 : decode cX0_likeliest 11 = .ok (.istore 9, 2) := by decide +kernel
theorem dX0_likeliest_13 : decode cX0_likeliest 13 = .ok (.iload 9, 2) := by decide +kernel
theorem dX0_likeliest_15 : decode cX0_likeliest 15 = .ok (.sipush 200, 3) := by decide +kernel
theorem dX0_likeliest_18 : decode cX0_likeliest 18 = .ok (.if_icmp .gt 64, 3) := by decide +kernel
theorem dX0_likeliest_21 : decode cX0_likeliest 21 = .ok (.iconst 0, 1) := by decide +kernel
theorem dX0_likeliest_22 : decode cX0_likeliest 22 = .ok (.istore 10, 2) := by decide +kernel
theorem dX0_likeliest_24 : decode cX0_likeliest 24 = .ok (.iload 10, 2) := by decide +kernel
theorem dX0_likeliest_26 : decode cX0_likeliest 26 = .ok (.bipush 32, 2) := by decide +kernel
theorem dX0_likeliest_28 : decode cX0_likeliest 28 = .ok (.if_icmp .ge 48, 3) := by decide +kernel
theorem dX0_likeliest_31 : decode cX0_likeliest 31 = .ok (.lload_n 0, 1) := by decide +kernel
theorem dX0_likeliest_32 : decode cX0_likeliest 32 = .ok (.lload_n 2, 1) := by decide +kernel
theorem dX0_likeliest_33 : decode cX0_likeliest 33 = .ok (.iload 10, 2) := by decide +kernel
theorem dX0_likeliest_35 : decode cX0_likeliest 35 = .ok (.iload 4, 2) := by decide +kernel
theorem dX0_likeliest_37 : decode cX0_likeliest 37 = .ok (.iadd, 1) := by decide +kernel
theorem dX0_likeliest_38 : decode cX0_likeliest 38 = .ok (.iload 9, 2) := by decide +kernel
theorem dX0_likeliest_40 : decode cX0_likeliest 40 = .ok (.invokestatic 196, 3) := by decide +kernel
theorem dX0_likeliest_43 : decode cX0_likeliest 43 = .ok (.lstore 11, 2) := by decide +kernel
theorem dX0_likeliest_45 : decode cX0_likeliest 45 = .ok (.lload 11, 2) := by decide +kernel
theorem dX0_likeliest_47 : decode cX0_likeliest 47 = .ok (.lload 7, 2) := by decide +kernel
theorem dX0_likeliest_49 : decode cX0_likeliest 49 = .ok (.lcmp, 1) := by decide +kernel
theorem dX0_likeliest_50 : decode cX0_likeliest 50 = .ok (.ifCond .ge 20, 3) := by decide +kernel
theorem dX0_likeliest_53 : decode cX0_likeliest 53 = .ok (.lload 11, 2) := by decide +kernel
theorem dX0_likeliest_55 : decode cX0_likeliest 55 = .ok (.lstore 7, 2) := by decide +kernel
theorem dX0_likeliest_57 : decode cX0_likeliest 57 = .ok (.ldc2_w 200, 3) := by decide +kernel
theorem dX0_likeliest_60 : decode cX0_likeliest 60 = .ok (.iload 10, 2) := by decide +kernel
theorem dX0_likeliest_62 : decode cX0_likeliest 62 = .ok (.i2l, 1) := by decide +kernel
theorem dX0_likeliest_63 : decode cX0_likeliest 63 = .ok (.lmul, 1) := by decide +kernel
theorem dX0_likeliest_64 : decode cX0_likeliest 64 = .ok (.iload 9, 2) := by decide +kernel
theorem dX0_likeliest_66 : decode cX0_likeliest 66 = .ok (.i2l, 1) := by decide +kernel
theorem dX0_likeliest_67 : decode cX0_likeliest 67 = .ok (.ladd, 1) := by decide +kernel
theorem dX0_likeliest_68 : decode cX0_likeliest 68 = .ok (.lstore 5, 2) := by decide +kernel
theorem dX0_likeliest_70 : decode cX0_likeliest 70 = .ok (.iinc 10 1, 3) := by decide +kernel
theorem dX0_likeliest_73 : decode cX0_likeliest 73 = .ok (.goto (-49), 3) := by decide +kernel
theorem dX0_likeliest_76 : decode cX0_likeliest 76 = .ok (.iinc 9 1, 3) := by decide +kernel
theorem dX0_likeliest_79 : decode cX0_likeliest 79 = .ok (.goto (-66), 3) := by decide +kernel
theorem dX0_likeliest_82 : decode cX0_likeliest 82 = .ok (.lload 5, 2) := by decide +kernel
theorem dX0_likeliest_84 : decode cX0_likeliest 84 = .ok (.lreturn, 1) := by decide +kernel
set_option maxRecDepth 20000 in
theorem ggX0_miss_X0_movement : GoodIn wsX0_miss wsX0_movement := goodIn_r _ [4, 5, 6, 7, 8, 9] (by decide +kernel) (by decide +kernel)
set_option maxRecDepth 20000 in
theorem gX0_miss_X0_movement : GoodIn wsX0_miss (va_wsS RX0 184 yX0_movement wsX0_movement) := goodIn_app (goodIn_of _ (by decide +kernel)) ggX0_miss_X0_movement
set_option maxRecDepth 20000 in
theorem ggX0_miss_X0_squares : GoodIn wsX0_miss wsX0_squares := goodIn_r _ [12] (by decide +kernel) (by decide +kernel)
set_option maxRecDepth 20000 in
theorem gX0_miss_X0_squares : GoodIn wsX0_miss (va_wsS RX0 148 yX0_squares wsX0_squares) := goodIn_app (goodIn_of _ (by decide +kernel)) ggX0_miss_X0_squares
theorem dX0_miss_0 : decode cX0_miss 0 = .ok (.lload_n 0, 1) := by decide +kernel
theorem dX0_miss_1 : decode cX0_miss 1 = .ok (.iload 4, 2) := by decide +kernel
theorem dX0_miss_3 : decode cX0_miss 3 = .ok (.iload 5, 2) := by decide +kernel
theorem dX0_miss_5 : decode cX0_miss 5 = .ok (.bipush 8, 2) := by decide +kernel
theorem dX0_miss_7 : decode cX0_miss 7 = .ok (.invokestatic 184, 3) := by decide +kernel
theorem dX0_miss_10 : decode cX0_miss 10 = .ok (.lsub, 1) := by decide +kernel
theorem dX0_miss_11 : decode cX0_miss 11 = .ok (.lload_n 2, 1) := by decide +kernel
theorem dX0_miss_12 : decode cX0_miss 12 = .ok (.iload 4, 2) := by decide +kernel
theorem dX0_miss_14 : decode cX0_miss 14 = .ok (.iload 5, 2) := by decide +kernel
theorem dX0_miss_16 : decode cX0_miss 16 = .ok (.iconst 0, 1) := by decide +kernel
theorem dX0_miss_17 : decode cX0_miss 17 = .ok (.invokestatic 184, 3) := by decide +kernel
theorem dX0_miss_20 : decode cX0_miss 20 = .ok (.lsub, 1) := by decide +kernel
theorem dX0_miss_21 : decode cX0_miss 21 = .ok (.invokestatic 148, 3) := by decide +kernel
theorem dX0_miss_24 : decode cX0_miss 24 = .ok (.lreturn, 1) := by decide +kernel
set_option maxRecDepth 20000 in
theorem ggX0_digest_X0_mix : GoodIn wsX0_digest wsX0_mix := goodIn_r _ [8, 9] (by decide +kernel) (by decide +kernel)
set_option maxRecDepth 20000 in
theorem gX0_digest_X0_mix : GoodIn wsX0_digest (va_wsS RX0 204 yX0_mix wsX0_mix) := goodIn_app (goodIn_of _ (by decide +kernel)) ggX0_digest_X0_mix
set_option maxRecDepth 20000 in
theorem ggX0_digest_X0_mixPegs : GoodIn wsX0_digest wsX0_mixPegs := goodIn_r _ [13, 2, 14, 15, 16, 17, 7, 18, 19, 20, 21, 22, 23, 24, 25, 26, 27, 28, 29, 5, 6, 8, 9, 30, 31, 32, 33, 34, 136, 137, 138, 139, 140, 141, 142, 143, 144, 145, 146, 147] (by decide +kernel) (by decide +kernel)
set_option maxRecDepth 20000 in
theorem gX0_digest_X0_mixPegs : GoodIn wsX0_digest (wsV RX0 207 RX0 yX0_mixPegs wsX0_mixPegs) := goodIn_app (goodIn_of _ (by decide +kernel)) ggX0_digest_X0_mixPegs
set_option maxRecDepth 20000 in
theorem ggX0_digest_X0_mixMoments : GoodIn wsX0_digest wsX0_mixMoments := goodIn_r _ [38, 2, 39, 5, 6, 7, 8, 9, 40, 41, 42, 43, 44, 45, 46, 47, 48, 49, 50, 51, 52, 53, 54, 55, 56, 57, 3, 4, 20, 22, 14, 34, 58, 59, 60, 61, 62, 63, 64, 65, 66, 67, 68, 69, 70, 71, 72, 73, 74, 75, 76, 77, 78, 79, 80, 136, 137, 138, 139, 140, 141, 142, 143, 144, 145, 146, 147] (by decide +kernel) (by decide +kernel)
set_option maxRecDepth 20000 in
theorem gX0_digest_X0_mixMoments : GoodIn wsX0_digest (wsV RX0 210 RX0 yX0_mixMoments wsX0_mixMoments) := goodIn_app (goodIn_of _ (by decide +kernel)) ggX0_digest_X0_mixMoments
set_option maxRecDepth 20000 in
theorem ggX0_digest_X0_distance : GoodIn wsX0_digest wsX0_distance := goodIn_r _ [84, 85, 86, 87, 88, 7, 89, 2, 27, 28, 29, 90, 91, 92, 93, 66, 67, 68, 69, 44, 45, 46, 47, 39, 70, 71, 72, 73, 40, 41, 42, 43, 48, 49, 50, 51, 52, 53, 54, 55, 56, 57, 3, 4, 20, 22, 14, 34, 58, 59, 60, 61, 62, 63, 64, 65, 74, 75, 76, 77, 78, 79, 80, 94, 95, 96, 97, 98, 99, 136, 137, 138, 139, 140, 141, 142, 143, 144, 145, 146, 147] (by decide +kernel) (by decide +kernel)
set_option maxRecDepth 20000 in
theorem gX0_digest_X0_distance : GoodIn wsX0_digest (wsV RX0 213 RX0 yX0_distance wsX0_distance) := goodIn_app (goodIn_of _ (by decide +kernel)) ggX0_digest_X0_distance
set_option maxRecDepth 20000 in
theorem ggX0_digest_X0_bearing : GoodIn wsX0_digest wsX0_bearing := goodIn_r _ [103, 85, 104, 86, 87, 88, 7, 89, 2, 27, 28, 29, 90, 91, 92, 93, 66, 67, 68, 69, 44, 45, 46, 47, 39, 70, 71, 72, 73, 40, 41, 42, 43, 48, 49, 50, 51, 52, 53, 54, 55, 56, 57, 3, 4, 20, 22, 14, 34, 58, 59, 60, 61, 62, 63, 64, 65, 74, 75, 76, 77, 78, 79, 80, 105, 106, 107, 108, 109, 110, 136, 137, 138, 139, 140, 141, 142, 143, 144, 145, 146, 147] (by decide +kernel) (by decide +kernel)
set_option maxRecDepth 20000 in
theorem gX0_digest_X0_bearing : GoodIn wsX0_digest (wsV RX0 216 RX0 yX0_bearing wsX0_bearing) := goodIn_app (goodIn_of _ (by decide +kernel)) ggX0_digest_X0_bearing
set_option maxRecDepth 20000 in
theorem ggX0_digest_X0_firstLost : GoodIn wsX0_digest wsX0_firstLost := goodIn_r _ [114, 2, 20, 136, 137, 138, 139, 140, 141, 142, 143, 144, 145, 146, 147] (by decide +kernel) (by decide +kernel)
set_option maxRecDepth 20000 in
theorem gX0_digest_X0_firstLost : GoodIn wsX0_digest (wsV RX0 219 RX0 yX0_firstLost wsX0_firstLost) := goodIn_app (goodIn_of _ (by decide +kernel)) ggX0_digest_X0_firstLost
set_option maxRecDepth 20000 in
theorem ggX0_digest_X0_findLost : GoodIn wsX0_digest wsX0_findLost := goodIn_r _ [118, 19, 20, 21, 104, 14, 23, 24, 25, 7, 26, 2, 27, 28, 29, 44, 45, 46, 47, 39, 70, 71, 72, 73, 119, 120, 121, 122, 74, 75, 76, 77, 48, 49, 50, 51, 52, 53, 54, 55, 56, 57, 3, 4, 22, 34, 58, 59, 60, 61, 62, 63, 64, 65, 123, 124, 125, 126, 94, 95, 96, 127, 128, 129, 136, 137, 138, 139, 140, 141, 142, 143, 144, 145, 146, 147] (by decide +kernel) (by decide +kernel)
set_option maxRecDepth 20000 in
theorem gX0_digest_X0_findLost : GoodIn wsX0_digest (wsV RX0 222 RX0 yX0_findLost wsX0_findLost) := goodIn_app (goodIn_of _ (by decide +kernel)) ggX0_digest_X0_findLost
set_option maxRecDepth 20000 in
theorem ggX0_digest_X0_mixBuffer : GoodIn wsX0_digest wsX0_mixBuffer := goodIn_r _ [133, 134, 135, 5, 6, 7, 8, 9, 136, 137, 138, 139, 140, 141, 142, 143, 144, 145, 146, 147] (by decide +kernel) (by decide +kernel)
set_option maxRecDepth 20000 in
theorem gX0_digest_X0_mixBuffer : GoodIn wsX0_digest (wsV RX0 226 RX0 yX0_mixBuffer wsX0_mixBuffer) := goodIn_app (goodIn_of _ (by decide +kernel)) ggX0_digest_X0_mixBuffer
theorem dX0_digest_0 : decode cX0_digest 0 = .ok (.ldc2_w 202, 3) := by decide +kernel
theorem dX0_digest_3 : decode cX0_digest 3 = .ok (.aload_n 0, 1) := by decide +kernel
theorem dX0_digest_4 : decode cX0_digest 4 = .ok (.getfield 71, 3) := by decide +kernel
theorem dX0_digest_7 : decode cX0_digest 7 = .ok (.i2l, 1) := by decide +kernel
theorem dX0_digest_8 : decode cX0_digest 8 = .ok (.invokestatic 204, 3) := by decide +kernel
theorem dX0_digest_11 : decode cX0_digest 11 = .ok (.lstore_n 1, 1) := by decide +kernel
theorem dX0_digest_12 : decode cX0_digest 12 = .ok (.aload_n 0, 1) := by decide +kernel
theorem dX0_digest_13 : decode cX0_digest 13 = .ok (.lload_n 1, 1) := by decide +kernel
theorem dX0_digest_14 : decode cX0_digest 14 = .ok (.invokevirtual 207, 3) := by decide +kernel
theorem dX0_digest_17 : decode cX0_digest 17 = .ok (.lstore_n 1, 1) := by decide +kernel
theorem dX0_digest_18 : decode cX0_digest 18 = .ok (.lload_n 1, 1) := by decide +kernel
theorem dX0_digest_19 : decode cX0_digest 19 = .ok (.aload_n 0, 1) := by decide +kernel
theorem dX0_digest_20 : decode cX0_digest 20 = .ok (.getfield 118, 3) := by decide +kernel
theorem dX0_digest_23 : decode cX0_digest 23 = .ok (.i2l, 1) := by decide +kernel
theorem dX0_digest_24 : decode cX0_digest 24 = .ok (.invokestatic 204, 3) := by decide +kernel
theorem dX0_digest_27 : decode cX0_digest 27 = .ok (.aload_n 0, 1) := by decide +kernel
theorem dX0_digest_28 : decode cX0_digest 28 = .ok (.getfield 115, 3) := by decide +kernel
theorem dX0_digest_31 : decode cX0_digest 31 = .ok (.i2l, 1) := by decide +kernel
theorem dX0_digest_32 : decode cX0_digest 32 = .ok (.invokestatic 204, 3) := by decide +kernel
theorem dX0_digest_35 : decode cX0_digest 35 = .ok (.lstore_n 1, 1) := by decide +kernel
theorem dX0_digest_36 : decode cX0_digest 36 = .ok (.aload_n 0, 1) := by decide +kernel
theorem dX0_digest_37 : decode cX0_digest 37 = .ok (.lload_n 1, 1) := by decide +kernel
theorem dX0_digest_38 : decode cX0_digest 38 = .ok (.invokevirtual 210, 3) := by decide +kernel
theorem dX0_digest_41 : decode cX0_digest 41 = .ok (.lstore_n 1, 1) := by decide +kernel
theorem dX0_digest_42 : decode cX0_digest 42 = .ok (.lload_n 1, 1) := by decide +kernel
theorem dX0_digest_43 : decode cX0_digest 43 = .ok (.aload_n 0, 1) := by decide +kernel
theorem dX0_digest_44 : decode cX0_digest 44 = .ok (.iconst 0, 1) := by decide +kernel
theorem dX0_digest_45 : decode cX0_digest 45 = .ok (.aload_n 0, 1) := by decide +kernel
theorem dX0_digest_46 : decode cX0_digest 46 = .ok (.getfield 71, 3) := by decide +kernel
theorem dX0_digest_49 : decode cX0_digest 49 = .ok (.invokevirtual 213, 3) := by decide +kernel
theorem dX0_digest_52 : decode cX0_digest 52 = .ok (.invokestatic 204, 3) := by decide +kernel
theorem dX0_digest_55 : decode cX0_digest 55 = .ok (.aload_n 0, 1) := by decide +kernel
theorem dX0_digest_56 : decode cX0_digest 56 = .ok (.iconst 0, 1) := by decide +kernel
theorem dX0_digest_57 : decode cX0_digest 57 = .ok (.aload_n 0, 1) := by decide +kernel
theorem dX0_digest_58 : decode cX0_digest 58 = .ok (.getfield 71, 3) := by decide +kernel
theorem dX0_digest_61 : decode cX0_digest 61 = .ok (.invokevirtual 216, 3) := by decide +kernel
theorem dX0_digest_64 : decode cX0_digest 64 = .ok (.invokestatic 204, 3) := by decide +kernel
theorem dX0_digest_67 : decode cX0_digest 67 = .ok (.lstore_n 1, 1) := by decide +kernel
theorem dX0_digest_68 : decode cX0_digest 68 = .ok (.aload_n 0, 1) := by decide +kernel
theorem dX0_digest_69 : decode cX0_digest 69 = .ok (.invokevirtual 219, 3) := by decide +kernel
theorem dX0_digest_72 : decode cX0_digest 72 = .ok (.istore_n 3, 1) := by decide +kernel
theorem dX0_digest_73 : decode cX0_digest 73 = .ok (.iload_n 3, 1) := by decide +kernel
theorem dX0_digest_74 : decode cX0_digest 74 = .ok (.iconst (-1), 1) := by decide +kernel
theorem dX0_digest_75 : decode cX0_digest 75 = .ok (.if_icmp .eq 13, 3) := by decide +kernel
theorem dX0_digest_78 : decode cX0_digest 78 = .ok (.lload_n 1, 1) := by decide +kernel
theorem dX0_digest_79 : decode cX0_digest 79 = .ok (.aload_n 0, 1) := by decide +kernel
theorem dX0_digest_80 : decode cX0_digest 80 = .ok (.iload_n 3, 1) := by decide +kernel
theorem dX0_digest_81 : decode cX0_digest 81 = .ok (.invokevirtual 222, 3) := by decide +kernel
theorem dX0_digest_84 : decode cX0_digest 84 = .ok (.invokestatic 204, 3) := by decide +kernel
theorem dX0_digest_87 : decode cX0_digest 87 = .ok (.lstore_n 1, 1) := by decide +kernel
theorem dX0_digest_88 : decode cX0_digest 88 = .ok (.aload_n 0, 1) := by decide +kernel
theorem dX0_digest_89 : decode cX0_digest 89 = .ok (.lload_n 1, 1) := by decide +kernel
theorem dX0_digest_90 : decode cX0_digest 90 = .ok (.invokevirtual 226, 3) := by decide +kernel
theorem dX0_digest_93 : decode cX0_digest 93 = .ok (.lreturn, 1) := by decide +kernel
set_option maxRecDepth 20000 in
theorem ggX0_mixPegs_X0_pointOf : GoodIn wsX0_mixPegs wsX0_pointOf := goodIn_r _ [7, 8, 9, 10, 11, 12, 13, 14, 6, 15, 1, 16, 17, 18, 28, 29, 30, 31, 32, 33, 34, 35, 36, 37, 38, 39] (by decide +kernel) (by decide +kernel)
set_option maxRecDepth 20000 in
theorem gX0_mixPegs_X0_pointOf : GoodIn wsX0_mixPegs (wsV RX0 229 RX0 yX0_pointOf wsX0_pointOf) := goodIn_app (goodIn_of _ (by decide +kernel)) ggX0_mixPegs_X0_pointOf
set_option maxRecDepth 20000 in
theorem ggX0_mixPegs_X0_mix : GoodIn wsX0_mixPegs wsX0_mix := goodIn_r _ [21, 22] (by decide +kernel) (by decide +kernel)
set_option maxRecDepth 20000 in
theorem gX0_mixPegs_X0_mix : GoodIn wsX0_mixPegs (va_wsS RX0 204 yX0_mix wsX0_mix) := goodIn_app (goodIn_of _ (by decide +kernel)) ggX0_mixPegs_X0_mix
set_option maxRecDepth 20000 in
theorem ggX0_mixPegs_X0_speedOf : GoodIn wsX0_mixPegs wsX0_speedOf := goodIn_r _ [26, 8, 9, 10, 27, 12, 13, 14, 6, 15, 1, 16, 17, 18, 28, 29, 30, 31, 32, 33, 34, 35, 36, 37, 38, 39] (by decide +kernel) (by decide +kernel)
set_option maxRecDepth 20000 in
theorem gX0_mixPegs_X0_speedOf : GoodIn wsX0_mixPegs (wsV RX0 232 RX0 yX0_speedOf wsX0_speedOf) := goodIn_app (goodIn_of _ (by decide +kernel)) ggX0_mixPegs_X0_speedOf
theorem dX0_mixPegs_0 : decode cX0_mixPegs 0 = .ok (.lload_n 1, 1) := by decide +kernel
theorem dX0_mixPegs_1 : decode cX0_mixPegs 1 = .ok (.lstore_n 3, 1) := by decide +kernel
theorem dX0_mixPegs_2 : decode cX0_mixPegs 2 = .ok (.iconst 0, 1) := by decide +kernel
theorem dX0_mixPegs_3 : decode cX0_mixPegs 3 = .ok (.istore 5, 2) := by decide +kernel
theorem dX0_mixPegs_5 : decode cX0_mixPegs 5 = .ok (.iload 5, 2) := by decide +kernel
theorem dX0_mixPegs_7 : decode cX0_mixPegs 7 = .ok (.aload_n 0, 1) := by decide +kernel
theorem dX0_mixPegs_8 : decode cX0_mixPegs 8 = .ok (.getfield 71, 3) := by decide +kernel
theorem dX0_mixPegs_11 : decode cX0_mixPegs 11 = .ok (.if_icmp .ge 44, 3) := by decide +kernel
theorem dX0_mixPegs_14 : decode cX0_mixPegs 14 = .ok (.lload_n 3, 1) := by decide +kernel
theorem dX0_mixPegs_15 : decode cX0_mixPegs 15 = .ok (.aload_n 0, 1) := by decide +kernel
theorem dX0_mixPegs_16 : decode cX0_mixPegs 16 = .ok (.iload 5, 2) := by decide +kernel
theorem dX0_mixPegs_18 : decode cX0_mixPegs 18 = .ok (.invokevirtual 229, 3) := by decide +kernel
theorem dX0_mixPegs_21 : decode cX0_mixPegs 21 = .ok (.invokestatic 204, 3) := by decide +kernel
theorem dX0_mixPegs_24 : decode cX0_mixPegs 24 = .ok (.lstore_n 3, 1) := by decide +kernel
theorem dX0_mixPegs_25 : decode cX0_mixPegs 25 = .ok (.lload_n 3, 1) := by decide +kernel
theorem dX0_mixPegs_26 : decode cX0_mixPegs 26 = .ok (.aload_n 0, 1) := by decide +kernel
theorem dX0_mixPegs_27 : decode cX0_mixPegs 27 = .ok (.iload 5, 2) := by decide +kernel
theorem dX0_mixPegs_29 : decode cX0_mixPegs 29 = .ok (.invokevirtual 232, 3) := by decide +kernel
theorem dX0_mixPegs_32 : decode cX0_mixPegs 32 = .ok (.invokestatic 204, 3) := by decide +kernel
theorem dX0_mixPegs_35 : decode cX0_mixPegs 35 = .ok (.lstore_n 3, 1) := by decide +kernel
theorem dX0_mixPegs_36 : decode cX0_mixPegs 36 = .ok (.lload_n 3, 1) := by decide +kernel
theorem dX0_mixPegs_37 : decode cX0_mixPegs 37 = .ok (.aload_n 0, 1) := by decide +kernel
theorem dX0_mixPegs_38 : decode cX0_mixPegs 38 = .ok (.getfield 19, 3) := by decide +kernel
theorem dX0_mixPegs_41 : decode cX0_mixPegs 41 = .ok (.iload 5, 2) := by decide +kernel
theorem dX0_mixPegs_43 : decode cX0_mixPegs 43 = .ok (.iaload, 1) := by decide +kernel
theorem dX0_mixPegs_44 : decode cX0_mixPegs 44 = .ok (.i2l, 1) := by decide +kernel
theorem dX0_mixPegs_45 : decode cX0_mixPegs 45 = .ok (.invokestatic 204, 3) := by decide +kernel
theorem dX0_mixPegs_48 : decode cX0_mixPegs 48 = .ok (.lstore_n 3, 1) := by decide +kernel
theorem dX0_mixPegs_49 : decode cX0_mixPegs 49 = .ok (.iinc 5 1, 3) := by decide +kernel
theorem dX0_mixPegs_52 : decode cX0_mixPegs 52 = .ok (.goto (-47), 3) := by decide +kernel
theorem dX0_mixPegs_55 : decode cX0_mixPegs 55 = .ok (.lload_n 3, 1) := by decide +kernel
theorem dX0_mixPegs_56 : decode cX0_mixPegs 56 = .ok (.lreturn, 1) := by decide +kernel
set_option maxRecDepth 20000 in
theorem ggX0_mixMoments_X0_mix : GoodIn wsX0_mixMoments wsX0_mix := goodIn_r _ [6, 7] (by decide +kernel) (by decide +kernel)
set_option maxRecDepth 20000 in
theorem gX0_mixMoments_X0_mix : GoodIn wsX0_mixMoments (va_wsS RX0 204 yX0_mix wsX0_mix) := goodIn_app (goodIn_of _ (by decide +kernel)) ggX0_mixMoments_X0_mix
set_option maxRecDepth 20000 in
theorem ggX0_mixMoments_X0_reckoned : GoodIn wsX0_mixMoments wsX0_reckoned := goodIn_r _ [11, 12, 13, 14, 5, 15, 2, 16, 17, 18, 19, 20, 21, 22, 23, 24, 25, 26, 27, 28, 29, 30, 31, 32, 33, 34, 35, 36, 37, 38, 39, 55, 56, 57, 58, 59, 60, 61, 62, 63, 64, 65, 66] (by decide +kernel) (by decide +kernel)
set_option maxRecDepth 20000 in
theorem gX0_mixMoments_X0_reckoned : GoodIn wsX0_mixMoments (wsV RX0 137 RX0 yX0_reckoned wsX0_reckoned) := goodIn_app (goodIn_of _ (by decide +kernel)) ggX0_mixMoments_X0_reckoned
set_option maxRecDepth 20000 in
theorem ggX0_mixMoments_X0_corrected : GoodIn wsX0_mixMoments wsX0_corrected := goodIn_r _ [43, 12, 13, 14, 5, 15, 2, 44, 45, 46, 47, 1, 8, 9, 10, 11, 16, 17, 18, 19, 20, 21, 22, 23, 24, 25, 26, 27, 28, 29, 30, 31, 32, 33, 34, 35, 36, 37, 38, 39, 48, 49, 50, 51, 52, 53, 54, 55, 56, 57, 58, 59, 60, 61, 62, 63, 64, 65, 66] (by decide +kernel) (by decide +kernel)
set_option maxRecDepth 20000 in
theorem gX0_mixMoments_X0_corrected : GoodIn wsX0_mixMoments (wsV RX0 141 RX0 yX0_corrected wsX0_corrected) := goodIn_app (goodIn_of _ (by decide +kernel)) ggX0_mixMoments_X0_corrected
theorem dX0_mixMoments_0 : decode cX0_mixMoments 0 = .ok (.lload_n 1, 1) := by decide +kernel
theorem dX0_mixMoments_1 : decode cX0_mixMoments 1 = .ok (.lstore_n 3, 1) := by decide +kernel
theorem dX0_mixMoments_2 : decode cX0_mixMoments 2 = .ok (.iconst 0, 1) := by decide +kernel
theorem dX0_mixMoments_3 : decode cX0_mixMoments 3 = .ok (.istore 5, 2) := by decide +kernel
theorem dX0_mixMoments_5 : decode cX0_mixMoments 5 = .ok (.iload 5, 2) := by decide +kernel
theorem dX0_mixMoments_7 : decode cX0_mixMoments 7 = .ok (.aload_n 0, 1) := by decide +kernel
theorem dX0_mixMoments_8 : decode cX0_mixMoments 8 = .ok (.getfield 71, 3) := by decide +kernel
theorem dX0_mixMoments_11 : decode cX0_mixMoments 11 = .ok (.if_icmp .gt 79, 3) := by decide +kernel
theorem dX0_mixMoments_14 : decode cX0_mixMoments 14 = .ok (.lload_n 3, 1) := by decide +kernel
theorem dX0_mixMoments_15 : decode cX0_mixMoments 15 = .ok (.aload_n 0, 1) := by decide +kernel
theorem dX0_mixMoments_16 : decode cX0_mixMoments 16 = .ok (.getfield 26, 3) := by decide +kernel
theorem dX0_mixMoments_19 : decode cX0_mixMoments 19 = .ok (.iload 5, 2) := by decide +kernel
theorem dX0_mixMoments_21 : decode cX0_mixMoments 21 = .ok (.baload, 1) := by decide +kernel
theorem dX0_mixMoments_22 : decode cX0_mixMoments 22 = .ok (.ifCond .eq 7, 3) := by decide +kernel
theorem dX0_mixMoments_25 : decode cX0_mixMoments 25 = .ok (.lconst 1, 1) := by decide +kernel
theorem dX0_mixMoments_26 : decode cX0_mixMoments 26 = .ok (.goto 4, 3) := by decide +kernel
theorem dX0_mixMoments_29 : decode cX0_mixMoments 29 = .ok (.lconst 0, 1) := by decide +kernel
theorem dX0_mixMoments_30 : decode cX0_mixMoments 30 = .ok (.invokestatic 204, 3) := by decide +kernel
theorem dX0_mixMoments_33 : decode cX0_mixMoments 33 = .ok (.lstore_n 3, 1) := by decide +kernel
theorem dX0_mixMoments_34 : decode cX0_mixMoments 34 = .ok (.lload_n 3, 1) := by decide +kernel
theorem dX0_mixMoments_35 : decode cX0_mixMoments 35 = .ok (.aload_n 0, 1) := by decide +kernel
theorem dX0_mixMoments_36 : decode cX0_mixMoments 36 = .ok (.iload 5, 2) := by decide +kernel
theorem dX0_mixMoments_38 : decode cX0_mixMoments 38 = .ok (.bipush 8, 2) := by decide +kernel
theorem dX0_mixMoments_40 : decode cX0_mixMoments 40 = .ok (.invokevirtual 137, 3) := by decide +kernel
theorem dX0_mixMoments_43 : decode cX0_mixMoments 43 = .ok (.invokestatic 204, 3) := by decide +kernel
theorem dX0_mixMoments_46 : decode cX0_mixMoments 46 = .ok (.lstore_n 3, 1) := by decide +kernel
theorem dX0_mixMoments_47 : decode cX0_mixMoments 47 = .ok (.lload_n 3, 1) := by decide +kernel
theorem dX0_mixMoments_48 : decode cX0_mixMoments 48 = .ok (.aload_n 0, 1) := by decide +kernel
theorem dX0_mixMoments_49 : decode cX0_mixMoments 49 = .ok (.iload 5, 2) := by decide +kernel
theorem dX0_mixMoments_51 : decode cX0_mixMoments 51 = .ok (.iconst 0, 1) := by decide +kernel
theorem dX0_mixMoments_52 : decode cX0_mixMoments 52 = .ok (.invokevirtual 137, 3) := by decide +kernel
theorem dX0_mixMoments_55 : decode cX0_mixMoments 55 = .ok (.invokestatic 204, 3) := by decide +kernel
theorem dX0_mixMoments_58 : decode cX0_mixMoments 58 = .ok (.lstore_n 3, 1) := by decide +kernel
theorem dX0_mixMoments_59 : decode cX0_mixMoments 59 = .ok (.lload_n 3, 1) := by decide +kernel
theorem dX0_mixMoments_60 : decode cX0_mixMoments 60 = .ok (.aload_n 0, 1) := by decide +kernel
theorem dX0_mixMoments_61 : decode cX0_mixMoments 61 = .ok (.iload 5, 2) := by decide +kernel
theorem dX0_mixMoments_63 : decode cX0_mixMoments 63 = .ok (.bipush 8, 2) := by decide +kernel
theorem dX0_mixMoments_65 : decode cX0_mixMoments 65 = .ok (.invokevirtual 141, 3) := by decide +kernel
theorem dX0_mixMoments_68 : decode cX0_mixMoments 68 = .ok (.invokestatic 204, 3) := by decide +kernel
theorem dX0_mixMoments_71 : decode cX0_mixMoments 71 = .ok (.lstore_n 3, 1) := by decide +kernel
theorem dX0_mixMoments_72 : decode cX0_mixMoments 72 = .ok (.lload_n 3, 1) := by decide +kernel
theorem dX0_mixMoments_73 : decode cX0_mixMoments 73 = .ok (.aload_n 0, 1) := by decide +kernel
theorem dX0_mixMoments_74 : decode cX0_mixMoments 74 = .ok (.iload 5, 2) := by decide +kernel
theorem dX0_mixMoments_76 : decode cX0_mixMoments 76 = .ok (.iconst 0, 1) := by decide +kernel
theorem dX0_mixMoments_77 : decode cX0_mixMoments 77 = .ok (.invokevirtual 141, 3) := by decide +kernel
theorem dX0_mixMoments_80 : decode cX0_mixMoments 80 = .ok (.invokestatic 204, 3) := by decide +kernel
theorem dX0_mixMoments_83 : decode cX0_mixMoments 83 = .ok (.lstore_n 3, 1) := by decide +kernel
theorem dX0_mixMoments_84 : decode cX0_mixMoments 84 = .ok (.iinc 5 1, 3) := by decide +kernel
theorem dX0_mixMoments_87 : decode cX0_mixMoments 87 = .ok (.goto (-82), 3) := by decide +kernel
theorem dX0_mixMoments_90 : decode cX0_mixMoments 90 = .ok (.lload_n 3, 1) := by decide +kernel
theorem dX0_mixMoments_91 : decode cX0_mixMoments 91 = .ok (.lreturn, 1) := by decide +kernel
set_option maxRecDepth 20000 in
theorem ggX0_mixBuffer_X0_mix : GoodIn wsX0_mixBuffer wsX0_mix := goodIn_r _ [6, 7] (by decide +kernel) (by decide +kernel)
set_option maxRecDepth 20000 in
theorem gX0_mixBuffer_X0_mix : GoodIn wsX0_mixBuffer (va_wsS RX0 204 yX0_mix wsX0_mix) := goodIn_app (goodIn_of _ (by decide +kernel)) ggX0_mixBuffer_X0_mix
theorem dX0_mixBuffer_0 : decode cX0_mixBuffer 0 = .ok (.lload_n 1, 1) := by decide +kernel
theorem dX0_mixBuffer_1 : decode cX0_mixBuffer 1 = .ok (.aload_n 0, 1) := by decide +kernel
theorem dX0_mixBuffer_2 : decode cX0_mixBuffer 2 = .ok (.getfield 41, 3) := by decide +kernel
theorem dX0_mixBuffer_5 : decode cX0_mixBuffer 5 = .ok (.i2l, 1) := by decide +kernel
theorem dX0_mixBuffer_6 : decode cX0_mixBuffer 6 = .ok (.invokestatic 204, 3) := by decide +kernel
theorem dX0_mixBuffer_9 : decode cX0_mixBuffer 9 = .ok (.lstore_n 3, 1) := by decide +kernel
theorem dX0_mixBuffer_10 : decode cX0_mixBuffer 10 = .ok (.iconst 0, 1) := by decide +kernel
theorem dX0_mixBuffer_11 : decode cX0_mixBuffer 11 = .ok (.istore 5, 2) := by decide +kernel
theorem dX0_mixBuffer_13 : decode cX0_mixBuffer 13 = .ok (.iload 5, 2) := by decide +kernel
theorem dX0_mixBuffer_15 : decode cX0_mixBuffer 15 = .ok (.aload_n 0, 1) := by decide +kernel
theorem dX0_mixBuffer_16 : decode cX0_mixBuffer 16 = .ok (.getfield 41, 3) := by decide +kernel
theorem dX0_mixBuffer_19 : decode cX0_mixBuffer 19 = .ok (.if_icmp .ge 22, 3) := by decide +kernel
theorem dX0_mixBuffer_22 : decode cX0_mixBuffer 22 = .ok (.lload_n 3, 1) := by decide +kernel
theorem dX0_mixBuffer_23 : decode cX0_mixBuffer 23 = .ok (.aload_n 0, 1) := by decide +kernel
theorem dX0_mixBuffer_24 : decode cX0_mixBuffer 24 = .ok (.getfield 9, 3) := by decide +kernel
theorem dX0_mixBuffer_27 : decode cX0_mixBuffer 27 = .ok (.iload 5, 2) := by decide +kernel
theorem dX0_mixBuffer_29 : decode cX0_mixBuffer 29 = .ok (.iaload, 1) := by decide +kernel
theorem dX0_mixBuffer_30 : decode cX0_mixBuffer 30 = .ok (.i2l, 1) := by decide +kernel
theorem dX0_mixBuffer_31 : decode cX0_mixBuffer 31 = .ok (.invokestatic 204, 3) := by decide +kernel
theorem dX0_mixBuffer_34 : decode cX0_mixBuffer 34 = .ok (.lstore_n 3, 1) := by decide +kernel
theorem dX0_mixBuffer_35 : decode cX0_mixBuffer 35 = .ok (.iinc 5 1, 3) := by decide +kernel
theorem dX0_mixBuffer_38 : decode cX0_mixBuffer 38 = .ok (.goto (-25), 3) := by decide +kernel
theorem dX0_mixBuffer_41 : decode cX0_mixBuffer 41 = .ok (.lload_n 3, 1) := by decide +kernel
theorem dX0_mixBuffer_42 : decode cX0_mixBuffer 42 = .ok (.lreturn, 1) := by decide +kernel
theorem dX0_mix_0 : decode cX0_mix 0 = .ok (.ldc2_w 235, 3) := by decide +kernel
theorem dX0_mix_3 : decode cX0_mix 3 = .ok (.lload_n 0, 1) := by decide +kernel
theorem dX0_mix_4 : decode cX0_mix 4 = .ok (.lmul, 1) := by decide +kernel
theorem dX0_mix_5 : decode cX0_mix 5 = .ok (.lload_n 2, 1) := by decide +kernel
theorem dX0_mix_6 : decode cX0_mix 6 = .ok (.ladd, 1) := by decide +kernel
theorem dX0_mix_7 : decode cX0_mix 7 = .ok (.lreturn, 1) := by decide +kernel
