theorem dX5_cancel_39 : decode cX5_cancel 39 = .ok (.iload_n 1, 1) := by decide +kernel
theorem dX5_cancel_40 : decode cX5_cancel 40 = .ok (.invokevirtual 119, 3) := by decide +kernel
theorem dX5_cancel_43 : decode cX5_cancel 43 = .ok (.ireturn, 1) := by decide +kernel
set_option maxRecDepth 20000 in
theorem ggX5_ticks_X5_isTicks : GoodIn wsX5_ticks wsX5_isTicks := goodIn_r _ [8] (by decide +kernel) (by decide +kernel)
set_option maxRecDepth 20000 in
theorem gX5_ticks_X5_isTicks : GoodIn wsX5_ticks (va_wsS RX5 199 yX5_isTicks wsX5_isTicks) := goodIn_app (goodIn_of _ (by decide +kernel)) ggX5_ticks_X5_isTicks
set_option maxRecDepth 20000 in
theorem ggX5_ticks_X0_remember : GoodIn wsX5_ticks wsX0_remember := goodIn_r _ [13, 14, 15, 16, 17, 18, 19, 20, 21, 22, 12, 23, 24, 25, 26, 27, 28, 29, 30, 31, 32, 33, 34, 35, 36, 37, 38, 39, 40, 41, 42, 43, 44, 45, 46, 47, 48, 49, 50, 51, 52, 53, 54, 7, 55, 56, 57, 58, 59, 60, 154, 155, 156, 157, 158, 159, 160, 161, 162, 163, 164, 165, 166, 167, 168, 169, 170, 171, 172, 173, 174, 175, 176, 177] (by decide +kernel) (by decide +kernel)
set_option maxRecDepth 20000 in
theorem gX5_ticks_X0_remember : GoodIn wsX5_ticks (wsV RX5 196 RX0 yX0_remember wsX0_remember) := goodIn_app (goodIn_of _ (by decide +kernel)) ggX5_ticks_X0_remember
set_option maxRecDepth 20000 in
theorem ggX5_ticks_X1_play : GoodIn wsX5_ticks wsX1_play := goodIn_r _ [64, 43, 36, 40, 35, 65, 17, 18, 19, 6, 7, 8, 66, 67, 68, 28, 69, 37, 38, 70, 71, 72, 73, 31, 39, 45, 74, 75, 76, 77, 78, 79, 80, 50, 81, 53, 82, 83, 84, 85, 86, 87, 88, 89, 90, 91, 92, 93, 94, 32, 95, 96, 97, 98, 99, 100, 101, 102, 103, 104, 105, 106, 107, 108, 30, 109, 110, 111, 112, 113, 114, 115, 116, 52, 117, 118, 119, 120, 121, 122, 123, 124, 125, 126, 127, 128, 129, 130, 58, 59, 60, 131, 132, 133, 134, 135, 136, 137, 138, 46, 139, 140, 141, 142, 143, 33, 44, 34, 41, 42, 144, 145, 146, 147, 157, 158, 159, 160, 161, 162, 163, 164, 165, 166, 167, 168, 169, 170, 171, 172, 173, 174, 175, 176, 177] (by decide +kernel) (by decide +kernel)
set_option maxRecDepth 20000 in
theorem gX5_ticks_X1_play : GoodIn wsX5_ticks (wsV RX5 115 RX1 yX1_play wsX1_play) := goodIn_app (goodIn_of _ (by decide +kernel)) ggX5_ticks_X1_play
theorem dX5_ticks_0 : decode cX5_ticks 0 = .ok (.iload_n 1, 1) := by decide +kernel
theorem dX5_ticks_1 : decode cX5_ticks 1 = .ok (.invokestatic 199, 3) := by decide +kernel
theorem dX5_ticks_4 : decode cX5_ticks 4 = .ok (.ifCond .ne 13, 3) := by decide +kernel
theorem dX5_ticks_7 : decode cX5_ticks 7 = .ok (.new 43, 3) := by decide +kernel
theorem dX5_ticks_10 : decode cX5_ticks 10 = .ok (.dup, 1) := by decide +kernel
theorem dX5_ticks_11 : decode cX5_ticks 11 = .ok (.ldc 202, 2) := by decide +kernel
theorem dX5_ticks_13 : decode cX5_ticks 13 = .ok (.invokespecial 47, 3) := by decide +kernel
theorem dX5_ticks_16 : decode cX5_ticks 16 = .ok (.athrow, 1) := by decide +kernel
theorem dX5_ticks_17 : decode cX5_ticks 17 = .ok (.aload_n 0, 1) := by decide +kernel
theorem dX5_ticks_18 : decode cX5_ticks 18 = .ok (.getfield 32, 3) := by decide +kernel
theorem dX5_ticks_21 : decode cX5_ticks 21 = .ok (.aload_n 0, 1) := by decide +kernel
theorem dX5_ticks_22 : decode cX5_ticks 22 = .ok (.getfield 19, 3) := by decide +kernel
theorem dX5_ticks_25 : decode cX5_ticks 25 = .ok (.invokevirtual 196, 3) := by decide +kernel
theorem dX5_ticks_28 : decode cX5_ticks 28 = .ok (.aload_n 0, 1) := by decide +kernel
theorem dX5_ticks_29 : decode cX5_ticks 29 = .ok (.getfield 19, 3) := by decide +kernel
theorem dX5_ticks_32 : decode cX5_ticks 32 = .ok (.iload_n 1, 1) := by decide +kernel
theorem dX5_ticks_33 : decode cX5_ticks 33 = .ok (.invokevirtual 115, 3) := by decide +kernel
theorem dX5_ticks_36 : decode cX5_ticks 36 = .ok (.ireturn, 1) := by decide +kernel
set_option maxRecDepth 20000 in
theorem ggX5_set_X5_isSettingValue : GoodIn wsX5_set wsX5_isSettingValue := goodIn_r _ [8, 9, 10, 11, 7, 12] (by decide +kernel) (by decide +kernel)
set_option maxRecDepth 20000 in
theorem gX5_set_X5_isSettingValue : GoodIn wsX5_set (va_wsS RX5 204 yX5_isSettingValue wsX5_isSettingValue) := goodIn_app (goodIn_of _ (by decide +kernel)) ggX5_set_X5_isSettingValue
set_option maxRecDepth 20000 in
theorem ggX5_set_X0_remember : GoodIn wsX5_set wsX0_remember := goodIn_r _ [17, 18, 19, 20, 21, 22, 23, 24, 25, 26, 16, 27, 28, 29, 30, 31, 32, 33, 34, 35, 36, 37, 38, 39, 40, 41, 42, 43, 44, 45, 46, 47, 48, 49, 50, 51, 52, 53, 54, 55, 56, 57, 58, 7, 59, 60, 61, 62, 63, 64, 75, 76, 77, 78, 79, 80, 81, 82, 83, 84, 85, 86, 87, 88, 89, 90, 91, 92, 93, 94, 95, 96, 97, 98] (by decide +kernel) (by decide +kernel)
set_option maxRecDepth 20000 in
theorem gX5_set_X0_remember : GoodIn wsX5_set (wsV RX5 196 RX0 yX0_remember wsX0_remember) := goodIn_app (goodIn_of _ (by decide +kernel)) ggX5_set_X0_remember
set_option maxRecDepth 20000 in
theorem ggX5_set_X1_change : GoodIn wsX5_set wsX1_change := goodIn_r _ [68, 39, 6, 7, 8, 9, 10, 11, 12, 78, 79, 80, 81, 82, 83, 84, 85, 86, 87, 88, 89, 90, 91, 92, 93, 94] (by decide +kernel) (by decide +kernel)
set_option maxRecDepth 20000 in
theorem gX5_set_X1_change : GoodIn wsX5_set (wsV RX5 112 RX1 yX1_change wsX1_change) := goodIn_app (goodIn_of _ (by decide +kernel)) ggX5_set_X1_change
theorem dX5_set_0 : decode cX5_set 0 = .ok (.iload_n 1, 1) := by decide +kernel
theorem dX5_set_1 : decode cX5_set 1 = .ok (.iload_n 2, 1) := by decide +kernel
theorem dX5_set_2 : decode cX5_set 2 = .ok (.invokestatic 204, 3) := by decide +kernel
theorem dX5_set_5 : decode cX5_set 5 = .ok (.ifCond .ne 13, 3) := by decide +kernel
theorem dX5_set_8 : decode cX5_set 8 = .ok (.new 43, 3) := by decide +kernel
theorem dX5_set_11 : decode cX5_set 11 = .ok (.dup, 1) := by decide +kernel
theorem dX5_set_12 : decode cX5_set 12 = .ok (.ldc 208, 2) := by decide +kernel
theorem dX5_set_14 : decode cX5_set 14 = .ok (.invokespecial 47, 3) := by decide +kernel
theorem dX5_set_17 : decode cX5_set 17 = .ok (.athrow, 1) := by decide +kernel
theorem dX5_set_18 : decode cX5_set 18 = .ok (.aload_n 0, 1) := by decide +kernel
theorem dX5_set_19 : decode cX5_set 19 = .ok (.getfield 32, 3) := by decide +kernel
theorem dX5_set_22 : decode cX5_set 22 = .ok (.aload_n 0, 1) := by decide +kernel
theorem dX5_set_23 : decode cX5_set 23 = .ok (.getfield 19, 3) := by decide +kernel
theorem dX5_set_26 : decode cX5_set 26 = .ok (.invokevirtual 196, 3) := by decide +kernel
theorem dX5_set_29 : decode cX5_set 29 = .ok (.aload_n 0, 1) := by decide +kernel
theorem dX5_set_30 : decode cX5_set 30 = .ok (.getfield 19, 3) := by decide +kernel
theorem dX5_set_33 : decode cX5_set 33 = .ok (.iload_n 1, 1) := by decide +kernel
theorem dX5_set_34 : decode cX5_set 34 = .ok (.iload_n 2, 1) := by decide +kernel
theorem dX5_set_35 : decode cX5_set 35 = .ok (.invokevirtual 112, 3) := by decide +kernel
theorem dX5_set_38 : decode cX5_set 38 = .ok (.ireturn, 1) := by decide +kernel
set_option maxRecDepth 20000 in
theorem ggX5_undo_X0_isEmpty : GoodIn wsX5_undo wsX0_isEmpty := goodIn_r _ [9, 10, 67, 68, 69] (by decide +kernel) (by decide +kernel)
set_option maxRecDepth 20000 in
theorem gX5_undo_X0_isEmpty : GoodIn wsX5_undo (wsV RX5 210 RX0 yX0_isEmpty wsX0_isEmpty) := goodIn_app (goodIn_of _ (by decide +kernel)) ggX5_undo_X0_isEmpty
set_option maxRecDepth 20000 in
theorem ggX5_undo_X0_bringBack : GoodIn wsX5_undo wsX0_bringBack := goodIn_r _ [14, 15, 10, 16, 17, 18, 8, 19, 20, 21, 22, 23, 24, 25, 26, 27, 28, 29, 30, 31, 32, 33, 34, 35, 36, 37, 38, 39, 40, 41, 42, 43, 44, 45, 46, 47, 48, 49, 50, 51, 52, 53, 54, 55, 56, 57, 58, 59, 60, 67, 68, 69, 70, 71, 72, 73, 74, 75, 76, 77, 78, 79, 80, 81, 82, 83, 84, 85, 86, 87, 88, 89, 90] (by decide +kernel) (by decide +kernel)
set_option maxRecDepth 20000 in
theorem gX5_undo_X0_bringBack : GoodIn wsX5_undo (wsV RX5 215 RX0 yX0_bringBack wsX0_bringBack) := goodIn_app (goodIn_of _ (by decide +kernel)) ggX5_undo_X0_bringBack
theorem dX5_undo_0 : decode cX5_undo 0 = .ok (.aload_n 0, 1) := by decide +kernel
theorem dX5_undo_1 : decode cX5_undo 1 = .ok (.getfield 32, 3) := by decide +kernel
theorem dX5_undo_4 : decode cX5_undo 4 = .ok (.invokevirtual 210, 3) := by decide +kernel
theorem dX5_undo_7 : decode cX5_undo 7 = .ok (.ifCond .eq 13, 3) := by decide +kernel
theorem dX5_undo_10 : decode cX5_undo 10 = .ok (.new 54, 3) := by decide +kernel
theorem dX5_undo_13 : decode cX5_undo 13 = .ok (.dup, 1) := by decide +kernel
theorem dX5_undo_14 : decode cX5_undo 14 = .ok (.ldc 213, 2) := by decide +kernel
theorem dX5_undo_16 : decode cX5_undo 16 = .ok (.invokespecial 58, 3) := by decide +kernel
theorem dX5_undo_19 : decode cX5_undo 19 = .ok (.athrow, 1) := by decide +kernel
theorem dX5_undo_20 : decode cX5_undo 20 = .ok (.aload_n 0, 1) := by decide +kernel
theorem dX5_undo_21 : decode cX5_undo 21 = .ok (.getfield 32, 3) := by decide +kernel
theorem dX5_undo_24 : decode cX5_undo 24 = .ok (.aload_n 0, 1) := by decide +kernel
theorem dX5_undo_25 : decode cX5_undo 25 = .ok (.getfield 19, 3) := by decide +kernel
theorem dX5_undo_28 : decode cX5_undo 28 = .ok (.invokevirtual 215, 3) := by decide +kernel
theorem dX5_undo_31 : decode cX5_undo 31 = .ok (.ireturn, 1) := by decide +kernel
set_option maxRecDepth 20000 in
theorem ggX5_doneIn_X4_has : GoodIn wsX5_doneIn wsX4_has := goodIn_r _ [9, 10, 158, 159, 160, 161] (by decide +kernel) (by decide +kernel)
set_option maxRecDepth 20000 in
theorem gX5_doneIn_X4_has : GoodIn wsX5_doneIn (wsV RX5 131 RX4 yX4_has wsX4_has) := goodIn_app (goodIn_of _ (by decide +kernel)) ggX5_doneIn_X4_has
set_option maxRecDepth 20000 in
theorem ggX5_doneIn_X1_copyFrom : GoodIn wsX5_doneIn wsX1_copyFrom := goodIn_r _ [15, 16, 17, 18, 19, 20, 21, 22, 23, 24, 25, 26, 27, 28, 29, 30, 31, 32, 33, 34, 35, 8, 36, 10, 37, 38, 39, 40, 41, 42, 43, 44, 45, 46, 47, 48, 141, 142, 143, 144, 145, 146, 147, 148, 149, 150, 151, 152, 153, 154, 155, 156, 157, 158, 159, 160, 161] (by decide +kernel) (by decide +kernel)
set_option maxRecDepth 20000 in
theorem gX5_doneIn_X1_copyFrom : GoodIn wsX5_doneIn (wsV RX5 72 RX1 yX1_copyFrom wsX1_copyFrom) := goodIn_app (goodIn_of _ (by decide +kernel)) ggX5_doneIn_X1_copyFrom
set_option maxRecDepth 20000 in
theorem ggX5_doneIn_X1_play : GoodIn wsX5_doneIn wsX1_play := goodIn_r _ [52, 29, 22, 26, 21, 53, 42, 43, 44, 54, 39, 55, 56, 57, 58, 14, 59, 23, 24, 60, 61, 62, 63, 17, 25, 31, 64, 65, 66, 67, 68, 69, 70, 8, 71, 37, 72, 73, 74, 75, 76, 77, 78, 79, 80, 81, 82, 83, 84, 18, 85, 86, 87, 88, 89, 90, 91, 92, 93, 94, 95, 96, 97, 98, 16, 99, 100, 101, 102, 103, 104, 105, 106, 10, 107, 108, 109, 110, 111, 112, 113, 114, 115, 116, 117, 118, 119, 120, 46, 47, 48, 121, 6, 7, 9, 122, 123, 124, 125, 32, 126, 127, 128, 129, 130, 19, 30, 20, 27, 28, 131, 132, 133, 134, 141, 142, 143, 144, 145, 146, 147, 148, 149, 150, 151, 152, 153, 154, 155, 156, 157, 158, 159, 160, 161] (by decide +kernel) (by decide +kernel)
set_option maxRecDepth 20000 in
theorem gX5_doneIn_X1_play : GoodIn wsX5_doneIn (wsV RX5 115 RX1 yX1_play wsX1_play) := goodIn_app (goodIn_of _ (by decide +kernel)) ggX5_doneIn_X1_play
theorem dX5_doneIn_0 : decode cX5_doneIn 0 = .ok (.aload_n 0, 1) := by decide +kernel
theorem dX5_doneIn_1 : decode cX5_doneIn 1 = .ok (.getfield 19, 3) := by decide +kernel
theorem dX5_doneIn_4 : decode cX5_doneIn 4 = .ok (.getfield 147, 3) := by decide +kernel
theorem dX5_doneIn_7 : decode cX5_doneIn 7 = .ok (.iload_n 1, 1) := by decide +kernel
theorem dX5_doneIn_8 : decode cX5_doneIn 8 = .ok (.invokevirtual 131, 3) := by decide +kernel
theorem dX5_doneIn_11 : decode cX5_doneIn 11 = .ok (.ifCond .ne 13, 3) := by decide +kernel
theorem dX5_doneIn_14 : decode cX5_doneIn 14 = .ok (.new 137, 3) := by decide +kernel
theorem dX5_doneIn_17 : decode cX5_doneIn 17 = .ok (.dup, 1) := by decide +kernel
theorem dX5_doneIn_18 : decode cX5_doneIn 18 = .ok (.ldc 150, 2) := by decide +kernel
theorem dX5_doneIn_20 : decode cX5_doneIn 20 = .ok (.invokespecial 141, 3) := by decide +kernel
theorem dX5_doneIn_23 : decode cX5_doneIn 23 = .ok (.athrow, 1) := by decide +kernel
theorem dX5_doneIn_24 : decode cX5_doneIn 24 = .ok (.aload_n 0, 1) := by decide +kernel
theorem dX5_doneIn_25 : decode cX5_doneIn 25 = .ok (.getfield 26, 3) := by decide +kernel
theorem dX5_doneIn_28 : decode cX5_doneIn 28 = .ok (.aload_n 0, 1) := by decide +kernel
theorem dX5_doneIn_29 : decode cX5_doneIn 29 = .ok (.getfield 19, 3) := by decide +kernel
theorem dX5_doneIn_32 : decode cX5_doneIn 32 = .ok (.invokevirtual 72, 3) := by decide +kernel
theorem dX5_doneIn_35 : decode cX5_doneIn 35 = .ok (.aload_n 0, 1) := by decide +kernel
theorem dX5_doneIn_36 : decode cX5_doneIn 36 = .ok (.getfield 26, 3) := by decide +kernel
theorem dX5_doneIn_39 : decode cX5_doneIn 39 = .ok (.iload_n 1, 1) := by decide +kernel
theorem dX5_doneIn_40 : decode cX5_doneIn 40 = .ok (.putfield 219, 3) := by decide +kernel
theorem dX5_doneIn_43 : decode cX5_doneIn 43 = .ok (.iconst 1, 1) := by decide +kernel
theorem dX5_doneIn_44 : decode cX5_doneIn 44 = .ok (.istore_n 2, 1) := by decide +kernel
theorem dX5_doneIn_45 : decode cX5_doneIn 45 = .ok (.iload_n 2, 1) := by decide +kernel
theorem dX5_doneIn_46 : decode cX5_doneIn 46 = .ok (.bipush 100, 2) := by decide +kernel
theorem dX5_doneIn_48 : decode cX5_doneIn 48 = .ok (.if_icmp .gt 31, 3) := by decide +kernel
theorem dX5_doneIn_51 : decode cX5_doneIn 51 = .ok (.aload_n 0, 1) := by decide +kernel
theorem dX5_doneIn_52 : decode cX5_doneIn 52 = .ok (.getfield 26, 3) := by decide +kernel
theorem dX5_doneIn_55 : decode cX5_doneIn 55 = .ok (.iconst 1, 1) := by decide +kernel
theorem dX5_doneIn_56 : decode cX5_doneIn 56 = .ok (.invokevirtual 115, 3) := by decide +kernel
theorem dX5_doneIn_59 : decode cX5_doneIn 59 = .ok (.pop, 1) := by decide +kernel
theorem dX5_doneIn_60 : decode cX5_doneIn 60 = .ok (.aload_n 0, 1) := by decide +kernel
theorem dX5_doneIn_61 : decode cX5_doneIn 61 = .ok (.getfield 26, 3) := by decide +kernel
theorem dX5_doneIn_64 : decode cX5_doneIn 64 = .ok (.getfield 219, 3) := by decide +kernel
theorem dX5_doneIn_67 : decode cX5_doneIn 67 = .ok (.iconst (-1), 1) := by decide +kernel
theorem dX5_doneIn_68 : decode cX5_doneIn 68 = .ok (.if_icmp .ne 5, 3) := by decide +kernel
theorem dX5_doneIn_71 : decode cX5_doneIn 71 = .ok (.iload_n 2, 1) := by decide +kernel
theorem dX5_doneIn_72 : decode cX5_doneIn 72 = .ok (.ireturn, 1) := by decide +kernel
theorem dX5_doneIn_73 : decode cX5_doneIn 73 = .ok (.iinc 2 1, 3) := by decide +kernel
theorem dX5_doneIn_76 : decode cX5_doneIn 76 = .ok (.goto (-31), 3) := by decide +kernel
theorem dX5_doneIn_79 : decode cX5_doneIn 79 = .ok (.iconst (-1), 1) := by decide +kernel
theorem dX5_doneIn_80 : decode cX5_doneIn 80 = .ok (.ireturn, 1) := by decide +kernel
set_option maxRecDepth 20000 in
theorem ggX5_soundsIn_X5_isPipe : GoodIn wsX5_soundsIn wsX5_isPipe := goodIn_r _ [8] (by decide +kernel) (by decide +kernel)
set_option maxRecDepth 20000 in
theorem gX5_soundsIn_X5_isPipe : GoodIn wsX5_soundsIn (va_wsS RX5 154 yX5_isPipe wsX5_isPipe) := goodIn_app (goodIn_of _ (by decide +kernel)) ggX5_soundsIn_X5_isPipe
set_option maxRecDepth 20000 in
theorem ggX5_soundsIn_X1_copyFrom : GoodIn wsX5_soundsIn wsX1_copyFrom := goodIn_r _ [13, 14, 15, 16, 17, 18, 19, 20, 21, 22, 23, 24, 25, 26, 27, 28, 29, 30, 31, 32, 33, 34, 35, 36, 37, 38, 7, 39, 40, 41, 42, 43, 44, 45, 46, 47, 142, 143, 144, 145, 146, 147, 148, 149, 150, 151, 152, 153, 154, 155, 156, 157, 158, 159, 160, 161, 162] (by decide +kernel) (by decide +kernel)
set_option maxRecDepth 20000 in
theorem gX5_soundsIn_X1_copyFrom : GoodIn wsX5_soundsIn (wsV RX5 72 RX1 yX1_copyFrom wsX1_copyFrom) := goodIn_app (goodIn_of _ (by decide +kernel)) ggX5_soundsIn_X1_copyFrom
set_option maxRecDepth 20000 in
theorem ggX5_soundsIn_X1_play : GoodIn wsX5_soundsIn wsX1_play := goodIn_r _ [51, 27, 20, 24, 19, 52, 41, 42, 43, 53, 7, 54, 55, 56, 57, 12, 58, 21, 22, 59, 60, 61, 62, 15, 23, 29, 63, 64, 65, 66, 67, 68, 69, 34, 70, 37, 71, 72, 73, 74, 75, 76, 77, 78, 79, 80, 81, 82, 83, 16, 6, 8, 84, 85, 86, 87, 88, 89, 90, 91, 92, 93, 94, 95, 14, 96, 97, 98, 99, 100, 101, 102, 103, 36, 104, 105, 106, 107, 108, 109, 110, 111, 112, 113, 114, 115, 116, 117, 45, 46, 47, 118, 119, 120, 121, 122, 123, 124, 125, 30, 126, 127, 128, 129, 130, 17, 28, 18, 25, 26, 131, 132, 133, 134, 142, 143, 144, 145, 146, 147, 148, 149, 150, 151, 152, 153, 154, 155, 156, 157, 158, 159, 160, 161, 162] (by decide +kernel) (by decide +kernel)
set_option maxRecDepth 20000 in
theorem gX5_soundsIn_X1_play : GoodIn wsX5_soundsIn (wsV RX5 115 RX1 yX1_play wsX1_play) := goodIn_app (goodIn_of _ (by decide +kernel)) ggX5_soundsIn_X1_play
set_option maxRecDepth 20000 in
theorem ggX5_soundsIn_X1_soundedAgo : GoodIn wsX5_soundsIn wsX1_soundedAgo := goodIn_r _ [134, 25, 142, 143, 144, 145, 146, 147, 148, 149, 150, 151, 152, 153, 154, 155, 156, 157, 158] (by decide +kernel) (by decide +kernel)
set_option maxRecDepth 20000 in
theorem gX5_soundsIn_X1_soundedAgo : GoodIn wsX5_soundsIn (wsV RX5 222 RX1 yX1_soundedAgo wsX1_soundedAgo) := goodIn_app (goodIn_of _ (by decide +kernel)) ggX5_soundsIn_X1_soundedAgo
theorem dX5_soundsIn_0 : decode cX5_soundsIn 0 = .ok (.iload_n 1, 1) := by decide +kernel
theorem dX5_soundsIn_1 : decode cX5_soundsIn 1 = .ok (.invokestatic 154, 3) := by decide +kernel
theorem dX5_soundsIn_4 : decode cX5_soundsIn 4 = .ok (.ifCond .ne 13, 3) := by decide +kernel
theorem dX5_soundsIn_7 : decode cX5_soundsIn 7 = .ok (.new 137, 3) := by decide +kernel
theorem dX5_soundsIn_10 : decode cX5_soundsIn 10 = .ok (.dup, 1) := by decide +kernel
theorem dX5_soundsIn_11 : decode cX5_soundsIn 11 = .ok (.ldc 157, 2) := by decide +kernel
theorem dX5_soundsIn_13 : decode cX5_soundsIn 13 = .ok (.invokespecial 141, 3) := by decide +kernel
theorem dX5_soundsIn_16 : decode cX5_soundsIn 16 = .ok (.athrow, 1) := by decide +kernel
theorem dX5_soundsIn_17 : decode cX5_soundsIn 17 = .ok (.aload_n 0, 1) := by decide +kernel
theorem dX5_soundsIn_18 : decode cX5_soundsIn 18 = .ok (.getfield 26, 3) := by decide +kernel
theorem dX5_soundsIn_21 : decode cX5_soundsIn 21 = .ok (.aload_n 0, 1) := by decide +kernel
theorem dX5_soundsIn_22 : decode cX5_soundsIn 22 = .ok (.getfield 19, 3) := by decide +kernel
theorem dX5_soundsIn_25 : decode cX5_soundsIn 25 = .ok (.invokevirtual 72, 3) := by decide +kernel
theorem dX5_soundsIn_28 : decode cX5_soundsIn 28 = .ok (.iconst 1, 1) := by decide +kernel
theorem dX5_soundsIn_29 : decode cX5_soundsIn 29 = .ok (.istore_n 2, 1) := by decide +kernel
theorem dX5_soundsIn_30 : decode cX5_soundsIn 30 = .ok (.iload_n 2, 1) := by decide +kernel
theorem dX5_soundsIn_31 : decode cX5_soundsIn 31 = .ok (.bipush 100, 2) := by decide +kernel
theorem dX5_soundsIn_33 : decode cX5_soundsIn 33 = .ok (.if_icmp .gt 36, 3) := by decide +kernel
theorem dX5_soundsIn_36 : decode cX5_soundsIn 36 = .ok (.aload_n 0, 1) := by decide +kernel
theorem dX5_soundsIn_37 : decode cX5_soundsIn 37 = .ok (.getfield 26, 3) := by decide +kernel
theorem dX5_soundsIn_40 : decode cX5_soundsIn 40 = .ok (.iconst 1, 1) := by decide +kernel
theorem dX5_soundsIn_41 : decode cX5_soundsIn 41 = .ok (.invokevirtual 115, 3) := by decide +kernel
theorem dX5_soundsIn_44 : decode cX5_soundsIn 44 = .ok (.pop, 1) := by decide +kernel
theorem dX5_soundsIn_45 : decode cX5_soundsIn 45 = .ok (.aload_n 0, 1) := by decide +kernel
theorem dX5_soundsIn_46 : decode cX5_soundsIn 46 = .ok (.getfield 26, 3) := by decide +kernel
theorem dX5_soundsIn_49 : decode cX5_soundsIn 49 = .ok (.iconst 0, 1) := by decide +kernel
theorem dX5_soundsIn_50 : decode cX5_soundsIn 50 = .ok (.invokevirtual 222, 3) := by decide +kernel
theorem dX5_soundsIn_53 : decode cX5_soundsIn 53 = .ok (.iload_n 1, 1) := by decide +kernel
theorem dX5_soundsIn_54 : decode cX5_soundsIn 54 = .ok (.ishr, 1) := by decide +kernel
theorem dX5_soundsIn_55 : decode cX5_soundsIn 55 = .ok (.iconst 1, 1) := by decide +kernel
theorem dX5_soundsIn_56 : decode cX5_soundsIn 56 = .ok (.iand, 1) := by decide +kernel
theorem dX5_soundsIn_57 : decode cX5_soundsIn 57 = .ok (.iconst 1, 1) := by decide +kernel
theorem dX5_soundsIn_58 : decode cX5_soundsIn 58 = .ok (.if_icmp .ne 5, 3) := by decide +kernel
theorem dX5_soundsIn_61 : decode cX5_soundsIn 61 = .ok (.iload_n 2, 1) := by decide +kernel
theorem dX5_soundsIn_62 : decode cX5_soundsIn 62 = .ok (.ireturn, 1) := by decide +kernel
theorem dX5_soundsIn_63 : decode cX5_soundsIn 63 = .ok (.iinc 2 1, 3) := by decide +kernel
theorem dX5_soundsIn_66 : decode cX5_soundsIn 66 = .ok (.goto (-36), 3) := by decide +kernel
theorem dX5_soundsIn_69 : decode cX5_soundsIn 69 = .ok (.iconst (-1), 1) := by decide +kernel
theorem dX5_soundsIn_70 : decode cX5_soundsIn 70 = .ok (.ireturn, 1) := by decide +kernel
set_option maxRecDepth 20000 in
theorem ggX5_leastSpeed_X5_isTicks : GoodIn wsX5_leastSpeed wsX5_isTicks := goodIn_r _ [9] (by decide +kernel) (by decide +kernel)
set_option maxRecDepth 20000 in
theorem gX5_leastSpeed_X5_isTicks : GoodIn wsX5_leastSpeed (va_wsS RX5 199 yX5_isTicks wsX5_isTicks) := goodIn_app (goodIn_of _ (by decide +kernel)) ggX5_leastSpeed_X5_isTicks
set_option maxRecDepth 20000 in
theorem ggX5_leastSpeed_X1_copyFrom : GoodIn wsX5_leastSpeed wsX1_copyFrom := goodIn_r _ [14, 15, 16, 17, 18, 19, 20, 21, 22, 23, 24, 25, 26, 27, 28, 29, 30, 31, 32, 33, 34, 35, 36, 37, 38, 39, 8, 40, 41, 42, 43, 44, 45, 46, 47, 48, 151, 152, 153, 154, 155, 156, 157, 158, 159, 160, 161, 162, 163, 164, 165, 166, 167, 168, 169, 170, 171] (by decide +kernel) (by decide +kernel)
set_option maxRecDepth 20000 in
theorem gX5_leastSpeed_X1_copyFrom : GoodIn wsX5_leastSpeed (wsV RX5 72 RX1 yX1_copyFrom wsX1_copyFrom) := goodIn_app (goodIn_of _ (by decide +kernel)) ggX5_leastSpeed_X1_copyFrom
set_option maxRecDepth 20000 in
theorem ggX5_leastSpeed_X1_change : GoodIn wsX5_leastSpeed wsX1_change := goodIn_r _ [52, 20, 53, 8, 54, 3, 55, 56, 57, 151, 152, 153, 154, 155, 156, 157, 158, 159, 160, 161, 162, 163, 164, 165, 166, 167] (by decide +kernel) (by decide +kernel)
set_option maxRecDepth 20000 in
theorem gX5_leastSpeed_X1_change : GoodIn wsX5_leastSpeed (wsV RX5 112 RX1 yX1_change wsX1_change) := goodIn_app (goodIn_of _ (by decide +kernel)) ggX5_leastSpeed_X1_change
set_option maxRecDepth 20000 in
theorem ggX5_leastSpeed_X1_play : GoodIn wsX5_leastSpeed wsX1_play := goodIn_r _ [61, 28, 21, 25, 20, 62, 42, 43, 44, 7, 8, 9, 63, 64, 65, 13, 66, 22, 23, 67, 68, 69, 70, 16, 24, 30, 71, 72, 73, 74, 75, 76, 77, 35, 78, 38, 79, 80, 81, 82, 83, 84, 85, 86, 87, 88, 89, 90, 91, 17, 92, 93, 94, 95, 96, 97, 98, 99, 100, 101, 102, 103, 104, 105, 15, 106, 107, 108, 109, 110, 111, 112, 113, 37, 114, 115, 116, 117, 118, 119, 120, 121, 122, 123, 124, 125, 126, 127, 46, 47, 48, 128, 129, 130, 131, 132, 133, 134, 135, 31, 136, 137, 138, 139, 140, 18, 29, 19, 26, 27, 141, 142, 143, 144, 151, 152, 153, 154, 155, 156, 157, 158, 159, 160, 161, 162, 163, 164, 165, 166, 167, 168, 169, 170, 171] (by decide +kernel) (by decide +kernel)
set_option maxRecDepth 20000 in
theorem gX5_leastSpeed_X1_play : GoodIn wsX5_leastSpeed (wsV RX5 115 RX1 yX1_play wsX1_play) := goodIn_app (goodIn_of _ (by decide +kernel)) ggX5_leastSpeed_X1_play
theorem dX5_leastSpeed_0 : decode cX5_leastSpeed 0 = .ok (.iload_n 1, 1) := by decide +kernel
theorem dX5_leastSpeed_1 : decode cX5_leastSpeed 1 = .ok (.invokestatic 199, 3) := by decide +kernel
theorem dX5_leastSpeed_4 : decode cX5_leastSpeed 4 = .ok (.ifCond .ne 13, 3) := by decide +kernel
theorem dX5_leastSpeed_7 : decode cX5_leastSpeed 7 = .ok (.new 43, 3) := by decide +kernel
theorem dX5_leastSpeed_10 : decode cX5_leastSpeed 10 = .ok (.dup, 1) := by decide +kernel
theorem dX5_leastSpeed_11 : decode cX5_leastSpeed 11 = .ok (.ldc 202, 2) := by decide +kernel
theorem dX5_leastSpeed_13 : decode cX5_leastSpeed 13 = .ok (.invokespecial 47, 3) := by decide +kernel
theorem dX5_leastSpeed_16 : decode cX5_leastSpeed 16 = .ok (.athrow, 1) := by decide +kernel
theorem dX5_leastSpeed_17 : decode cX5_leastSpeed 17 = .ok (.iconst 0, 1) := by decide +kernel
theorem dX5_leastSpeed_18 : decode cX5_leastSpeed 18 = .ok (.istore_n 2, 1) := by decide +kernel
theorem dX5_leastSpeed_19 : decode cX5_leastSpeed 19 = .ok (.iload_n 2, 1) := by decide +kernel
theorem dX5_leastSpeed_20 : decode cX5_leastSpeed 20 = .ok (.getstatic 225, 3) := by decide +kernel
theorem dX5_leastSpeed_23 : decode cX5_leastSpeed 23 = .ok (.iconst 0, 1) := by decide +kernel
theorem dX5_leastSpeed_24 : decode cX5_leastSpeed 24 = .ok (.iaload, 1) := by decide +kernel
theorem dX5_leastSpeed_25 : decode cX5_leastSpeed 25 = .ok (.if_icmp .gt 58, 3) := by decide +kernel
theorem dX5_leastSpeed_28 : decode cX5_leastSpeed 28 = .ok (.aload_n 0, 1) := by decide +kernel
theorem dX5_leastSpeed_29 : decode cX5_leastSpeed 29 = .ok (.getfield 26, 3) := by decide +kernel
theorem dX5_leastSpeed_32 : decode cX5_leastSpeed 32 = .ok (.aload_n 0, 1) := by decide +kernel
theorem dX5_leastSpeed_33 : decode cX5_leastSpeed 33 = .ok (.getfield 19, 3) := by decide +kernel
theorem dX5_leastSpeed_36 : decode cX5_leastSpeed 36 = .ok (.invokevirtual 72, 3) := by decide +kernel
theorem dX5_leastSpeed_39 : decode cX5_leastSpeed 39 = .ok (.aload_n 0, 1) := by decide +kernel
theorem dX5_leastSpeed_40 : decode cX5_leastSpeed 40 = .ok (.getfield 26, 3) := by decide +kernel
theorem dX5_leastSpeed_43 : decode cX5_leastSpeed 43 = .ok (.iconst 0, 1) := by decide +kernel
theorem dX5_leastSpeed_44 : decode cX5_leastSpeed 44 = .ok (.iload_n 2, 1) := by decide +kernel
theorem dX5_leastSpeed_45 : decode cX5_leastSpeed 45 = .ok (.invokevirtual 112, 3) := by decide +kernel
theorem dX5_leastSpeed_48 : decode cX5_leastSpeed 48 = .ok (.pop, 1) := by decide +kernel
theorem dX5_leastSpeed_49 : decode cX5_leastSpeed 49 = .ok (.aload_n 0, 1) := by decide +kernel
theorem dX5_leastSpeed_50 : decode cX5_leastSpeed 50 = .ok (.getfield 26, 3) := by decide +kernel
theorem dX5_leastSpeed_53 : decode cX5_leastSpeed 53 = .ok (.iload_n 1, 1) := by decide +kernel
theorem dX5_leastSpeed_54 : decode cX5_leastSpeed 54 = .ok (.invokevirtual 115, 3) := by decide +kernel
theorem dX5_leastSpeed_57 : decode cX5_leastSpeed 57 = .ok (.pop, 1) := by decide +kernel
theorem dX5_leastSpeed_58 : decode cX5_leastSpeed 58 = .ok (.aload_n 0, 1) := by decide +kernel
theorem dX5_leastSpeed_59 : decode cX5_leastSpeed 59 = .ok (.getfield 26, 3) := by decide +kernel
theorem dX5_leastSpeed_62 : decode cX5_leastSpeed 62 = .ok (.getfield 229, 3) := by decide +kernel
theorem dX5_leastSpeed_65 : decode cX5_leastSpeed 65 = .ok (.aload_n 0, 1) := by decide +kernel
theorem dX5_leastSpeed_66 : decode cX5_leastSpeed 66 = .ok (.getfield 19, 3) := by decide +kernel
theorem dX5_leastSpeed_69 : decode cX5_leastSpeed 69 = .ok (.getfield 229, 3) := by decide +kernel
theorem dX5_leastSpeed_72 : decode cX5_leastSpeed 72 = .ok (.if_icmp .ne 5, 3) := by decide +kernel
theorem dX5_leastSpeed_75 : decode cX5_leastSpeed 75 = .ok (.iload_n 2, 1) := by decide +kernel
theorem dX5_leastSpeed_76 : decode cX5_leastSpeed 76 = .ok (.ireturn, 1) := by decide +kernel
theorem dX5_leastSpeed_77 : decode cX5_leastSpeed 77 = .ok (.iinc 2 1, 3) := by decide +kernel
theorem dX5_leastSpeed_80 : decode cX5_leastSpeed 80 = .ok (.goto (-61), 3) := by decide +kernel
theorem dX5_leastSpeed_83 : decode cX5_leastSpeed 83 = .ok (.iconst (-1), 1) := by decide +kernel
theorem dX5_leastSpeed_84 : decode cX5_leastSpeed 84 = .ok (.ireturn, 1) := by decide +kernel
set_option maxRecDepth 20000 in
theorem ggX5_fullest_X1_openPipes : GoodIn wsX5_fullest wsX1_openPipes := goodIn_r _ [6, 7, 8, 9, 5, 10, 11, 12, 13, 14, 15, 16, 17, 31, 32, 33, 34, 35, 36, 37, 38, 39, 40, 41, 42, 43, 44, 45, 46, 47] (by decide +kernel) (by decide +kernel)
set_option maxRecDepth 20000 in
theorem gX5_fullest_X1_openPipes : GoodIn wsX5_fullest (wsV RX5 167 RX1 yX1_openPipes wsX1_openPipes) := goodIn_app (goodIn_of _ (by decide +kernel)) ggX5_fullest_X1_openPipes
set_option maxRecDepth 20000 in
theorem ggX5_fullest_J6_bitCount_0f7a4 : GoodIn wsX5_fullest wsJ6_bitCount_0f7a4 := goodIn_r _ [21, 22, 23, 24] (by decide +kernel) (by decide +kernel)
set_option maxRecDepth 20000 in
theorem gX5_fullest_J6_bitCount_0f7a4 : GoodIn wsX5_fullest (va_wsS RX5 232 yJ6_bitCount_0f7a4 wsJ6_bitCount_0f7a4) := goodIn_app (goodIn_of _ (by decide +kernel)) ggX5_fullest_J6_bitCount_0f7a4
theorem dX5_fullest_0 : decode cX5_fullest 0 = .ok (.iconst 0, 1) := by decide +kernel
theorem dX5_fullest_1 : decode cX5_fullest 1 = .ok (.istore_n 1, 1) := by decide +kernel
theorem dX5_fullest_2 : decode cX5_fullest 2 = .ok (.iconst 1, 1) := by decide +kernel
theorem dX5_fullest_3 : decode cX5_fullest 3 = .ok (.istore_n 2, 1) := by decide +kernel
theorem dX5_fullest_4 : decode cX5_fullest 4 = .ok (.iload_n 2, 1) := by decide +kernel
theorem dX5_fullest_5 : decode cX5_fullest 5 = .ok (.bipush 24, 2) := by decide +kernel
theorem dX5_fullest_7 : decode cX5_fullest 7 = .ok (.if_icmp .ge 36, 3) := by decide +kernel
theorem dX5_fullest_10 : decode cX5_fullest 10 = .ok (.aload_n 0, 1) := by decide +kernel
theorem dX5_fullest_11 : decode cX5_fullest 11 = .ok (.getfield 19, 3) := by decide +kernel
theorem dX5_fullest_14 : decode cX5_fullest 14 = .ok (.iload_n 2, 1) := by decide +kernel
theorem dX5_fullest_15 : decode cX5_fullest 15 = .ok (.invokevirtual 167, 3) := by decide +kernel
theorem dX5_fullest_18 : decode cX5_fullest 18 = .ok (.invokestatic 232, 3) := by decide +kernel
theorem dX5_fullest_21 : decode cX5_fullest 21 = .ok (.aload_n 0, 1) := by decide +kernel
theorem dX5_fullest_22 : decode cX5_fullest 22 = .ok (.getfield 19, 3) := by decide +kernel
theorem dX5_fullest_25 : decode cX5_fullest 25 = .ok (.iload_n 1, 1) := by decide +kernel
theorem dX5_fullest_26 : decode cX5_fullest 26 = .ok (.invokevirtual 167, 3) := by decide +kernel
theorem dX5_fullest_29 : decode cX5_fullest 29 = .ok (.invokestatic 232, 3) := by decide +kernel
theorem dX5_fullest_32 : decode cX5_fullest 32 = .ok (.if_icmp .le 5, 3) := by decide +kernel
theorem dX5_fullest_35 : decode cX5_fullest 35 = .ok (.iload_n 2, 1) := by decide +kernel
theorem dX5_fullest_36 : decode cX5_fullest 36 = .ok (.istore_n 1, 1) := by decide +kernel
theorem dX5_fullest_37 : decode cX5_fullest 37 = .ok (.iinc 2 1, 3) := by decide +kernel
theorem dX5_fullest_40 : decode cX5_fullest 40 = .ok (.goto (-36), 3) := by decide +kernel
theorem dX5_fullest_43 : decode cX5_fullest 43 = .ok (.iload_n 1, 1) := by decide +kernel
theorem dX5_fullest_44 : decode cX5_fullest 44 = .ok (.ireturn, 1) := by decide +kernel
set_option maxRecDepth 20000 in
theorem ggX5_room_X5_isPipe : GoodIn wsX5_room wsX5_isPipe := goodIn_r _ [9] (by decide +kernel) (by decide +kernel)
set_option maxRecDepth 20000 in
theorem gX5_room_X5_isPipe : GoodIn wsX5_room (va_wsS RX5 154 yX5_isPipe wsX5_isPipe) := goodIn_app (goodIn_of _ (by decide +kernel)) ggX5_room_X5_isPipe
set_option maxRecDepth 20000 in
theorem ggX5_room_X5_isLength : GoodIn wsX5_room wsX5_isLength := goodIn_r _ [12] (by decide +kernel) (by decide +kernel)
set_option maxRecDepth 20000 in
theorem gX5_room_X5_isLength : GoodIn wsX5_room (va_wsS RX5 188 yX5_isLength wsX5_isLength) := goodIn_app (goodIn_of _ (by decide +kernel)) ggX5_room_X5_isLength
set_option maxRecDepth 20000 in
theorem ggX5_room_X5_span : GoodIn wsX5_room wsX5_span := goodIn_r _ [15, 16] (by decide +kernel) (by decide +kernel)
set_option maxRecDepth 20000 in
theorem gX5_room_X5_span : GoodIn wsX5_room (va_wsS RX5 237 yX5_span wsX5_span) := goodIn_app (goodIn_of _ (by decide +kernel)) ggX5_room_X5_span
set_option maxRecDepth 20000 in
theorem ggX5_room_X1_isFree : GoodIn wsX5_room wsX1_isFree := goodIn_r _ [21, 22, 7, 8, 9, 29, 30, 31, 32, 33, 34, 35, 36, 37, 38, 39, 40, 41, 42, 43, 44, 45] (by decide +kernel) (by decide +kernel)
set_option maxRecDepth 20000 in
theorem gX5_room_X1_isFree : GoodIn wsX5_room (wsV RX5 240 RX1 yX1_isFree wsX1_isFree) := goodIn_app (goodIn_of _ (by decide +kernel)) ggX5_room_X1_isFree
theorem dX5_room_0 : decode cX5_room 0 = .ok (.iload_n 1, 1) := by decide +kernel
theorem dX5_room_1 : decode cX5_room 1 = .ok (.invokestatic 154, 3) := by decide +kernel
theorem dX5_room_4 : decode cX5_room 4 = .ok (.ifCond .ne 13, 3) := by decide +kernel
theorem dX5_room_7 : decode cX5_room 7 = .ok (.new 137, 3) := by decide +kernel
theorem dX5_room_10 : decode cX5_room 10 = .ok (.dup, 1) := by decide +kernel
theorem dX5_room_11 : decode cX5_room 11 = .ok (.ldc 157, 2) := by decide +kernel
theorem dX5_room_13 : decode cX5_room 13 = .ok (.invokespecial 141, 3) := by decide +kernel
theorem dX5_room_16 : decode cX5_room 16 = .ok (.athrow, 1) := by decide +kernel
theorem dX5_room_17 : decode cX5_room 17 = .ok (.iload_n 2, 1) := by decide +kernel
theorem dX5_room_18 : decode cX5_room 18 = .ok (.invokestatic 188, 3) := by decide +kernel
theorem dX5_room_21 : decode cX5_room 21 = .ok (.ifCond .ne 13, 3) := by decide +kernel
theorem dX5_room_24 : decode cX5_room 24 = .ok (.new 43, 3) := by decide +kernel
theorem dX5_room_27 : decode cX5_room 27 = .ok (.dup, 1) := by decide +kernel
theorem dX5_room_28 : decode cX5_room 28 = .ok (.ldc 191, 2) := by decide +kernel
theorem dX5_room_30 : decode cX5_room 30 = .ok (.invokespecial 47, 3) := by decide +kernel
theorem dX5_room_33 : decode cX5_room 33 = .ok (.athrow, 1) := by decide +kernel
theorem dX5_room_34 : decode cX5_room 34 = .ok (.iconst 0, 1) := by decide +kernel
theorem dX5_room_35 : decode cX5_room 35 = .ok (.istore_n 3, 1) := by decide +kernel
theorem dX5_room_36 : decode cX5_room 36 = .ok (.iload_n 3, 1) := by decide +kernel
theorem dX5_room_37 : decode cX5_room 37 = .ok (.bipush 24, 2) := by decide +kernel
theorem dX5_room_39 : decode cX5_room 39 = .ok (.if_icmp .ge 27, 3) := by decide +kernel
theorem dX5_room_42 : decode cX5_room 42 = .ok (.aload_n 0, 1) := by decide +kernel
theorem dX5_room_43 : decode cX5_room 43 = .ok (.getfield 19, 3) := by decide +kernel
theorem dX5_room_46 : decode cX5_room 46 = .ok (.iload_n 1, 1) := by decide +kernel
theorem dX5_room_47 : decode cX5_room 47 = .ok (.iload_n 3, 1) := by decide +kernel
theorem dX5_room_48 : decode cX5_room 48 = .ok (.iload_n 2, 1) := by decide +kernel
theorem dX5_room_49 : decode cX5_room 49 = .ok (.invokestatic 237, 3) := by decide +kernel
theorem dX5_room_52 : decode cX5_room 52 = .ok (.invokevirtual 240, 3) := by decide +kernel
theorem dX5_room_55 : decode cX5_room 55 = .ok (.ifCond .eq 5, 3) := by decide +kernel
theorem dX5_room_58 : decode cX5_room 58 = .ok (.iload_n 3, 1) := by decide +kernel
theorem dX5_room_59 : decode cX5_room 59 = .ok (.ireturn, 1) := by decide +kernel
theorem dX5_room_60 : decode cX5_room 60 = .ok (.iinc 3 1, 3) := by decide +kernel
theorem dX5_room_63 : decode cX5_room 63 = .ok (.goto (-27), 3) := by decide +kernel
theorem dX5_room_66 : decode cX5_room 66 = .ok (.iconst (-1), 1) := by decide +kernel
theorem dX5_room_67 : decode cX5_room 67 = .ok (.ireturn, 1) := by decide +kernel
set_option maxRecDepth 20000 in
theorem ggX5_runScript_X5_withoutLastGroups : GoodIn wsX5_runScript wsX5_withoutLastGroups := goodIn_r _ [9, 5] (by decide +kernel) (by decide +kernel)
set_option maxRecDepth 20000 in
theorem gX5_runScript_X5_withoutLastGroups : GoodIn wsX5_runScript (va_wsS RX5 245 yX5_withoutLastGroups wsX5_withoutLastGroups) := goodIn_app (goodIn_of _ (by decide +kernel)) ggX5_runScript_X5_withoutLastGroups
set_option maxRecDepth 20000 in
theorem ggX5_runScript_X1_copyFrom : GoodIn wsX5_runScript wsX1_copyFrom := goodIn_r _ [14, 15, 16, 17, 18, 19, 20, 21, 22, 23, 24, 25, 26, 27, 28, 29, 30, 31, 32, 33, 34, 35, 36, 37, 38, 39, 8, 40, 41, 42, 43, 44, 45, 46, 47, 48, 179, 180, 181, 182, 183, 184, 185, 186, 187, 188, 189, 190, 191, 192, 193, 194, 195, 196, 197, 198, 199] (by decide +kernel) (by decide +kernel)
set_option maxRecDepth 20000 in
theorem gX5_runScript_X1_copyFrom : GoodIn wsX5_runScript (wsV RX5 72 RX1 yX1_copyFrom wsX1_copyFrom) := goodIn_app (goodIn_of _ (by decide +kernel)) ggX5_runScript_X1_copyFrom
set_option maxRecDepth 20000 in
theorem ggX5_runScript_X5_obeysGroup : GoodIn wsX5_runScript wsX5_obeysGroup := goodIn_r _ [52, 3, 53, 54, 55, 13, 56, 57, 8, 58, 59, 60, 61, 62, 16, 63, 64, 65, 66, 67, 68, 69, 35, 70, 37, 71, 72, 73, 74, 75, 76, 77, 78, 79, 80, 38, 81, 82, 83, 84, 85, 86, 87, 88, 89, 90, 91, 92, 93, 28, 21, 25, 20, 94, 42, 43, 44, 95, 96, 97, 98, 99, 100, 22, 23, 101, 102, 103, 104, 24, 30, 105, 106, 107, 108, 109, 110, 111, 112, 113, 114, 115, 116, 117, 118, 119, 17, 120, 121, 122, 123, 124, 125, 126, 127, 15, 128, 129, 130, 131, 132, 133, 134, 135, 136, 137, 138, 139, 140, 46, 47, 48, 141, 142, 143, 144, 145, 146, 147, 148, 31, 149, 150, 151, 152, 153, 18, 29, 19, 26, 27, 154, 155, 156, 157, 158, 159, 160, 161, 162, 163, 164, 165, 166, 167, 168, 169, 170, 171, 172, 173, 174, 175, 176, 177, 178, 179, 180, 181, 182, 183, 184, 185, 186, 187, 188, 189, 190, 191, 192, 193, 194, 195, 196, 197, 198, 199] (by decide +kernel) (by decide +kernel)
set_option maxRecDepth 20000 in
theorem gX5_runScript_X5_obeysGroup : GoodIn wsX5_runScript (wsV RX5 253 RX5 yX5_obeysGroup wsX5_obeysGroup) := goodIn_app (goodIn_of _ (by decide +kernel)) ggX5_runScript_X5_obeysGroup
theorem dX5_runScript_0 : decode cX5_runScript 0 = .ok (.iload_n 1, 1) := by decide +kernel
theorem dX5_runScript_1 : decode cX5_runScript 1 = .ok (.iconst 1, 1) := by decide +kernel
theorem dX5_runScript_2 : decode cX5_runScript 2 = .ok (.if_icmp .lt 8, 3) := by decide +kernel
theorem dX5_runScript_5 : decode cX5_runScript 5 = .ok (.iload_n 1, 1) := by decide +kernel
theorem dX5_runScript_6 : decode cX5_runScript 6 = .ok (.iconst 3, 1) := by decide +kernel
theorem dX5_runScript_7 : decode cX5_runScript 7 = .ok (.if_icmp .le 13, 3) := by decide +kernel
theorem dX5_runScript_10 : decode cX5_runScript 10 = .ok (.new 43, 3) := by decide +kernel
theorem dX5_runScript_13 : decode cX5_runScript 13 = .ok (.dup, 1) := by decide +kernel
theorem dX5_runScript_14 : decode cX5_runScript 14 = .ok (.ldc 243, 2) := by decide +kernel
theorem dX5_runScript_16 : decode cX5_runScript 16 = .ok (.invokespecial 47, 3) := by decide +kernel
theorem dX5_runScript_19 : decode cX5_runScript 19 = .ok (.athrow, 1) := by decide +kernel
theorem dX5_runScript_20 : decode cX5_runScript 20 = .ok (.lload_n 2, 1) := by decide +kernel
theorem dX5_runScript_21 : decode cX5_runScript 21 = .ok (.lconst 0, 1) := by decide +kernel
theorem dX5_runScript_22 : decode cX5_runScript 22 = .ok (.lcmp, 1) := by decide +kernel
theorem dX5_runScript_23 : decode cX5_runScript 23 = .ok (.ifCond .lt 13, 3) := by decide +kernel
theorem dX5_runScript_26 : decode cX5_runScript 26 = .ok (.lload_n 2, 1) := by decide +kernel
theorem dX5_runScript_27 : decode cX5_runScript 27 = .ok (.iload_n 1, 1) := by decide +kernel
theorem dX5_runScript_28 : decode cX5_runScript 28 = .ok (.invokestatic 245, 3) := by decide +kernel
theorem dX5_runScript_31 : decode cX5_runScript 31 = .ok (.lconst 0, 1) := by decide +kernel
theorem dX5_runScript_32 : decode cX5_runScript 32 = .ok (.lcmp, 1) := by decide +kernel
theorem dX5_runScript_33 : decode cX5_runScript 33 = .ok (.ifCond .eq 13, 3) := by decide +kernel
theorem dX5_runScript_36 : decode cX5_runScript 36 = .ok (.new 43, 3) := by decide +kernel
theorem dX5_runScript_39 : decode cX5_runScript 39 = .ok (.dup, 1) := by decide +kernel
theorem dX5_runScript_40 : decode cX5_runScript 40 = .ok (.ldc 249, 2) := by decide +kernel
theorem dX5_runScript_42 : decode cX5_runScript 42 = .ok (.invokespecial 47, 3) := by decide +kernel
theorem dX5_runScript_45 : decode cX5_runScript 45 = .ok (.athrow, 1) := by decide +kernel
theorem dX5_runScript_46 : decode cX5_runScript 46 = .ok (.aload_n 0, 1) := by decide +kernel
theorem dX5_runScript_47 : decode cX5_runScript 47 = .ok (.getfield 26, 3) := by decide +kernel
theorem dX5_runScript_50 : decode cX5_runScript 50 = .ok (.aload_n 0, 1) := by decide +kernel
theorem dX5_runScript_51 : decode cX5_runScript 51 = .ok (.getfield 19, 3) := by decide +kernel
theorem dX5_runScript_54 : decode cX5_runScript 54 = .ok (.invokevirtual 72, 3) := by decide +kernel
theorem dX5_runScript_57 : decode cX5_runScript 57 = .ok (.iconst 0, 1) := by decide +kernel
theorem dX5_runScript_58 : decode cX5_runScript 58 = .ok (.istore 4, 2) := by decide +kernel
theorem dX5_runScript_60 : decode cX5_runScript 60 = .ok (.iload 4, 2) := by decide +kernel
theorem dX5_runScript_62 : decode cX5_runScript 62 = .ok (.iload_n 1, 1) := by decide +kernel
theorem dX5_runScript_63 : decode cX5_runScript 63 = .ok (.if_icmp .ge 38, 3) := by decide +kernel
theorem dX5_runScript_66 : decode cX5_runScript 66 = .ok (.lload_n 2, 1) := by decide +kernel
theorem dX5_runScript_67 : decode cX5_runScript 67 = .ok (.iload_n 1, 1) := by decide +kernel
theorem dX5_runScript_68 : decode cX5_runScript 68 = .ok (.iconst 1, 1) := by decide +kernel
theorem dX5_runScript_69 : decode cX5_runScript 69 = .ok (.isub, 1) := by decide +kernel
theorem dX5_runScript_70 : decode cX5_runScript 70 = .ok (.iload 4, 2) := by decide +kernel
theorem dX5_runScript_72 : decode cX5_runScript 72 = .ok (.isub, 1) := by decide +kernel
theorem dX5_runScript_73 : decode cX5_runScript 73 = .ok (.invokestatic 245, 3) := by decide +kernel
theorem dX5_runScript_76 : decode cX5_runScript 76 = .ok (.ldc2_w 251, 3) := by decide +kernel
theorem dX5_runScript_79 : decode cX5_runScript 79 = .ok (.lrem, 1) := by decide +kernel
theorem dX5_runScript_80 : decode cX5_runScript 80 = .ok (.l2i, 1) := by decide +kernel
theorem dX5_runScript_81 : decode cX5_runScript 81 = .ok (.istore 5, 2) := by decide +kernel
theorem dX5_runScript_83 : decode cX5_runScript 83 = .ok (.aload_n 0, 1) := by decide +kernel
theorem dX5_runScript_84 : decode cX5_runScript 84 = .ok (.iload 5, 2) := by decide +kernel
theorem dX5_runScript_86 : decode cX5_runScript 86 = .ok (.invokevirtual 253, 3) := by decide +kernel
theorem dX5_runScript_89 : decode cX5_runScript 89 = .ok (.ifCond .ne 6, 3) := by decide +kernel
theorem dX5_runScript_92 : decode cX5_runScript 92 = .ok (.iload 4, 2) := by decide +kernel
theorem dX5_runScript_94 : decode cX5_runScript 94 = .ok (.ireturn, 1) := by decide +kernel
theorem dX5_runScript_95 : decode cX5_runScript 95 = .ok (.iinc 4 1, 3) := by decide +kernel
theorem dX5_runScript_98 : decode cX5_runScript 98 = .ok (.goto (-38), 3) := by decide +kernel
theorem dX5_runScript_101 : decode cX5_runScript 101 = .ok (.iconst (-1), 1) := by decide +kernel
theorem dX5_runScript_102 : decode cX5_runScript 102 = .ok (.ireturn, 1) := by decide +kernel
theorem dX5_withoutLastGroups_0 : decode cX5_withoutLastGroups 0 = .ok (.lload_n 0, 1) := by decide +kernel
theorem dX5_withoutLastGroups_1 : decode cX5_withoutLastGroups 1 = .ok (.lstore_n 3, 1) := by decide +kernel
theorem dX5_withoutLastGroups_2 : decode cX5_withoutLastGroups 2 = .ok (.iconst 0, 1) := by decide +kernel
theorem dX5_withoutLastGroups_3 : decode cX5_withoutLastGroups 3 = .ok (.istore 5, 2) := by decide +kernel
theorem dX5_withoutLastGroups_5 : decode cX5_withoutLastGroups 5 = .ok (.iload 5, 2) := by decide +kernel
theorem dX5_withoutLastGroups_7 : decode cX5_withoutLastGroups 7 = .ok (.iload_n 2, 1) := by decide +kernel
theorem dX5_withoutLastGroups_8 : decode cX5_withoutLastGroups 8 = .ok (.if_icmp .ge 15, 3) := by decide +kernel
theorem dX5_withoutLastGroups_11 : decode cX5_withoutLastGroups 11 = .ok (.lload_n 3, 1) := by decide +kernel
theorem dX5_withoutLastGroups_12 : decode cX5_withoutLastGroups 12 = .ok (.ldc2_w 251, 3) := by decide +kernel
theorem dX5_withoutLastGroups_15 : decode cX5_withoutLastGroups 15 = .ok (.ldiv, 1) := by decide +kernel
theorem dX5_withoutLastGroups_16 : decode cX5_withoutLastGroups 16 = .ok (.lstore_n 3, 1) := by decide +kernel
theorem dX5_withoutLastGroups_17 : decode cX5_withoutLastGroups 17 = .ok (.iinc 5 1, 3) := by decide +kernel
theorem dX5_withoutLastGroups_20 : decode cX5_withoutLastGroups 20 = .ok (.goto (-15), 3) := by decide +kernel
theorem dX5_withoutLastGroups_23 : decode cX5_withoutLastGroups 23 = .ok (.lload_n 3, 1) := by decide +kernel
theorem dX5_withoutLastGroups_24 : decode cX5_withoutLastGroups 24 = .ok (.lreturn, 1) := by decide +kernel
set_option maxRecDepth 20000 in
theorem ggX5_obeysGroup_X1_orderPut : GoodIn wsX5_obeysGroup wsX1_orderPut := goodIn_r _ [6, 7, 8, 9, 10, 11, 12, 5, 13, 14, 15, 16, 17, 18, 19, 20, 21, 22, 23, 24, 25, 26, 27, 28, 29, 30, 31, 32, 33, 34, 35, 36, 37, 38, 39, 40, 156, 157, 158, 159, 160, 161, 162, 163, 164, 165, 166, 167, 168, 169, 170, 171, 172, 173, 174, 175, 176] (by decide +kernel) (by decide +kernel)
set_option maxRecDepth 20000 in
theorem gX5_obeysGroup_X1_orderPut : GoodIn wsX5_obeysGroup (wsV RX5 104 RX1 yX1_orderPut wsX1_orderPut) := goodIn_app (goodIn_of _ (by decide +kernel)) ggX5_obeysGroup_X1_orderPut
set_option maxRecDepth 20000 in
theorem ggX5_obeysGroup_X1_orderPull : GoodIn wsX5_obeysGroup wsX1_orderPull := goodIn_r _ [44, 10, 11, 12, 5, 13, 14, 15, 8, 16, 17, 18, 19, 20, 21, 22, 23, 24, 25, 26, 27, 28, 29, 30, 31, 32, 33, 34, 35, 36, 37, 38, 39, 40, 156, 157, 158, 159, 160, 161, 162, 163, 164, 165, 166, 167, 168, 169, 170, 171, 172, 173, 174, 175, 176] (by decide +kernel) (by decide +kernel)
set_option maxRecDepth 20000 in
theorem gX5_obeysGroup_X1_orderPull : GoodIn wsX5_obeysGroup (wsV RX5 108 RX1 yX1_orderPull wsX1_orderPull) := goodIn_app (goodIn_of _ (by decide +kernel)) ggX5_obeysGroup_X1_orderPull
set_option maxRecDepth 20000 in
theorem ggX5_obeysGroup_X1_play : GoodIn wsX5_obeysGroup wsX1_play := goodIn_r _ [48, 49, 50, 51, 52, 53, 54, 55, 56, 57, 8, 58, 59, 60, 61, 5, 62, 63, 64, 65, 66, 67, 68, 14, 69, 70, 71, 72, 73, 74, 75, 76, 77, 22, 78, 35, 36, 37, 38, 39, 40, 25, 79, 80, 81, 82, 83, 84, 85, 86, 15, 16, 31, 32, 33, 34, 87, 88, 89, 90, 91, 92, 93, 94, 95, 96, 97, 98, 99, 19, 20, 21, 23, 24, 26, 27, 28, 29, 30, 100, 101, 102, 103, 104, 105, 106, 107, 108, 109, 110, 111, 112, 113, 114, 115, 116, 117, 118, 119, 120, 121, 122, 123, 124, 125, 126, 127, 128, 129, 130, 131, 132, 133, 134, 156, 157, 158, 159, 160, 161, 162, 163, 164, 165, 166, 167, 168, 169, 170, 171, 172, 173, 174, 175, 176] (by decide +kernel) (by decide +kernel)
set_option maxRecDepth 20000 in
theorem gX5_obeysGroup_X1_play : GoodIn wsX5_obeysGroup (wsV RX5 115 RX1 yX1_play wsX1_play) := goodIn_app (goodIn_of _ (by decide +kernel)) ggX5_obeysGroup_X1_play
set_option maxRecDepth 20000 in
theorem ggX5_obeysGroup_X1_change : GoodIn wsX5_obeysGroup wsX1_change := goodIn_r _ [138, 52, 139, 8, 140, 141, 142, 143, 144, 156, 157, 158, 159, 160, 161, 162, 163, 164, 165, 166, 167, 168, 169, 170, 171, 172] (by decide +kernel) (by decide +kernel)
set_option maxRecDepth 20000 in
theorem gX5_obeysGroup_X1_change : GoodIn wsX5_obeysGroup (wsV RX5 112 RX1 yX1_change wsX1_change) := goodIn_app (goodIn_of _ (by decide +kernel)) ggX5_obeysGroup_X1_change
set_option maxRecDepth 20000 in
theorem ggX5_obeysGroup_X1_dropOrder : GoodIn wsX5_obeysGroup wsX1_dropOrder := goodIn_r _ [119, 14, 120, 121, 113, 114, 22, 115, 24, 104, 105, 106, 107, 36, 35, 108, 109, 110, 111, 112, 156, 157, 158, 159, 160, 161, 162, 163, 164, 165, 166, 167, 168, 169, 170, 171, 172, 173, 174, 175, 176] (by decide +kernel) (by decide +kernel)
set_option maxRecDepth 20000 in
theorem gX5_obeysGroup_X1_dropOrder : GoodIn wsX5_obeysGroup (wsV RX5 119 RX1 yX1_dropOrder wsX1_dropOrder) := goodIn_app (goodIn_of _ (by decide +kernel)) ggX5_obeysGroup_X1_dropOrder
set_option maxRecDepth 20000 in
theorem ggX5_obeysGroup_X5_isPipe : GoodIn wsX5_obeysGroup wsX5_isPipe := goodIn_r _ [16] (by decide +kernel) (by decide +kernel)
set_option maxRecDepth 20000 in
theorem gX5_obeysGroup_X5_isPipe : GoodIn wsX5_obeysGroup (va_wsS RX5 154 yX5_isPipe wsX5_isPipe) := goodIn_app (goodIn_of _ (by decide +kernel)) ggX5_obeysGroup_X5_isPipe
set_option maxRecDepth 20000 in
theorem ggX5_obeysGroup_X5_isBar : GoodIn wsX5_obeysGroup wsX5_isBar := goodIn_r _ [18] (by decide +kernel) (by decide +kernel)
set_option maxRecDepth 20000 in
theorem gX5_obeysGroup_X5_isBar : GoodIn wsX5_obeysGroup (va_wsS RX5 162 yX5_isBar wsX5_isBar) := goodIn_app (goodIn_of _ (by decide +kernel)) ggX5_obeysGroup_X5_isBar
set_option maxRecDepth 20000 in
theorem ggX5_obeysGroup_X1_isOpen : GoodIn wsX5_obeysGroup wsX1_isOpen := goodIn_r _ [85, 86, 15, 8, 16, 79, 80, 81, 156, 157, 158, 159, 160, 161, 162, 163, 164, 165, 166, 167, 168, 169, 170, 171, 172] (by decide +kernel) (by decide +kernel)
set_option maxRecDepth 20000 in
theorem gX5_obeysGroup_X1_isOpen : GoodIn wsX5_obeysGroup (wsV RX5 256 RX1 yX1_isOpen wsX1_isOpen) := goodIn_app (goodIn_of _ (by decide +kernel)) ggX5_obeysGroup_X1_isOpen
set_option maxRecDepth 20000 in
theorem ggX5_obeysGroup_X1_soundedAgo : GoodIn wsX5_obeysGroup wsX1_soundedAgo := goodIn_r _ [134, 129, 156, 157, 158, 159, 160, 161, 162, 163, 164, 165, 166, 167, 168, 169, 170, 171, 172] (by decide +kernel) (by decide +kernel)
set_option maxRecDepth 20000 in
theorem gX5_obeysGroup_X1_soundedAgo : GoodIn wsX5_obeysGroup (wsV RX5 222 RX1 yX1_soundedAgo wsX1_soundedAgo) := goodIn_app (goodIn_of _ (by decide +kernel)) ggX5_obeysGroup_X1_soundedAgo
theorem dX5_obeysGroup_0 : decode cX5_obeysGroup 0 = .ok (.iload_n 1, 1) := by decide +kernel
theorem dX5_obeysGroup_1 : decode cX5_obeysGroup 1 = .ok (.sipush 1000, 3) := by decide +kernel
theorem dX5_obeysGroup_4 : decode cX5_obeysGroup 4 = .ok (.idiv, 1) := by decide +kernel
theorem dX5_obeysGroup_5 : decode cX5_obeysGroup 5 = .ok (.bipush 10, 2) := by decide +kernel
theorem dX5_obeysGroup_7 : decode cX5_obeysGroup 7 = .ok (.irem, 1) := by decide +kernel
theorem dX5_obeysGroup_8 : decode cX5_obeysGroup 8 = .ok (.istore_n 2, 1) := by decide +kernel
theorem dX5_obeysGroup_9 : decode cX5_obeysGroup 9 = .ok (.iload_n 1, 1) := by decide +kernel
theorem dX5_obeysGroup_10 : decode cX5_obeysGroup 10 = .ok (.bipush 100, 2) := by decide +kernel
theorem dX5_obeysGroup_12 : decode cX5_obeysGroup 12 = .ok (.idiv, 1) := by decide +kernel
theorem dX5_obeysGroup_13 : decode cX5_obeysGroup 13 = .ok (.bipush 10, 2) := by decide +kernel
theorem dX5_obeysGroup_15 : decode cX5_obeysGroup 15 = .ok (.irem, 1) := by decide +kernel
theorem dX5_obeysGroup_16 : decode cX5_obeysGroup 16 = .ok (.istore_n 3, 1) := by decide +kernel
theorem dX5_obeysGroup_17 : decode cX5_obeysGroup 17 = .ok (.iload_n 1, 1) := by decide +kernel
theorem dX5_obeysGroup_18 : decode cX5_obeysGroup 18 = .ok (.bipush 10, 2) := by decide +kernel
theorem dX5_obeysGroup_20 : decode cX5_obeysGroup 20 = .ok (.idiv, 1) := by decide +kernel
theorem dX5_obeysGroup_21 : decode cX5_obeysGroup 21 = .ok (.bipush 10, 2) := by decide +kernel
theorem dX5_obeysGroup_23 : decode cX5_obeysGroup 23 = .ok (.irem, 1) := by decide +kernel
theorem dX5_obeysGroup_24 : decode cX5_obeysGroup 24 = .ok (.istore 4, 2) := by decide +kernel
theorem dX5_obeysGroup_26 : decode cX5_obeysGroup 26 = .ok (.iload_n 1, 1) := by decide +kernel
theorem dX5_obeysGroup_27 : decode cX5_obeysGroup 27 = .ok (.bipush 10, 2) := by decide +kernel
theorem dX5_obeysGroup_29 : decode cX5_obeysGroup 29 = .ok (.irem, 1) := by decide +kernel
theorem dX5_obeysGroup_30 : decode cX5_obeysGroup 30 = .ok (.istore 5, 2) := by decide +kernel
theorem dX5_obeysGroup_32 : decode cX5_obeysGroup 32 = .ok (.bipush 10, 2) := by decide +kernel
theorem dX5_obeysGroup_34 : decode cX5_obeysGroup 34 = .ok (.iload_n 3, 1) := by decide +kernel
theorem dX5_obeysGroup_35 : decode cX5_obeysGroup 35 = .ok (.imul, 1) := by decide +kernel
theorem dX5_obeysGroup_36 : decode cX5_obeysGroup 36 = .ok (.iload 4, 2) := by decide +kernel
theorem dX5_obeysGroup_38 : decode cX5_obeysGroup 38 = .ok (.iadd, 1) := by decide +kernel
theorem dX5_obeysGroup_39 : decode cX5_obeysGroup 39 = .ok (.istore 6, 2) := by decide +kernel
theorem dX5_obeysGroup_41 : decode cX5_obeysGroup 41 = .ok (.bipush 10, 2) := by decide +kernel
theorem dX5_obeysGroup_43 : decode cX5_obeysGroup 43 = .ok (.iload 4, 2) := by decide +kernel
theorem dX5_obeysGroup_45 : decode cX5_obeysGroup 45 = .ok (.imul, 1) := by decide +kernel
theorem dX5_obeysGroup_46 : decode cX5_obeysGroup 46 = .ok (.iload 5, 2) := by decide +kernel
theorem dX5_obeysGroup_48 : decode cX5_obeysGroup 48 = .ok (.iadd, 1) := by decide +kernel
theorem dX5_obeysGroup_49 : decode cX5_obeysGroup 49 = .ok (.istore 7, 2) := by decide +kernel
theorem dX5_obeysGroup_51 : decode cX5_obeysGroup 51 = .ok (.iload_n 1, 1) := by decide +kernel
theorem dX5_obeysGroup_52 : decode cX5_obeysGroup 52 = .ok (.sipush 10000, 3) := by decide +kernel
theorem dX5_obeysGroup_55 : decode cX5_obeysGroup 55 = .ok (.idiv, 1) := by decide +kernel
theorem dX5_obeysGroup_56 : decode cX5_obeysGroup 56 = .ok (.tableswitch 304 1 9 #[52, 74, 99, 126, 150, 178, 217, 243, 277], 52) := by decide +kernel
theorem dX5_obeysGroup_108 : decode cX5_obeysGroup 108 = .ok (.aload_n 0, 1) := by decide +kernel
theorem dX5_obeysGroup_109 : decode cX5_obeysGroup 109 = .ok (.getfield 26, 3) := by decide +kernel
theorem dX5_obeysGroup_112 : decode cX5_obeysGroup 112 = .ok (.iload_n 2, 1) := by decide +kernel
theorem dX5_obeysGroup_113 : decode cX5_obeysGroup 113 = .ok (.iload 6, 2) := by decide +kernel
theorem dX5_obeysGroup_115 : decode cX5_obeysGroup 115 = .ok (.iload 5, 2) := by decide +kernel
theorem dX5_obeysGroup_117 : decode cX5_obeysGroup 117 = .ok (.invokevirtual 104, 3) := by decide +kernel
theorem dX5_obeysGroup_120 : decode cX5_obeysGroup 120 = .ok (.iconst (-1), 1) := by decide +kernel
theorem dX5_obeysGroup_121 : decode cX5_obeysGroup 121 = .ok (.if_icmp .eq 7, 3) := by decide +kernel
theorem dX5_obeysGroup_124 : decode cX5_obeysGroup 124 = .ok (.iconst 1, 1) := by decide +kernel
theorem dX5_obeysGroup_125 : decode cX5_obeysGroup 125 = .ok (.goto 4, 3) := by decide +kernel
theorem dX5_obeysGroup_128 : decode cX5_obeysGroup 128 = .ok (.iconst 0, 1) := by decide +kernel
theorem dX5_obeysGroup_129 : decode cX5_obeysGroup 129 = .ok (.ireturn, 1) := by decide +kernel
theorem dX5_obeysGroup_130 : decode cX5_obeysGroup 130 = .ok (.iload 5, 2) := by decide +kernel
theorem dX5_obeysGroup_132 : decode cX5_obeysGroup 132 = .ok (.ifCond .ne 21, 3) := by decide +kernel
theorem dX5_obeysGroup_135 : decode cX5_obeysGroup 135 = .ok (.aload_n 0, 1) := by decide +kernel
theorem dX5_obeysGroup_136 : decode cX5_obeysGroup 136 = .ok (.getfield 26, 3) := by decide +kernel
theorem dX5_obeysGroup_139 : decode cX5_obeysGroup 139 = .ok (.iload_n 2, 1) := by decide +kernel
theorem dX5_obeysGroup_140 : decode cX5_obeysGroup 140 = .ok (.iload 6, 2) := by decide +kernel
theorem dX5_obeysGroup_142 : decode cX5_obeysGroup 142 = .ok (.invokevirtual 108, 3) := by decide +kernel
theorem dX5_obeysGroup_145 : decode cX5_obeysGroup 145 = .ok (.iconst (-1), 1) := by decide +kernel
theorem dX5_obeysGroup_146 : decode cX5_obeysGroup 146 = .ok (.if_icmp .eq 7, 3) := by decide +kernel
theorem dX5_obeysGroup_149 : decode cX5_obeysGroup 149 = .ok (.iconst 1, 1) := by decide +kernel
theorem dX5_obeysGroup_150 : decode cX5_obeysGroup 150 = .ok (.goto 4, 3) := by decide +kernel
theorem dX5_obeysGroup_153 : decode cX5_obeysGroup 153 = .ok (.iconst 0, 1) := by decide +kernel
theorem dX5_obeysGroup_154 : decode cX5_obeysGroup 154 = .ok (.ireturn, 1) := by decide +kernel
theorem dX5_obeysGroup_155 : decode cX5_obeysGroup 155 = .ok (.iload_n 2, 1) := by decide +kernel
theorem dX5_obeysGroup_156 : decode cX5_obeysGroup 156 = .ok (.ifCond .ne 24, 3) := by decide +kernel
theorem dX5_obeysGroup_159 : decode cX5_obeysGroup 159 = .ok (.iload_n 3, 1) := by decide +kernel
theorem dX5_obeysGroup_160 : decode cX5_obeysGroup 160 = .ok (.ifCond .ne 20, 3) := by decide +kernel
theorem dX5_obeysGroup_163 : decode cX5_obeysGroup 163 = .ok (.aload_n 0, 1) := by decide +kernel
theorem dX5_obeysGroup_164 : decode cX5_obeysGroup 164 = .ok (.getfield 26, 3) := by decide +kernel
theorem dX5_obeysGroup_167 : decode cX5_obeysGroup 167 = .ok (.iload 7, 2) := by decide +kernel
theorem dX5_obeysGroup_169 : decode cX5_obeysGroup 169 = .ok (.invokevirtual 115, 3) := by decide +kernel
theorem dX5_obeysGroup_172 : decode cX5_obeysGroup 172 = .ok (.iconst (-1), 1) := by decide +kernel
theorem dX5_obeysGroup_173 : decode cX5_obeysGroup 173 = .ok (.if_icmp .eq 7, 3) := by decide +kernel
theorem dX5_obeysGroup_176 : decode cX5_obeysGroup 176 = .ok (.iconst 1, 1) := by decide +kernel
theorem dX5_obeysGroup_177 : decode cX5_obeysGroup 177 = .ok (.goto 4, 3) := by decide +kernel
theorem dX5_obeysGroup_180 : decode cX5_obeysGroup 180 = .ok (.iconst 0, 1) := by decide +kernel
theorem dX5_obeysGroup_181 : decode cX5_obeysGroup 181 = .ok (.ireturn, 1) := by decide +kernel
theorem dX5_obeysGroup_182 : decode cX5_obeysGroup 182 = .ok (.iload_n 3, 1) := by decide +kernel
theorem dX5_obeysGroup_183 : decode cX5_obeysGroup 183 = .ok (.ifCond .ne 21, 3) := by decide +kernel
theorem dX5_obeysGroup_186 : decode cX5_obeysGroup 186 = .ok (.aload_n 0, 1) := by decide +kernel
theorem dX5_obeysGroup_187 : decode cX5_obeysGroup 187 = .ok (.getfield 26, 3) := by decide +kernel
theorem dX5_obeysGroup_190 : decode cX5_obeysGroup 190 = .ok (.iload_n 2, 1) := by decide +kernel
theorem dX5_obeysGroup_191 : decode cX5_obeysGroup 191 = .ok (.iload 7, 2) := by decide +kernel
theorem dX5_obeysGroup_193 : decode cX5_obeysGroup 193 = .ok (.invokevirtual 112, 3) := by decide +kernel
theorem dX5_obeysGroup_196 : decode cX5_obeysGroup 196 = .ok (.iconst (-1), 1) := by decide +kernel
theorem dX5_obeysGroup_197 : decode cX5_obeysGroup 197 = .ok (.if_icmp .eq 7, 3) := by decide +kernel
theorem dX5_obeysGroup_200 : decode cX5_obeysGroup 200 = .ok (.iconst 1, 1) := by decide +kernel
theorem dX5_obeysGroup_201 : decode cX5_obeysGroup 201 = .ok (.goto 4, 3) := by decide +kernel
theorem dX5_obeysGroup_204 : decode cX5_obeysGroup 204 = .ok (.iconst 0, 1) := by decide +kernel
theorem dX5_obeysGroup_205 : decode cX5_obeysGroup 205 = .ok (.ireturn, 1) := by decide +kernel
theorem dX5_obeysGroup_206 : decode cX5_obeysGroup 206 = .ok (.iload_n 2, 1) := by decide +kernel
theorem dX5_obeysGroup_207 : decode cX5_obeysGroup 207 = .ok (.ifCond .ne 25, 3) := by decide +kernel
theorem dX5_obeysGroup_210 : decode cX5_obeysGroup 210 = .ok (.iload 5, 2) := by decide +kernel
theorem dX5_obeysGroup_212 : decode cX5_obeysGroup 212 = .ok (.ifCond .ne 20, 3) := by decide +kernel
theorem dX5_obeysGroup_215 : decode cX5_obeysGroup 215 = .ok (.aload_n 0, 1) := by decide +kernel
theorem dX5_obeysGroup_216 : decode cX5_obeysGroup 216 = .ok (.getfield 26, 3) := by decide +kernel
theorem dX5_obeysGroup_219 : decode cX5_obeysGroup 219 = .ok (.iload 6, 2) := by decide +kernel
theorem dX5_obeysGroup_221 : decode cX5_obeysGroup 221 = .ok (.invokevirtual 119, 3) := by decide +kernel
theorem dX5_obeysGroup_224 : decode cX5_obeysGroup 224 = .ok (.iconst (-1), 1) := by decide +kernel
theorem dX5_obeysGroup_225 : decode cX5_obeysGroup 225 = .ok (.if_icmp .eq 7, 3) := by decide +kernel
theorem dX5_obeysGroup_228 : decode cX5_obeysGroup 228 = .ok (.iconst 1, 1) := by decide +kernel
theorem dX5_obeysGroup_229 : decode cX5_obeysGroup 229 = .ok (.goto 4, 3) := by decide +kernel
theorem dX5_obeysGroup_232 : decode cX5_obeysGroup 232 = .ok (.iconst 0, 1) := by decide +kernel
theorem dX5_obeysGroup_233 : decode cX5_obeysGroup 233 = .ok (.ireturn, 1) := by decide +kernel
theorem dX5_obeysGroup_234 : decode cX5_obeysGroup 234 = .ok (.iload 5, 2) := by decide +kernel
theorem dX5_obeysGroup_236 : decode cX5_obeysGroup 236 = .ok (.ifCond .ne 35, 3) := by decide +kernel
theorem dX5_obeysGroup_239 : decode cX5_obeysGroup 239 = .ok (.iload_n 2, 1) := by decide +kernel
theorem dX5_obeysGroup_240 : decode cX5_obeysGroup 240 = .ok (.invokestatic 154, 3) := by decide +kernel
theorem dX5_obeysGroup_243 : decode cX5_obeysGroup 243 = .ok (.ifCond .eq 28, 3) := by decide +kernel
theorem dX5_obeysGroup_246 : decode cX5_obeysGroup 246 = .ok (.iload 6, 2) := by decide +kernel
theorem dX5_obeysGroup_248 : decode cX5_obeysGroup 248 = .ok (.invokestatic 162, 3) := by decide +kernel
theorem dX5_obeysGroup_251 : decode cX5_obeysGroup 251 = .ok (.ifCond .eq 20, 3) := by decide +kernel
theorem dX5_obeysGroup_254 : decode cX5_obeysGroup 254 = .ok (.aload_n 0, 1) := by decide +kernel
theorem dX5_obeysGroup_255 : decode cX5_obeysGroup 255 = .ok (.getfield 26, 3) := by decide +kernel
theorem dX5_obeysGroup_258 : decode cX5_obeysGroup 258 = .ok (.iload_n 2, 1) := by decide +kernel
theorem dX5_obeysGroup_259 : decode cX5_obeysGroup 259 = .ok (.iload 6, 2) := by decide +kernel
theorem dX5_obeysGroup_261 : decode cX5_obeysGroup 261 = .ok (.invokevirtual 256, 3) := by decide +kernel
theorem dX5_obeysGroup_264 : decode cX5_obeysGroup 264 = .ok (.ifCond .eq 7, 3) := by decide +kernel
theorem dX5_obeysGroup_267 : decode cX5_obeysGroup 267 = .ok (.iconst 1, 1) := by decide +kernel
theorem dX5_obeysGroup_268 : decode cX5_obeysGroup 268 = .ok (.goto 4, 3) := by decide +kernel
theorem dX5_obeysGroup_271 : decode cX5_obeysGroup 271 = .ok (.iconst 0, 1) := by decide +kernel
theorem dX5_obeysGroup_272 : decode cX5_obeysGroup 272 = .ok (.ireturn, 1) := by decide +kernel
theorem dX5_obeysGroup_273 : decode cX5_obeysGroup 273 = .ok (.iload_n 2, 1) := by decide +kernel
theorem dX5_obeysGroup_274 : decode cX5_obeysGroup 274 = .ok (.ifCond .ne 23, 3) := by decide +kernel
theorem dX5_obeysGroup_277 : decode cX5_obeysGroup 277 = .ok (.iload_n 3, 1) := by decide +kernel
theorem dX5_obeysGroup_278 : decode cX5_obeysGroup 278 = .ok (.ifCond .ne 19, 3) := by decide +kernel
theorem dX5_obeysGroup_281 : decode cX5_obeysGroup 281 = .ok (.aload_n 0, 1) := by decide +kernel
theorem dX5_obeysGroup_282 : decode cX5_obeysGroup 282 = .ok (.getfield 26, 3) := by decide +kernel
theorem dX5_obeysGroup_285 : decode cX5_obeysGroup 285 = .ok (.getfield 259, 3) := by decide +kernel
theorem dX5_obeysGroup_288 : decode cX5_obeysGroup 288 = .ok (.iload 7, 2) := by decide +kernel
theorem dX5_obeysGroup_290 : decode cX5_obeysGroup 290 = .ok (.if_icmp .lt 7, 3) := by decide +kernel
theorem dX5_obeysGroup_293 : decode cX5_obeysGroup 293 = .ok (.iconst 1, 1) := by decide +kernel
theorem dX5_obeysGroup_294 : decode cX5_obeysGroup 294 = .ok (.goto 4, 3) := by decide +kernel
theorem dX5_obeysGroup_297 : decode cX5_obeysGroup 297 = .ok (.iconst 0, 1) := by decide +kernel
theorem dX5_obeysGroup_298 : decode cX5_obeysGroup 298 = .ok (.ireturn, 1) := by decide +kernel
theorem dX5_obeysGroup_299 : decode cX5_obeysGroup 299 = .ok (.iload_n 2, 1) := by decide +kernel
theorem dX5_obeysGroup_300 : decode cX5_obeysGroup 300 = .ok (.ifCond .ne 31, 3) := by decide +kernel
theorem dX5_obeysGroup_303 : decode cX5_obeysGroup 303 = .ok (.iload_n 3, 1) := by decide +kernel
theorem dX5_obeysGroup_304 : decode cX5_obeysGroup 304 = .ok (.ifCond .ne 27, 3) := by decide +kernel
theorem dX5_obeysGroup_307 : decode cX5_obeysGroup 307 = .ok (.iload 4, 2) := by decide +kernel
theorem dX5_obeysGroup_309 : decode cX5_obeysGroup 309 = .ok (.ifCond .ne 22, 3) := by decide +kernel
theorem dX5_obeysGroup_312 : decode cX5_obeysGroup 312 = .ok (.aload_n 0, 1) := by decide +kernel
theorem dX5_obeysGroup_313 : decode cX5_obeysGroup 313 = .ok (.getfield 26, 3) := by decide +kernel
theorem dX5_obeysGroup_316 : decode cX5_obeysGroup 316 = .ok (.getfield 147, 3) := by decide +kernel
theorem dX5_obeysGroup_319 : decode cX5_obeysGroup 319 = .ok (.getfield 262, 3) := by decide +kernel
theorem dX5_obeysGroup_322 : decode cX5_obeysGroup 322 = .ok (.iload 5, 2) := by decide +kernel
theorem dX5_obeysGroup_324 : decode cX5_obeysGroup 324 = .ok (.if_icmp .gt 7, 3) := by decide +kernel
theorem dX5_obeysGroup_327 : decode cX5_obeysGroup 327 = .ok (.iconst 1, 1) := by decide +kernel
theorem dX5_obeysGroup_328 : decode cX5_obeysGroup 328 = .ok (.goto 4, 3) := by decide +kernel
theorem dX5_obeysGroup_331 : decode cX5_obeysGroup 331 = .ok (.iconst 0, 1) := by decide +kernel
theorem dX5_obeysGroup_332 : decode cX5_obeysGroup 332 = .ok (.ireturn, 1) := by decide +kernel
theorem dX5_obeysGroup_333 : decode cX5_obeysGroup 333 = .ok (.iload_n 2, 1) := by decide +kernel
theorem dX5_obeysGroup_334 : decode cX5_obeysGroup 334 = .ok (.ifCond .ne 24, 3) := by decide +kernel
theorem dX5_obeysGroup_337 : decode cX5_obeysGroup 337 = .ok (.iload_n 3, 1) := by decide +kernel
theorem dX5_obeysGroup_338 : decode cX5_obeysGroup 338 = .ok (.ifCond .ne 20, 3) := by decide +kernel
theorem dX5_obeysGroup_341 : decode cX5_obeysGroup 341 = .ok (.aload_n 0, 1) := by decide +kernel
theorem dX5_obeysGroup_342 : decode cX5_obeysGroup 342 = .ok (.getfield 26, 3) := by decide +kernel
theorem dX5_obeysGroup_345 : decode cX5_obeysGroup 345 = .ok (.iconst 0, 1) := by decide +kernel
theorem dX5_obeysGroup_346 : decode cX5_obeysGroup 346 = .ok (.invokevirtual 222, 3) := by decide +kernel
theorem dX5_obeysGroup_349 : decode cX5_obeysGroup 349 = .ok (.iload 7, 2) := by decide +kernel
theorem dX5_obeysGroup_351 : decode cX5_obeysGroup 351 = .ok (.if_icmp .ne 7, 3) := by decide +kernel
theorem dX5_obeysGroup_354 : decode cX5_obeysGroup 354 = .ok (.iconst 1, 1) := by decide +kernel
theorem dX5_obeysGroup_355 : decode cX5_obeysGroup 355 = .ok (.goto 4, 3) := by decide +kernel
theorem dX5_obeysGroup_358 : decode cX5_obeysGroup 358 = .ok (.iconst 0, 1) := by decide +kernel
theorem dX5_obeysGroup_359 : decode cX5_obeysGroup 359 = .ok (.ireturn, 1) := by decide +kernel
theorem dX5_obeysGroup_360 : decode cX5_obeysGroup 360 = .ok (.iconst 0, 1) := by decide +kernel
theorem dX5_obeysGroup_361 : decode cX5_obeysGroup 361 = .ok (.ireturn, 1) := by decide +kernel
set_option maxRecDepth 20000 in
theorem ggX5_simulate_X1_copyFrom : GoodIn wsX5_simulate wsX1_copyFrom := goodIn_r _ [11, 12, 13, 14, 15, 16, 17, 18, 19, 20, 21, 22, 23, 24, 25, 26, 27, 28, 29, 30, 31, 32, 33, 34, 35, 36, 37, 38, 39, 40, 41, 42, 43, 44, 45, 46, 173, 174, 175, 176, 177, 178, 179, 180, 181, 182, 183, 184, 185, 186, 187, 188, 189, 190, 191, 192, 193] (by decide +kernel) (by decide +kernel)
set_option maxRecDepth 20000 in
theorem gX5_simulate_X1_copyFrom : GoodIn wsX5_simulate (wsV RX5 72 RX1 yX1_copyFrom wsX1_copyFrom) := goodIn_app (goodIn_of _ (by decide +kernel)) ggX5_simulate_X1_copyFrom
set_option maxRecDepth 20000 in
theorem ggX5_simulate_X5_simulateTurn : GoodIn wsX5_simulate wsX5_simulateTurn := goodIn_r _ [50, 3, 51, 52, 53, 10, 54, 55, 37, 56, 57, 58, 59, 60, 13, 61, 62, 63, 64, 65, 66, 67, 32, 68, 34, 69, 70, 71, 72, 73, 74, 75, 76, 77, 78, 35, 79, 80, 81, 82, 83, 84, 85, 86, 87, 88, 89, 90, 91, 17, 92, 93, 94, 95, 96, 97, 98, 99, 100, 101, 28, 102, 103, 104, 105, 106, 107, 108, 109, 110, 44, 45, 46, 111, 112, 113, 114, 115, 25, 18, 22, 116, 40, 41, 42, 117, 118, 119, 120, 121, 122, 19, 20, 123, 124, 125, 126, 21, 27, 127, 128, 129, 130, 131, 132, 133, 134, 135, 136, 137, 138, 139, 140, 141, 14, 142, 143, 144, 145, 146, 147, 148, 149, 12, 150, 151, 152, 153, 154, 155, 156, 157, 158, 159, 160, 161, 162, 15, 26, 16, 23, 24, 163, 164, 165, 166, 167, 168, 169, 170, 171, 172, 173, 174, 175, 176, 177, 178, 179, 180, 181, 182, 183, 184, 185, 186, 187, 188, 189, 190, 191, 192, 193] (by decide +kernel) (by decide +kernel)
set_option maxRecDepth 20000 in
theorem gX5_simulate_X5_simulateTurn : GoodIn wsX5_simulate (wsV RX5 271 RX5 yX5_simulateTurn wsX5_simulateTurn) := goodIn_app (goodIn_of _ (by decide +kernel)) ggX5_simulate_X5_simulateTurn
theorem dX5_simulate_0 : decode cX5_simulate 0 = .ok (.iload_n 3, 1) := by decide +kernel
theorem dX5_simulate_1 : decode cX5_simulate 1 = .ok (.iconst 1, 1) := by decide +kernel
theorem dX5_simulate_2 : decode cX5_simulate 2 = .ok (.if_icmp .lt 9, 3) := by decide +kernel
theorem dX5_simulate_5 : decode cX5_simulate 5 = .ok (.iload_n 3, 1) := by decide +kernel
theorem dX5_simulate_6 : decode cX5_simulate 6 = .ok (.bipush 60, 2) := by decide +kernel
theorem dX5_simulate_8 : decode cX5_simulate 8 = .ok (.if_icmp .le 14, 3) := by decide +kernel
theorem dX5_simulate_11 : decode cX5_simulate 11 = .ok (.new 43, 3) := by decide +kernel
theorem dX5_simulate_14 : decode cX5_simulate 14 = .ok (.dup, 1) := by decide +kernel
theorem dX5_simulate_15 : decode cX5_simulate 15 = .ok (.ldc_w 265, 3) := by decide +kernel
theorem dX5_simulate_18 : decode cX5_simulate 18 = .ok (.invokespecial 47, 3) := by decide +kernel
theorem dX5_simulate_21 : decode cX5_simulate 21 = .ok (.athrow, 1) := by decide +kernel
theorem dX5_simulate_22 : decode cX5_simulate 22 = .ok (.aload_n 0, 1) := by decide +kernel
theorem dX5_simulate_23 : decode cX5_simulate 23 = .ok (.getfield 26, 3) := by decide +kernel
theorem dX5_simulate_26 : decode cX5_simulate 26 = .ok (.aload_n 0, 1) := by decide +kernel
theorem dX5_simulate_27 : decode cX5_simulate 27 = .ok (.getfield 19, 3) := by decide +kernel
theorem dX5_simulate_30 : decode cX5_simulate 30 = .ok (.invokevirtual 72, 3) := by decide +kernel
theorem dX5_simulate_33 : decode cX5_simulate 33 = .ok (.lload_n 1, 1) := by decide +kernel
theorem dX5_simulate_34 : decode cX5_simulate 34 = .ok (.lstore 4, 2) := by decide +kernel
theorem dX5_simulate_36 : decode cX5_simulate 36 = .ok (.iconst 0, 1) := by decide +kernel
theorem dX5_simulate_37 : decode cX5_simulate 37 = .ok (.istore 6, 2) := by decide +kernel
theorem dX5_simulate_39 : decode cX5_simulate 39 = .ok (.iload 6, 2) := by decide +kernel
theorem dX5_simulate_41 : decode cX5_simulate 41 = .ok (.iload_n 3, 1) := by decide +kernel
theorem dX5_simulate_42 : decode cX5_simulate 42 = .ok (.if_icmp .ge 31, 3) := by decide +kernel
theorem dX5_simulate_45 : decode cX5_simulate 45 = .ok (.lload 4, 2) := by decide +kernel
theorem dX5_simulate_47 : decode cX5_simulate 47 = .ok (.ldc2_w 267, 3) := by decide +kernel
theorem dX5_simulate_50 : decode cX5_simulate 50 = .ok (.lmul, 1) := by decide +kernel
theorem dX5_simulate_51 : decode cX5_simulate 51 = .ok (.ldc2_w 269, 3) := by decide +kernel
theorem dX5_simulate_54 : decode cX5_simulate 54 = .ok (.ladd, 1) := by decide +kernel
theorem dX5_simulate_55 : decode cX5_simulate 55 = .ok (.lstore 4, 2) := by decide +kernel
theorem dX5_simulate_57 : decode cX5_simulate 57 = .ok (.aload_n 0, 1) := by decide +kernel
theorem dX5_simulate_58 : decode cX5_simulate 58 = .ok (.lload 4, 2) := by decide +kernel
theorem dX5_simulate_60 : decode cX5_simulate 60 = .ok (.bipush 33, 2) := by decide +kernel
theorem dX5_simulate_62 : decode cX5_simulate 62 = .ok (.lushr, 1) := by decide +kernel
theorem dX5_simulate_63 : decode cX5_simulate 63 = .ok (.l2i, 1) := by decide +kernel
theorem dX5_simulate_64 : decode cX5_simulate 64 = .ok (.invokevirtual 271, 3) := by decide +kernel
theorem dX5_simulate_67 : decode cX5_simulate 67 = .ok (.iinc 6 1, 3) := by decide +kernel
theorem dX5_simulate_70 : decode cX5_simulate 70 = .ok (.goto (-31), 3) := by decide +kernel
theorem dX5_simulate_73 : decode cX5_simulate 73 = .ok (.aload_n 0, 1) := by decide +kernel
theorem dX5_simulate_74 : decode cX5_simulate 74 = .ok (.getfield 26, 3) := by decide +kernel
theorem dX5_simulate_77 : decode cX5_simulate 77 = .ok (.getfield 275, 3) := by decide +kernel
theorem dX5_simulate_80 : decode cX5_simulate 80 = .ok (.aload_n 0, 1) := by decide +kernel
theorem dX5_simulate_81 : decode cX5_simulate 81 = .ok (.getfield 19, 3) := by decide +kernel
theorem dX5_simulate_84 : decode cX5_simulate 84 = .ok (.getfield 275, 3) := by decide +kernel
theorem dX5_simulate_87 : decode cX5_simulate 87 = .ok (.isub, 1) := by decide +kernel
theorem dX5_simulate_88 : decode cX5_simulate 88 = .ok (.istore 6, 2) := by decide +kernel
theorem dX5_simulate_90 : decode cX5_simulate 90 = .ok (.aload_n 0, 1) := by decide +kernel
theorem dX5_simulate_91 : decode cX5_simulate 91 = .ok (.getfield 26, 3) := by decide +kernel
theorem dX5_simulate_94 : decode cX5_simulate 94 = .ok (.getfield 229, 3) := by decide +kernel
theorem dX5_simulate_97 : decode cX5_simulate 97 = .ok (.aload_n 0, 1) := by decide +kernel
theorem dX5_simulate_98 : decode cX5_simulate 98 = .ok (.getfield 19, 3) := by decide +kernel
theorem dX5_simulate_101 : decode cX5_simulate 101 = .ok (.getfield 229, 3) := by decide +kernel
theorem dX5_simulate_104 : decode cX5_simulate 104 = .ok (.isub, 1) := by decide +kernel
theorem dX5_simulate_105 : decode cX5_simulate 105 = .ok (.istore 7, 2) := by decide +kernel
theorem dX5_simulate_107 : decode cX5_simulate 107 = .ok (.sipush 10000, 3) := by decide +kernel
theorem dX5_simulate_110 : decode cX5_simulate 110 = .ok (.iload 6, 2) := by decide +kernel
theorem dX5_simulate_112 : decode cX5_simulate 112 = .ok (.sipush 10000, 3) := by decide +kernel
theorem dX5_simulate_115 : decode cX5_simulate 115 = .ok (.irem, 1) := by decide +kernel
theorem dX5_simulate_116 : decode cX5_simulate 116 = .ok (.imul, 1) := by decide +kernel
theorem dX5_simulate_117 : decode cX5_simulate 117 = .ok (.bipush 100, 2) := by decide +kernel
theorem dX5_simulate_119 : decode cX5_simulate 119 = .ok (.iload 7, 2) := by decide +kernel
theorem dX5_simulate_121 : decode cX5_simulate 121 = .ok (.bipush 100, 2) := by decide +kernel
theorem dX5_simulate_123 : decode cX5_simulate 123 = .ok (.irem, 1) := by decide +kernel
theorem dX5_simulate_124 : decode cX5_simulate 124 = .ok (.imul, 1) := by decide +kernel
theorem dX5_simulate_125 : decode cX5_simulate 125 = .ok (.iadd, 1) := by decide +kernel
theorem dX5_simulate_126 : decode cX5_simulate 126 = .ok (.aload_n 0, 1) := by decide +kernel
theorem dX5_simulate_127 : decode cX5_simulate 127 = .ok (.getfield 26, 3) := by decide +kernel
theorem dX5_simulate_130 : decode cX5_simulate 130 = .ok (.getfield 127, 3) := by decide +kernel
theorem dX5_simulate_133 : decode cX5_simulate 133 = .ok (.getfield 262, 3) := by decide +kernel
theorem dX5_simulate_136 : decode cX5_simulate 136 = .ok (.iadd, 1) := by decide +kernel
theorem dX5_simulate_137 : decode cX5_simulate 137 = .ok (.ireturn, 1) := by decide +kernel
set_option maxRecDepth 20000 in
theorem ggX5_simulateTurn_X1_orderPut : GoodIn wsX5_simulateTurn wsX1_orderPut := goodIn_r _ [6, 7, 8, 9, 10, 11, 12, 5, 13, 14, 15, 16, 17, 18, 19, 20, 21, 22, 23, 24, 25, 26, 27, 28, 29, 30, 31, 32, 33, 34, 35, 36, 37, 38, 39, 40, 152, 153, 154, 155, 156, 157, 158, 159, 160, 161, 162, 163, 164, 165, 166, 167, 168, 169, 170, 171, 172] (by decide +kernel) (by decide +kernel)
set_option maxRecDepth 20000 in
theorem gX5_simulateTurn_X1_orderPut : GoodIn wsX5_simulateTurn (wsV RX5 104 RX1 yX1_orderPut wsX1_orderPut) := goodIn_app (goodIn_of _ (by decide +kernel)) ggX5_simulateTurn_X1_orderPut
set_option maxRecDepth 20000 in
theorem ggX5_simulateTurn_X1_orderPull : GoodIn wsX5_simulateTurn wsX1_orderPull := goodIn_r _ [44, 10, 11, 12, 5, 13, 14, 15, 8, 16, 17, 18, 19, 20, 21, 22, 23, 24, 25, 26, 27, 28, 29, 30, 31, 32, 33, 34, 35, 36, 37, 38, 39, 40, 152, 153, 154, 155, 156, 157, 158, 159, 160, 161, 162, 163, 164, 165, 166, 167, 168, 169, 170, 171, 172] (by decide +kernel) (by decide +kernel)
set_option maxRecDepth 20000 in
theorem gX5_simulateTurn_X1_orderPull : GoodIn wsX5_simulateTurn (wsV RX5 108 RX1 yX1_orderPull wsX1_orderPull) := goodIn_app (goodIn_of _ (by decide +kernel)) ggX5_simulateTurn_X1_orderPull
set_option maxRecDepth 20000 in
theorem ggX5_simulateTurn_X1_change : GoodIn wsX5_simulateTurn wsX1_change := goodIn_r _ [48, 49, 50, 8, 51, 52, 53, 54, 55, 152, 153, 154, 155, 156, 157, 158, 159, 160, 161, 162, 163, 164, 165, 166, 167, 168] (by decide +kernel) (by decide +kernel)
set_option maxRecDepth 20000 in
theorem gX5_simulateTurn_X1_change : GoodIn wsX5_simulateTurn (wsV RX5 112 RX1 yX1_change wsX1_change) := goodIn_app (goodIn_of _ (by decide +kernel)) ggX5_simulateTurn_X1_change
set_option maxRecDepth 20000 in
theorem ggX5_simulateTurn_X1_dropOrder : GoodIn wsX5_simulateTurn wsX1_dropOrder := goodIn_r _ [59, 14, 60, 61, 62, 63, 22, 64, 24, 65, 66, 67, 68, 36, 35, 69, 70, 71, 72, 73, 152, 153, 154, 155, 156, 157, 158, 159, 160, 161, 162, 163, 164, 165, 166, 167, 168, 169, 170, 171, 172] (by decide +kernel) (by decide +kernel)
set_option maxRecDepth 20000 in
theorem gX5_simulateTurn_X1_dropOrder : GoodIn wsX5_simulateTurn (wsV RX5 119 RX1 yX1_dropOrder wsX1_dropOrder) := goodIn_app (goodIn_of _ (by decide +kernel)) ggX5_simulateTurn_X1_dropOrder
set_option maxRecDepth 20000 in
theorem ggX5_simulateTurn_X1_play : GoodIn wsX5_simulateTurn wsX1_play := goodIn_r _ [77, 78, 79, 80, 49, 81, 82, 83, 84, 85, 8, 86, 87, 88, 89, 5, 90, 91, 92, 93, 94, 95, 96, 14, 97, 98, 99, 100, 101, 102, 103, 104, 105, 22, 106, 35, 36, 37, 38, 39, 40, 25, 107, 108, 109, 110, 111, 112, 113, 114, 15, 16, 31, 32, 33, 34, 115, 116, 117, 118, 119, 120, 121, 122, 123, 124, 125, 126, 127, 19, 20, 21, 23, 24, 26, 27, 28, 29, 30, 128, 129, 130, 131, 65, 66, 67, 68, 69, 70, 71, 72, 73, 62, 63, 64, 132, 57, 58, 59, 60, 61, 133, 134, 135, 136, 137, 138, 139, 140, 141, 142, 143, 144, 145, 152, 153, 154, 155, 156, 157, 158, 159, 160, 161, 162, 163, 164, 165, 166, 167, 168, 169, 170, 171, 172] (by decide +kernel) (by decide +kernel)
set_option maxRecDepth 20000 in
theorem gX5_simulateTurn_X1_play : GoodIn wsX5_simulateTurn (wsV RX5 115 RX1 yX1_play wsX1_play) := goodIn_app (goodIn_of _ (by decide +kernel)) ggX5_simulateTurn_X1_play
theorem dX5_simulateTurn_0 : decode cX5_simulateTurn 0 = .ok (.iload_n 1, 1) := by decide +kernel
theorem dX5_simulateTurn_1 : decode cX5_simulateTurn 1 = .ok (.bipush 8, 2) := by decide +kernel
theorem dX5_simulateTurn_3 : decode cX5_simulateTurn 3 = .ok (.idiv, 1) := by decide +kernel
theorem dX5_simulateTurn_4 : decode cX5_simulateTurn 4 = .ok (.istore_n 2, 1) := by decide +kernel
theorem dX5_simulateTurn_5 : decode cX5_simulateTurn 5 = .ok (.iload_n 1, 1) := by decide +kernel
theorem dX5_simulateTurn_6 : decode cX5_simulateTurn 6 = .ok (.bipush 8, 2) := by decide +kernel
theorem dX5_simulateTurn_8 : decode cX5_simulateTurn 8 = .ok (.irem, 1) := by decide +kernel
theorem dX5_simulateTurn_9 : decode cX5_simulateTurn 9 = .ok (.tableswitch 178 0 5 #[39, 39, 39, 71, 93, 135], 39) := by decide +kernel
theorem dX5_simulateTurn_48 : decode cX5_simulateTurn 48 = .ok (.aload_n 0, 1) := by decide +kernel
theorem dX5_simulateTurn_49 : decode cX5_simulateTurn 49 = .ok (.getfield 26, 3) := by decide +kernel
theorem dX5_simulateTurn_52 : decode cX5_simulateTurn 52 = .ok (.iload_n 2, 1) := by decide +kernel
theorem dX5_simulateTurn_53 : decode cX5_simulateTurn 53 = .ok (.bipush 6, 2) := by decide +kernel
theorem dX5_simulateTurn_55 : decode cX5_simulateTurn 55 = .ok (.irem, 1) := by decide +kernel
theorem dX5_simulateTurn_56 : decode cX5_simulateTurn 56 = .ok (.iload_n 2, 1) := by decide +kernel
theorem dX5_simulateTurn_57 : decode cX5_simulateTurn 57 = .ok (.bipush 8, 2) := by decide +kernel
theorem dX5_simulateTurn_59 : decode cX5_simulateTurn 59 = .ok (.idiv, 1) := by decide +kernel
theorem dX5_simulateTurn_60 : decode cX5_simulateTurn 60 = .ok (.bipush 24, 2) := by decide +kernel
theorem dX5_simulateTurn_62 : decode cX5_simulateTurn 62 = .ok (.irem, 1) := by decide +kernel
theorem dX5_simulateTurn_63 : decode cX5_simulateTurn 63 = .ok (.iconst 1, 1) := by decide +kernel
theorem dX5_simulateTurn_64 : decode cX5_simulateTurn 64 = .ok (.iload_n 2, 1) := by decide +kernel
theorem dX5_simulateTurn_65 : decode cX5_simulateTurn 65 = .ok (.sipush 256, 3) := by decide +kernel
theorem dX5_simulateTurn_68 : decode cX5_simulateTurn 68 = .ok (.idiv, 1) := by decide +kernel
theorem dX5_simulateTurn_69 : decode cX5_simulateTurn 69 = .ok (.bipush 6, 2) := by decide +kernel
theorem dX5_simulateTurn_71 : decode cX5_simulateTurn 71 = .ok (.irem, 1) := by decide +kernel
theorem dX5_simulateTurn_72 : decode cX5_simulateTurn 72 = .ok (.iadd, 1) := by decide +kernel
theorem dX5_simulateTurn_73 : decode cX5_simulateTurn 73 = .ok (.invokevirtual 104, 3) := by decide +kernel
theorem dX5_simulateTurn_76 : decode cX5_simulateTurn 76 = .ok (.pop, 1) := by decide +kernel
theorem dX5_simulateTurn_77 : decode cX5_simulateTurn 77 = .ok (.goto 124, 3) := by decide +kernel
theorem dX5_simulateTurn_80 : decode cX5_simulateTurn 80 = .ok (.aload_n 0, 1) := by decide +kernel
theorem dX5_simulateTurn_81 : decode cX5_simulateTurn 81 = .ok (.getfield 26, 3) := by decide +kernel
theorem dX5_simulateTurn_84 : decode cX5_simulateTurn 84 = .ok (.iload_n 2, 1) := by decide +kernel
theorem dX5_simulateTurn_85 : decode cX5_simulateTurn 85 = .ok (.bipush 6, 2) := by decide +kernel
theorem dX5_simulateTurn_87 : decode cX5_simulateTurn 87 = .ok (.irem, 1) := by decide +kernel
theorem dX5_simulateTurn_88 : decode cX5_simulateTurn 88 = .ok (.iload_n 2, 1) := by decide +kernel
theorem dX5_simulateTurn_89 : decode cX5_simulateTurn 89 = .ok (.bipush 8, 2) := by decide +kernel
theorem dX5_simulateTurn_91 : decode cX5_simulateTurn 91 = .ok (.idiv, 1) := by decide +kernel
theorem dX5_simulateTurn_92 : decode cX5_simulateTurn 92 = .ok (.bipush 24, 2) := by decide +kernel
theorem dX5_simulateTurn_94 : decode cX5_simulateTurn 94 = .ok (.irem, 1) := by decide +kernel
theorem dX5_simulateTurn_95 : decode cX5_simulateTurn 95 = .ok (.invokevirtual 108, 3) := by decide +kernel
theorem dX5_simulateTurn_98 : decode cX5_simulateTurn 98 = .ok (.pop, 1) := by decide +kernel
theorem dX5_simulateTurn_99 : decode cX5_simulateTurn 99 = .ok (.goto 102, 3) := by decide +kernel
theorem dX5_simulateTurn_102 : decode cX5_simulateTurn 102 = .ok (.iload_n 2, 1) := by decide +kernel
theorem dX5_simulateTurn_103 : decode cX5_simulateTurn 103 = .ok (.iconst 4, 1) := by decide +kernel
theorem dX5_simulateTurn_104 : decode cX5_simulateTurn 104 = .ok (.idiv, 1) := by decide +kernel
theorem dX5_simulateTurn_105 : decode cX5_simulateTurn 105 = .ok (.iconst 2, 1) := by decide +kernel
theorem dX5_simulateTurn_106 : decode cX5_simulateTurn 106 = .ok (.irem, 1) := by decide +kernel
theorem dX5_simulateTurn_107 : decode cX5_simulateTurn 107 = .ok (.ifCond .ne 18, 3) := by decide +kernel
theorem dX5_simulateTurn_110 : decode cX5_simulateTurn 110 = .ok (.aload_n 0, 1) := by decide +kernel
theorem dX5_simulateTurn_111 : decode cX5_simulateTurn 111 = .ok (.getfield 26, 3) := by decide +kernel
theorem dX5_simulateTurn_114 : decode cX5_simulateTurn 114 = .ok (.iconst 0, 1) := by decide +kernel
theorem dX5_simulateTurn_115 : decode cX5_simulateTurn 115 = .ok (.iload_n 2, 1) := by decide +kernel
theorem dX5_simulateTurn_116 : decode cX5_simulateTurn 116 = .ok (.iconst 4, 1) := by decide +kernel
theorem dX5_simulateTurn_117 : decode cX5_simulateTurn 117 = .ok (.irem, 1) := by decide +kernel
theorem dX5_simulateTurn_118 : decode cX5_simulateTurn 118 = .ok (.invokevirtual 112, 3) := by decide +kernel
theorem dX5_simulateTurn_121 : decode cX5_simulateTurn 121 = .ok (.pop, 1) := by decide +kernel
theorem dX5_simulateTurn_122 : decode cX5_simulateTurn 122 = .ok (.goto 79, 3) := by decide +kernel
theorem dX5_simulateTurn_125 : decode cX5_simulateTurn 125 = .ok (.aload_n 0, 1) := by decide +kernel
theorem dX5_simulateTurn_126 : decode cX5_simulateTurn 126 = .ok (.getfield 26, 3) := by decide +kernel
theorem dX5_simulateTurn_129 : decode cX5_simulateTurn 129 = .ok (.iconst 1, 1) := by decide +kernel
theorem dX5_simulateTurn_130 : decode cX5_simulateTurn 130 = .ok (.iload_n 2, 1) := by decide +kernel
theorem dX5_simulateTurn_131 : decode cX5_simulateTurn 131 = .ok (.bipush 8, 2) := by decide +kernel
theorem dX5_simulateTurn_133 : decode cX5_simulateTurn 133 = .ok (.idiv, 1) := by decide +kernel
theorem dX5_simulateTurn_134 : decode cX5_simulateTurn 134 = .ok (.bipush 10, 2) := by decide +kernel
theorem dX5_simulateTurn_136 : decode cX5_simulateTurn 136 = .ok (.irem, 1) := by decide +kernel
theorem dX5_simulateTurn_137 : decode cX5_simulateTurn 137 = .ok (.invokevirtual 112, 3) := by decide +kernel
theorem dX5_simulateTurn_140 : decode cX5_simulateTurn 140 = .ok (.pop, 1) := by decide +kernel
theorem dX5_simulateTurn_141 : decode cX5_simulateTurn 141 = .ok (.goto 60, 3) := by decide +kernel
theorem dX5_simulateTurn_144 : decode cX5_simulateTurn 144 = .ok (.iload_n 2, 1) := by decide +kernel
theorem dX5_simulateTurn_145 : decode cX5_simulateTurn 145 = .ok (.bipush 16, 2) := by decide +kernel
theorem dX5_simulateTurn_147 : decode cX5_simulateTurn 147 = .ok (.idiv, 1) := by decide +kernel
theorem dX5_simulateTurn_148 : decode cX5_simulateTurn 148 = .ok (.iconst 4, 1) := by decide +kernel
theorem dX5_simulateTurn_149 : decode cX5_simulateTurn 149 = .ok (.irem, 1) := by decide +kernel
theorem dX5_simulateTurn_150 : decode cX5_simulateTurn 150 = .ok (.ifCond .ne 18, 3) := by decide +kernel
theorem dX5_simulateTurn_153 : decode cX5_simulateTurn 153 = .ok (.aload_n 0, 1) := by decide +kernel
theorem dX5_simulateTurn_154 : decode cX5_simulateTurn 154 = .ok (.getfield 26, 3) := by decide +kernel
theorem dX5_simulateTurn_157 : decode cX5_simulateTurn 157 = .ok (.iload_n 2, 1) := by decide +kernel
theorem dX5_simulateTurn_158 : decode cX5_simulateTurn 158 = .ok (.bipush 12, 2) := by decide +kernel
theorem dX5_simulateTurn_160 : decode cX5_simulateTurn 160 = .ok (.irem, 1) := by decide +kernel
theorem dX5_simulateTurn_161 : decode cX5_simulateTurn 161 = .ok (.invokevirtual 119, 3) := by decide +kernel
theorem dX5_simulateTurn_164 : decode cX5_simulateTurn 164 = .ok (.pop, 1) := by decide +kernel
theorem dX5_simulateTurn_165 : decode cX5_simulateTurn 165 = .ok (.goto 36, 3) := by decide +kernel
theorem dX5_simulateTurn_168 : decode cX5_simulateTurn 168 = .ok (.aload_n 0, 1) := by decide +kernel
theorem dX5_simulateTurn_169 : decode cX5_simulateTurn 169 = .ok (.getfield 26, 3) := by decide +kernel
theorem dX5_simulateTurn_172 : decode cX5_simulateTurn 172 = .ok (.iconst 2, 1) := by decide +kernel
theorem dX5_simulateTurn_173 : decode cX5_simulateTurn 173 = .ok (.iload_n 2, 1) := by decide +kernel
theorem dX5_simulateTurn_174 : decode cX5_simulateTurn 174 = .ok (.bipush 64, 2) := by decide +kernel
theorem dX5_simulateTurn_176 : decode cX5_simulateTurn 176 = .ok (.idiv, 1) := by decide +kernel
theorem dX5_simulateTurn_177 : decode cX5_simulateTurn 177 = .ok (.bipush 61, 2) := by decide +kernel
theorem dX5_simulateTurn_179 : decode cX5_simulateTurn 179 = .ok (.irem, 1) := by decide +kernel
theorem dX5_simulateTurn_180 : decode cX5_simulateTurn 180 = .ok (.invokevirtual 112, 3) := by decide +kernel
theorem dX5_simulateTurn_183 : decode cX5_simulateTurn 183 = .ok (.pop, 1) := by decide +kernel
theorem dX5_simulateTurn_184 : decode cX5_simulateTurn 184 = .ok (.goto 17, 3) := by decide +kernel
theorem dX5_simulateTurn_187 : decode cX5_simulateTurn 187 = .ok (.aload_n 0, 1) := by decide +kernel
theorem dX5_simulateTurn_188 : decode cX5_simulateTurn 188 = .ok (.getfield 26, 3) := by decide +kernel
theorem dX5_simulateTurn_191 : decode cX5_simulateTurn 191 = .ok (.iconst 1, 1) := by decide +kernel
theorem dX5_simulateTurn_192 : decode cX5_simulateTurn 192 = .ok (.iload_n 2, 1) := by decide +kernel
theorem dX5_simulateTurn_193 : decode cX5_simulateTurn 193 = .ok (.bipush 12, 2) := by decide +kernel
theorem dX5_simulateTurn_195 : decode cX5_simulateTurn 195 = .ok (.irem, 1) := by decide +kernel
theorem dX5_simulateTurn_196 : decode cX5_simulateTurn 196 = .ok (.iadd, 1) := by decide +kernel
theorem dX5_simulateTurn_197 : decode cX5_simulateTurn 197 = .ok (.invokevirtual 115, 3) := by decide +kernel
theorem dX5_simulateTurn_200 : decode cX5_simulateTurn 200 = .ok (.pop, 1) := by decide +kernel
theorem dX5_simulateTurn_201 : decode cX5_simulateTurn 201 = .ok (.return_, 1) := by decide +kernel
set_option maxRecDepth 20000 in
theorem ggX5_save_X3_has : GoodIn wsX5_save wsX3_has := goodIn_r _ [9] (by decide +kernel) (by decide +kernel)
set_option maxRecDepth 20000 in
theorem gX5_save_X3_has : GoodIn wsX5_save (wsV RX5 278 RX3 yX3_has wsX3_has) := goodIn_app (goodIn_of _ (by decide +kernel)) ggX5_save_X3_has
set_option maxRecDepth 20000 in
theorem ggX5_save_X3_store : GoodIn wsX5_save wsX3_store := goodIn_r _ [13, 14, 15, 16, 6, 7, 8, 9, 17, 18, 19, 20, 21, 22, 23, 24, 25, 26, 27, 28, 29, 30, 31, 32, 33, 34, 35, 36, 37, 38, 39, 40, 41, 42, 43, 44, 45, 46, 47, 48, 49, 50, 51, 52, 53, 54, 55, 56, 80, 81, 63, 64, 65, 66, 67, 68, 69, 70, 71, 72, 73, 74, 75, 76, 77, 78, 79, 82, 83, 84, 85] (by decide +kernel) (by decide +kernel)
set_option maxRecDepth 20000 in
theorem gX5_save_X3_store : GoodIn wsX5_save (wsV RX5 281 RX3 yX3_store wsX3_store) := goodIn_app (goodIn_of _ (by decide +kernel)) ggX5_save_X3_store
theorem dX5_save_0 : decode cX5_save 0 = .ok (.aload_n 0, 1) := by decide +kernel
theorem dX5_save_1 : decode cX5_save 1 = .ok (.getfield 39, 3) := by decide +kernel
theorem dX5_save_4 : decode cX5_save 4 = .ok (.iload_n 1, 1) := by decide +kernel
theorem dX5_save_5 : decode cX5_save 5 = .ok (.invokevirtual 278, 3) := by decide +kernel
theorem dX5_save_8 : decode cX5_save 8 = .ok (.ifCond .ne 14, 3) := by decide +kernel
theorem dX5_save_11 : decode cX5_save 11 = .ok (.new 137, 3) := by decide +kernel
theorem dX5_save_14 : decode cX5_save 14 = .ok (.dup, 1) := by decide +kernel
theorem dX5_save_15 : decode cX5_save 15 = .ok (.ldc_w 279, 3) := by decide +kernel
theorem dX5_save_18 : decode cX5_save 18 = .ok (.invokespecial 141, 3) := by decide +kernel
theorem dX5_save_21 : decode cX5_save 21 = .ok (.athrow, 1) := by decide +kernel
theorem dX5_save_22 : decode cX5_save 22 = .ok (.aload_n 0, 1) := by decide +kernel
theorem dX5_save_23 : decode cX5_save 23 = .ok (.getfield 39, 3) := by decide +kernel
theorem dX5_save_26 : decode cX5_save 26 = .ok (.iload_n 1, 1) := by decide +kernel
theorem dX5_save_27 : decode cX5_save 27 = .ok (.aload_n 0, 1) := by decide +kernel
theorem dX5_save_28 : decode cX5_save 28 = .ok (.getfield 19, 3) := by decide +kernel
theorem dX5_save_31 : decode cX5_save 31 = .ok (.invokevirtual 281, 3) := by decide +kernel
theorem dX5_save_34 : decode cX5_save 34 = .ok (.aload_n 0, 1) := by decide +kernel
theorem dX5_save_35 : decode cX5_save 35 = .ok (.getfield 19, 3) := by decide +kernel
theorem dX5_save_38 : decode cX5_save 38 = .ok (.getfield 259, 3) := by decide +kernel
theorem dX5_save_41 : decode cX5_save 41 = .ok (.ireturn, 1) := by decide +kernel
set_option maxRecDepth 20000 in
theorem ggX5_restore_X3_has : GoodIn wsX5_restore wsX3_has := goodIn_r _ [12] (by decide +kernel) (by decide +kernel)
set_option maxRecDepth 20000 in
theorem gX5_restore_X3_has : GoodIn wsX5_restore (wsV RX5 278 RX3 yX3_has wsX3_has) := goodIn_app (goodIn_of _ (by decide +kernel)) ggX5_restore_X3_has
set_option maxRecDepth 20000 in
theorem ggX5_restore_X3_isStored : GoodIn wsX5_restore wsX3_isStored := goodIn_r _ [16, 17, 18, 9, 10, 11, 12, 93, 94] (by decide +kernel) (by decide +kernel)
set_option maxRecDepth 20000 in
theorem gX5_restore_X3_isStored : GoodIn wsX5_restore (wsV RX5 285 RX3 yX3_isStored wsX3_isStored) := goodIn_app (goodIn_of _ (by decide +kernel)) ggX5_restore_X3_isStored
set_option maxRecDepth 20000 in
theorem ggX5_restore_X3_fetch : GoodIn wsX5_restore wsX3_fetch := goodIn_r _ [22, 23, 18, 9, 10, 11, 12, 24, 25, 26, 27, 28, 29, 30, 31, 32, 33, 34, 35, 36, 37, 38, 39, 40, 41, 42, 43, 44, 45, 46, 47, 48, 49, 50, 51, 52, 53, 54, 55, 56, 57, 58, 59, 60, 61, 62, 63, 93, 94, 76, 77, 78, 79, 80, 81, 82, 83, 84, 85, 86, 87, 88, 89, 90, 91, 92, 95, 96, 97, 98] (by decide +kernel) (by decide +kernel)
set_option maxRecDepth 20000 in
theorem gX5_restore_X3_fetch : GoodIn wsX5_restore (wsV RX5 290 RX3 yX3_fetch wsX3_fetch) := goodIn_app (goodIn_of _ (by decide +kernel)) ggX5_restore_X3_fetch
set_option maxRecDepth 20000 in
theorem ggX5_restore_X0_forget : GoodIn wsX5_restore wsX0_forget := goodIn_r _ [68, 69, 99, 100, 101] (by decide +kernel) (by decide +kernel)
set_option maxRecDepth 20000 in
theorem gX5_restore_X0_forget : GoodIn wsX5_restore (wsV RX5 76 RX0 yX0_forget wsX0_forget) := goodIn_app (goodIn_of _ (by decide +kernel)) ggX5_restore_X0_forget
theorem dX5_restore_0 : decode cX5_restore 0 = .ok (.aload_n 0, 1) := by decide +kernel
theorem dX5_restore_1 : decode cX5_restore 1 = .ok (.getfield 39, 3) := by decide +kernel
theorem dX5_restore_4 : decode cX5_restore 4 = .ok (.iload_n 1, 1) := by decide +kernel
theorem dX5_restore_5 : decode cX5_restore 5 = .ok (.invokevirtual 278, 3) := by decide +kernel
theorem dX5_restore_8 : decode cX5_restore 8 = .ok (.ifCond .ne 14, 3) := by decide +kernel
theorem dX5_restore_11 : decode cX5_restore 11 = .ok (.new 137, 3) := by decide +kernel
theorem dX5_restore_14 : decode cX5_restore 14 = .ok (.dup, 1) := by decide +kernel
theorem dX5_restore_15 : decode cX5_restore 15 = .ok (.ldc_w 279, 3) := by decide +kernel
theorem dX5_restore_18 : decode cX5_restore 18 = .ok (.invokespecial 141, 3) := by decide +kernel
theorem dX5_restore_21 : decode cX5_restore 21 = .ok (.athrow, 1) := by decide +kernel
theorem dX5_restore_22 : decode cX5_restore 22 = .ok (.aload_n 0, 1) := by decide +kernel
theorem dX5_restore_23 : decode cX5_restore 23 = .ok (.getfield 39, 3) := by decide +kernel
theorem dX5_restore_26 : decode cX5_restore 26 = .ok (.iload_n 1, 1) := by decide +kernel
theorem dX5_restore_27 : decode cX5_restore 27 = .ok (.invokevirtual 285, 3) := by decide +kernel
theorem dX5_restore_30 : decode cX5_restore 30 = .ok (.ifCond .ne 14, 3) := by decide +kernel
theorem dX5_restore_33 : decode cX5_restore 33 = .ok (.new 54, 3) := by decide +kernel
theorem dX5_restore_36 : decode cX5_restore 36 = .ok (.dup, 1) := by decide +kernel
theorem dX5_restore_37 : decode cX5_restore 37 = .ok (.ldc_w 288, 3) := by decide +kernel
theorem dX5_restore_40 : decode cX5_restore 40 = .ok (.invokespecial 58, 3) := by decide +kernel
theorem dX5_restore_43 : decode cX5_restore 43 = .ok (.athrow, 1) := by decide +kernel
theorem dX5_restore_44 : decode cX5_restore 44 = .ok (.aload_n 0, 1) := by decide +kernel
theorem dX5_restore_45 : decode cX5_restore 45 = .ok (.getfield 39, 3) := by decide +kernel
theorem dX5_restore_48 : decode cX5_restore 48 = .ok (.iload_n 1, 1) := by decide +kernel
theorem dX5_restore_49 : decode cX5_restore 49 = .ok (.aload_n 0, 1) := by decide +kernel
theorem dX5_restore_50 : decode cX5_restore 50 = .ok (.getfield 19, 3) := by decide +kernel
theorem dX5_restore_53 : decode cX5_restore 53 = .ok (.invokevirtual 290, 3) := by decide +kernel
theorem dX5_restore_56 : decode cX5_restore 56 = .ok (.aload_n 0, 1) := by decide +kernel
theorem dX5_restore_57 : decode cX5_restore 57 = .ok (.getfield 32, 3) := by decide +kernel
theorem dX5_restore_60 : decode cX5_restore 60 = .ok (.invokevirtual 76, 3) := by decide +kernel
theorem dX5_restore_63 : decode cX5_restore 63 = .ok (.aload_n 0, 1) := by decide +kernel
theorem dX5_restore_64 : decode cX5_restore 64 = .ok (.getfield 19, 3) := by decide +kernel
theorem dX5_restore_67 : decode cX5_restore 67 = .ok (.getfield 259, 3) := by decide +kernel
theorem dX5_restore_70 : decode cX5_restore 70 = .ok (.ireturn, 1) := by decide +kernel
theorem dX5_isPipe_0 : decode cX5_isPipe 0 = .ok (.iload_n 0, 1) := by decide +kernel
theorem dX5_isPipe_1 : decode cX5_isPipe 1 = .ok (.ifCond .lt 13, 3) := by decide +kernel
theorem dX5_isPipe_4 : decode cX5_isPipe 4 = .ok (.iload_n 0, 1) := by decide +kernel
theorem dX5_isPipe_5 : decode cX5_isPipe 5 = .ok (.bipush 6, 2) := by decide +kernel
theorem dX5_isPipe_7 : decode cX5_isPipe 7 = .ok (.if_icmp .ge 7, 3) := by decide +kernel
theorem dX5_isPipe_10 : decode cX5_isPipe 10 = .ok (.iconst 1, 1) := by decide +kernel
theorem dX5_isPipe_11 : decode cX5_isPipe 11 = .ok (.goto 4, 3) := by decide +kernel
theorem dX5_isPipe_14 : decode cX5_isPipe 14 = .ok (.iconst 0, 1) := by decide +kernel
theorem dX5_isPipe_15 : decode cX5_isPipe 15 = .ok (.ireturn, 1) := by decide +kernel
theorem dX5_isBar_0 : decode cX5_isBar 0 = .ok (.iload_n 0, 1) := by decide +kernel
theorem dX5_isBar_1 : decode cX5_isBar 1 = .ok (.ifCond .lt 13, 3) := by decide +kernel
theorem dX5_isBar_4 : decode cX5_isBar 4 = .ok (.iload_n 0, 1) := by decide +kernel
theorem dX5_isBar_5 : decode cX5_isBar 5 = .ok (.bipush 24, 2) := by decide +kernel
theorem dX5_isBar_7 : decode cX5_isBar 7 = .ok (.if_icmp .ge 7, 3) := by decide +kernel
theorem dX5_isBar_10 : decode cX5_isBar 10 = .ok (.iconst 1, 1) := by decide +kernel
theorem dX5_isBar_11 : decode cX5_isBar 11 = .ok (.goto 4, 3) := by decide +kernel
theorem dX5_isBar_14 : decode cX5_isBar 14 = .ok (.iconst 0, 1) := by decide +kernel
theorem dX5_isBar_15 : decode cX5_isBar 15 = .ok (.ireturn, 1) := by decide +kernel
theorem dX5_isLength_0 : decode cX5_isLength 0 = .ok (.iload_n 0, 1) := by decide +kernel
theorem dX5_isLength_1 : decode cX5_isLength 1 = .ok (.iconst 1, 1) := by decide +kernel
theorem dX5_isLength_2 : decode cX5_isLength 2 = .ok (.if_icmp .lt 13, 3) := by decide +kernel
theorem dX5_isLength_5 : decode cX5_isLength 5 = .ok (.iload_n 0, 1) := by decide +kernel
theorem dX5_isLength_6 : decode cX5_isLength 6 = .ok (.bipush 6, 2) := by decide +kernel
theorem dX5_isLength_8 : decode cX5_isLength 8 = .ok (.if_icmp .gt 7, 3) := by decide +kernel
theorem dX5_isLength_11 : decode cX5_isLength 11 = .ok (.iconst 1, 1) := by decide +kernel
theorem dX5_isLength_12 : decode cX5_isLength 12 = .ok (.goto 4, 3) := by decide +kernel
theorem dX5_isLength_15 : decode cX5_isLength 15 = .ok (.iconst 0, 1) := by decide +kernel
theorem dX5_isLength_16 : decode cX5_isLength 16 = .ok (.ireturn, 1) := by decide +kernel
theorem dX5_isTicks_0 : decode cX5_isTicks 0 = .ok (.iload_n 0, 1) := by decide +kernel
theorem dX5_isTicks_1 : decode cX5_isTicks 1 = .ok (.iconst 1, 1) := by decide +kernel
theorem dX5_isTicks_2 : decode cX5_isTicks 2 = .ok (.if_icmp .lt 13, 3) := by decide +kernel
theorem dX5_isTicks_5 : decode cX5_isTicks 5 = .ok (.iload_n 0, 1) := by decide +kernel
theorem dX5_isTicks_6 : decode cX5_isTicks 6 = .ok (.bipush 99, 2) := by decide +kernel
theorem dX5_isTicks_8 : decode cX5_isTicks 8 = .ok (.if_icmp .gt 7, 3) := by decide +kernel
theorem dX5_isTicks_11 : decode cX5_isTicks 11 = .ok (.iconst 1, 1) := by decide +kernel
theorem dX5_isTicks_12 : decode cX5_isTicks 12 = .ok (.goto 4, 3) := by decide +kernel
theorem dX5_isTicks_15 : decode cX5_isTicks 15 = .ok (.iconst 0, 1) := by decide +kernel
theorem dX5_isTicks_16 : decode cX5_isTicks 16 = .ok (.ireturn, 1) := by decide +kernel
theorem dX5_isSetting_0 : decode cX5_isSetting 0 = .ok (.iload_n 0, 1) := by decide +kernel
theorem dX5_isSetting_1 : decode cX5_isSetting 1 = .ok (.ifCond .lt 15, 3) := by decide +kernel
theorem dX5_isSetting_4 : decode cX5_isSetting 4 = .ok (.iload_n 0, 1) := by decide +kernel
theorem dX5_isSetting_5 : decode cX5_isSetting 5 = .ok (.getstatic 225, 3) := by decide +kernel
theorem dX5_isSetting_8 : decode cX5_isSetting 8 = .ok (.arraylength, 1) := by decide +kernel
theorem dX5_isSetting_9 : decode cX5_isSetting 9 = .ok (.if_icmp .ge 7, 3) := by decide +kernel
theorem dX5_isSetting_12 : decode cX5_isSetting 12 = .ok (.iconst 1, 1) := by decide +kernel
theorem dX5_isSetting_13 : decode cX5_isSetting 13 = .ok (.goto 4, 3) := by decide +kernel
theorem dX5_isSetting_16 : decode cX5_isSetting 16 = .ok (.iconst 0, 1) := by decide +kernel
theorem dX5_isSetting_17 : decode cX5_isSetting 17 = .ok (.ireturn, 1) := by decide +kernel
set_option maxRecDepth 20000 in
theorem ggX5_isSettingValue_X5_isSetting : GoodIn wsX5_isSettingValue wsX5_isSetting := goodIn_r _ [5, 1] (by decide +kernel) (by decide +kernel)
set_option maxRecDepth 20000 in
theorem gX5_isSettingValue_X5_isSetting : GoodIn wsX5_isSettingValue (va_wsS RX5 178 yX5_isSetting wsX5_isSetting) := goodIn_app (goodIn_of _ (by decide +kernel)) ggX5_isSettingValue_X5_isSetting
theorem dX5_isSettingValue_0 : decode cX5_isSettingValue 0 = .ok (.iload_n 0, 1) := by decide +kernel
theorem dX5_isSettingValue_1 : decode cX5_isSettingValue 1 = .ok (.invokestatic 178, 3) := by decide +kernel
theorem dX5_isSettingValue_4 : decode cX5_isSettingValue 4 = .ok (.ifCond .eq 20, 3) := by decide +kernel
theorem dX5_isSettingValue_7 : decode cX5_isSettingValue 7 = .ok (.iload_n 1, 1) := by decide +kernel
theorem dX5_isSettingValue_8 : decode cX5_isSettingValue 8 = .ok (.ifCond .lt 16, 3) := by decide +kernel
theorem dX5_isSettingValue_11 : decode cX5_isSettingValue 11 = .ok (.iload_n 1, 1) := by decide +kernel
theorem dX5_isSettingValue_12 : decode cX5_isSettingValue 12 = .ok (.getstatic 225, 3) := by decide +kernel
theorem dX5_isSettingValue_15 : decode cX5_isSettingValue 15 = .ok (.iload_n 0, 1) := by decide +kernel
theorem dX5_isSettingValue_16 : decode cX5_isSettingValue 16 = .ok (.iaload, 1) := by decide +kernel
theorem dX5_isSettingValue_17 : decode cX5_isSettingValue 17 = .ok (.if_icmp .gt 7, 3) := by decide +kernel
theorem dX5_isSettingValue_20 : decode cX5_isSettingValue 20 = .ok (.iconst 1, 1) := by decide +kernel
theorem dX5_isSettingValue_21 : decode cX5_isSettingValue 21 = .ok (.goto 4, 3) := by decide +kernel
theorem dX5_isSettingValue_24 : decode cX5_isSettingValue 24 = .ok (.iconst 0, 1) := by decide +kernel
theorem dX5_isSettingValue_25 : decode cX5_isSettingValue 25 = .ok (.ireturn, 1) := by decide +kernel
theorem dX5_span_0 : decode cX5_span 0 = .ok (.iconst 1, 1) := by decide +kernel
theorem dX5_span_1 : decode cX5_span 1 = .ok (.iload_n 1, 1) := by decide +kernel
theorem dX5_span_2 : decode cX5_span 2 = .ok (.ishl, 1) := by decide +kernel
theorem dX5_span_3 : decode cX5_span 3 = .ok (.iconst 1, 1) := by decide +kernel
theorem dX5_span_4 : decode cX5_span 4 = .ok (.isub, 1) := by decide +kernel
theorem dX5_span_5 : decode cX5_span 5 = .ok (.iload_n 0, 1) := by decide +kernel
theorem dX5_span_6 : decode cX5_span 6 = .ok (.ishl, 1) := by decide +kernel
theorem dX5_span_7 : decode cX5_span 7 = .ok (.istore_n 2, 1) := by decide +kernel
theorem dX5_span_8 : decode cX5_span 8 = .ok (.iload_n 2, 1) := by decide +kernel
theorem dX5_span_9 : decode cX5_span 9 = .ok (.iload_n 2, 1) := by decide +kernel
theorem dX5_span_10 : decode cX5_span 10 = .ok (.bipush 24, 2) := by decide +kernel
theorem dX5_span_12 : decode cX5_span 12 = .ok (.iushr, 1) := by decide +kernel
theorem dX5_span_13 : decode cX5_span 13 = .ok (.ior, 1) := by decide +kernel
theorem dX5_span_14 : decode cX5_span 14 = .ok (.istore_n 3, 1) := by decide +kernel
theorem dX5_span_15 : decode cX5_span 15 = .ok (.iload_n 3, 1) := by decide +kernel
theorem dX5_span_16 : decode cX5_span 16 = .ok (.ldc_w 293, 3) := by decide +kernel
theorem dX5_span_19 : decode cX5_span 19 = .ok (.iand, 1) := by decide +kernel
theorem dX5_span_20 : decode cX5_span 20 = .ok (.ireturn, 1) := by decide +kernel
theorem dX5_copyRow_0 : decode cX5_copyRow 0 = .ok (.aload_n 0, 1) := by decide +kernel
theorem dX5_copyRow_1 : decode cX5_copyRow 1 = .ok (.iconst 0, 1) := by decide +kernel
theorem dX5_copyRow_2 : decode cX5_copyRow 2 = .ok (.aload_n 1, 1) := by decide +kernel
theorem dX5_copyRow_3 : decode cX5_copyRow 3 = .ok (.iconst 0, 1) := by decide +kernel
theorem dX5_copyRow_4 : decode cX5_copyRow 4 = .ok (.aload_n 0, 1) := by decide +kernel
theorem dX5_copyRow_5 : decode cX5_copyRow 5 = .ok (.arraylength, 1) := by decide +kernel
theorem dX5_copyRow_6 : decode cX5_copyRow 6 = .ok (.aload_n 1, 1) := by decide +kernel
theorem dX5_copyRow_7 : decode cX5_copyRow 7 = .ok (.arraylength, 1) := by decide +kernel
theorem dX5_copyRow_8 : decode cX5_copyRow 8 = .ok (.invokestatic 294, 3) := by decide +kernel
theorem dX5_copyRow_11 : decode cX5_copyRow 11 = .ok (.invokestatic 299, 3) := by decide +kernel
theorem dX5_copyRow_14 : decode cX5_copyRow 14 = .ok (.return_, 1) := by decide +kernel
set_option maxRecDepth 20000 in
theorem ggX6_init_X6_clear : GoodIn wsX6_init wsX6_clear := goodIn_r _ [15] (by decide +kernel) (by decide +kernel)
set_option maxRecDepth 20000 in
theorem gX6_init_X6_clear : GoodIn wsX6_init (va_wsS RX6 29 yX6_clear wsX6_clear) := goodIn_app (goodIn_of _ (by decide +kernel)) ggX6_init_X6_clear
theorem dX6_init_0 : decode cX6_init 0 = .ok (.aload_n 0, 1) := by decide +kernel
theorem dX6_init_1 : decode cX6_init 1 = .ok (.invokespecial 1, 3) := by decide +kernel
theorem dX6_init_4 : decode cX6_init 4 = .ok (.aload_n 0, 1) := by decide +kernel
theorem dX6_init_5 : decode cX6_init 5 = .ok (.bipush 120, 2) := by decide +kernel
theorem dX6_init_7 : decode cX6_init 7 = .ok (.newarray .int, 2) := by decide +kernel
theorem dX6_init_9 : decode cX6_init 9 = .ok (.putfield 7, 3) := by decide +kernel
theorem dX6_init_12 : decode cX6_init 12 = .ok (.aload_n 0, 1) := by decide +kernel
theorem dX6_init_13 : decode cX6_init 13 = .ok (.sipush 217, 3) := by decide +kernel
theorem dX6_init_16 : decode cX6_init 16 = .ok (.newarray .int, 2) := by decide +kernel
theorem dX6_init_18 : decode cX6_init 18 = .ok (.putfield 13, 3) := by decide +kernel
theorem dX6_init_21 : decode cX6_init 21 = .ok (.aload_n 0, 1) := by decide +kernel
theorem dX6_init_22 : decode cX6_init 22 = .ok (.sipush 217, 3) := by decide +kernel
theorem dX6_init_25 : decode cX6_init 25 = .ok (.newarray .int, 2) := by decide +kernel
theorem dX6_init_27 : decode cX6_init 27 = .ok (.putfield 16, 3) := by decide +kernel
theorem dX6_init_30 : decode cX6_init 30 = .ok (.aload_n 0, 1) := by decide +kernel
theorem dX6_init_31 : decode cX6_init 31 = .ok (.sipush 3038, 3) := by decide +kernel
theorem dX6_init_34 : decode cX6_init 34 = .ok (.newarray .int, 2) := by decide +kernel
theorem dX6_init_36 : decode cX6_init 36 = .ok (.putfield 19, 3) := by decide +kernel
theorem dX6_init_39 : decode cX6_init 39 = .ok (.aload_n 0, 1) := by decide +kernel
theorem dX6_init_40 : decode cX6_init 40 = .ok (.sipush 434, 3) := by decide +kernel
theorem dX6_init_43 : decode cX6_init 43 = .ok (.newarray .int, 2) := by decide +kernel
theorem dX6_init_45 : decode cX6_init 45 = .ok (.putfield 22, 3) := by decide +kernel
theorem dX6_init_48 : decode cX6_init 48 = .ok (.aload_n 0, 1) := by decide +kernel
theorem dX6_init_49 : decode cX6_init 49 = .ok (.iconst 2, 1) := by decide +kernel
theorem dX6_init_50 : decode cX6_init 50 = .ok (.newarray .boolean, 2) := by decide +kernel
theorem dX6_init_52 : decode cX6_init 52 = .ok (.putfield 25, 3) := by decide +kernel
theorem dX6_init_55 : decode cX6_init 55 = .ok (.aload_n 0, 1) := by decide +kernel
theorem dX6_init_56 : decode cX6_init 56 = .ok (.getfield 13, 3) := by decide +kernel
theorem dX6_init_59 : decode cX6_init 59 = .ok (.invokestatic 29, 3) := by decide +kernel
theorem dX6_init_62 : decode cX6_init 62 = .ok (.return_, 1) := by decide +kernel
theorem dX6_thrown_0 : decode cX6_thrown 0 = .ok (.aload_n 0, 1) := by decide +kernel
theorem dX6_thrown_1 : decode cX6_thrown 1 = .ok (.getfield 33, 3) := by decide +kernel
theorem dX6_thrown_4 : decode cX6_thrown 4 = .ok (.ireturn, 1) := by decide +kernel
theorem dX6_refused_0 : decode cX6_refused 0 = .ok (.aload_n 0, 1) := by decide +kernel
theorem dX6_refused_1 : decode cX6_refused 1 = .ok (.iload_n 1, 1) := by decide +kernel
theorem dX6_refused_2 : decode cX6_refused 2 = .ok (.putfield 33, 3) := by decide +kernel
theorem dX6_refused_5 : decode cX6_refused 5 = .ok (.iload_n 1, 1) := by decide +kernel
theorem dX6_refused_6 : decode cX6_refused 6 = .ok (.ifCond .le 7, 3) := by decide +kernel
theorem dX6_refused_9 : decode cX6_refused 9 = .ok (.iconst 1, 1) := by decide +kernel
theorem dX6_refused_10 : decode cX6_refused 10 = .ok (.goto 4, 3) := by decide +kernel
theorem dX6_refused_13 : decode cX6_refused 13 = .ok (.iconst 0, 1) := by decide +kernel
theorem dX6_refused_14 : decode cX6_refused 14 = .ok (.ireturn, 1) := by decide +kernel
theorem dX6_in_0 : decode cX6_in 0 = .ok (.lload_n 0, 1) := by decide +kernel
theorem dX6_in_1 : decode cX6_in 1 = .ok (.lload_n 2, 1) := by decide +kernel
theorem dX6_in_2 : decode cX6_in 2 = .ok (.lcmp, 1) := by decide +kernel
theorem dX6_in_3 : decode cX6_in 3 = .ok (.ifCond .lt 14, 3) := by decide +kernel
theorem dX6_in_6 : decode cX6_in 6 = .ok (.lload_n 0, 1) := by decide +kernel
theorem dX6_in_7 : decode cX6_in 7 = .ok (.lload 4, 2) := by decide +kernel
theorem dX6_in_9 : decode cX6_in 9 = .ok (.lcmp, 1) := by decide +kernel
theorem dX6_in_10 : decode cX6_in 10 = .ok (.ifCond .gt 7, 3) := by decide +kernel
theorem dX6_in_13 : decode cX6_in 13 = .ok (.iconst 1, 1) := by decide +kernel
theorem dX6_in_14 : decode cX6_in 14 = .ok (.goto 4, 3) := by decide +kernel
theorem dX6_in_17 : decode cX6_in 17 = .ok (.iconst 0, 1) := by decide +kernel
theorem dX6_in_18 : decode cX6_in 18 = .ok (.ireturn, 1) := by decide +kernel
theorem dX6_copyState_0 : decode cX6_copyState 0 = .ok (.iconst 0, 1) := by decide +kernel
theorem dX6_copyState_1 : decode cX6_copyState 1 = .ok (.istore 4, 2) := by decide +kernel
theorem dX6_copyState_3 : decode cX6_copyState 3 = .ok (.iload 4, 2) := by decide +kernel
theorem dX6_copyState_5 : decode cX6_copyState 5 = .ok (.sipush 217, 3) := by decide +kernel
theorem dX6_copyState_8 : decode cX6_copyState 8 = .ok (.if_icmp .ge 21, 3) := by decide +kernel
theorem dX6_copyState_11 : decode cX6_copyState 11 = .ok (.aload_n 2, 1) := by decide +kernel
theorem dX6_copyState_12 : decode cX6_copyState 12 = .ok (.iload_n 3, 1) := by decide +kernel
theorem dX6_copyState_13 : decode cX6_copyState 13 = .ok (.iload 4, 2) := by decide +kernel
theorem dX6_copyState_15 : decode cX6_copyState 15 = .ok (.iadd, 1) := by decide +kernel
theorem dX6_copyState_16 : decode cX6_copyState 16 = .ok (.aload_n 0, 1) := by decide +kernel
theorem dX6_copyState_17 : decode cX6_copyState 17 = .ok (.iload_n 1, 1) := by decide +kernel
theorem dX6_copyState_18 : decode cX6_copyState 18 = .ok (.iload 4, 2) := by decide +kernel
theorem dX6_copyState_20 : decode cX6_copyState 20 = .ok (.iadd, 1) := by decide +kernel
theorem dX6_copyState_21 : decode cX6_copyState 21 = .ok (.iaload, 1) := by decide +kernel
theorem dX6_copyState_22 : decode cX6_copyState 22 = .ok (.iastore, 1) := by decide +kernel
theorem dX6_copyState_23 : decode cX6_copyState 23 = .ok (.iinc 4 1, 3) := by decide +kernel
theorem dX6_copyState_26 : decode cX6_copyState 26 = .ok (.goto (-23), 3) := by decide +kernel
theorem dX6_copyState_29 : decode cX6_copyState 29 = .ok (.return_, 1) := by decide +kernel
theorem dX6_clear_0 : decode cX6_clear 0 = .ok (.iconst 0, 1) := by decide +kernel
theorem dX6_clear_1 : decode cX6_clear 1 = .ok (.istore_n 1, 1) := by decide +kernel
theorem dX6_clear_2 : decode cX6_clear 2 = .ok (.iload_n 1, 1) := by decide +kernel
theorem dX6_clear_3 : decode cX6_clear 3 = .ok (.sipush 217, 3) := by decide +kernel
theorem dX6_clear_6 : decode cX6_clear 6 = .ok (.if_icmp .ge 13, 3) := by decide +kernel
theorem dX6_clear_9 : decode cX6_clear 9 = .ok (.aload_n 0, 1) := by decide +kernel
theorem dX6_clear_10 : decode cX6_clear 10 = .ok (.iload_n 1, 1) := by decide +kernel
theorem dX6_clear_11 : decode cX6_clear 11 = .ok (.iconst 0, 1) := by decide +kernel
theorem dX6_clear_12 : decode cX6_clear 12 = .ok (.iastore, 1) := by decide +kernel
theorem dX6_clear_13 : decode cX6_clear 13 = .ok (.iinc 1 1, 3) := by decide +kernel
theorem dX6_clear_16 : decode cX6_clear 16 = .ok (.goto (-14), 3) := by decide +kernel
theorem dX6_clear_19 : decode cX6_clear 19 = .ok (.aload_n 0, 1) := by decide +kernel
theorem dX6_clear_20 : decode cX6_clear 20 = .ok (.bipush 12, 2) := by decide +kernel
theorem dX6_clear_22 : decode cX6_clear 22 = .ok (.iconst 1, 1) := by decide +kernel
theorem dX6_clear_23 : decode cX6_clear 23 = .ok (.iastore, 1) := by decide +kernel
theorem dX6_clear_24 : decode cX6_clear 24 = .ok (.aload_n 0, 1) := by decide +kernel
theorem dX6_clear_25 : decode cX6_clear 25 = .ok (.bipush 14, 2) := by decide +kernel
theorem dX6_clear_27 : decode cX6_clear 27 = .ok (.bipush 20, 2) := by decide +kernel
theorem dX6_clear_29 : decode cX6_clear 29 = .ok (.iastore, 1) := by decide +kernel
theorem dX6_clear_30 : decode cX6_clear 30 = .ok (.return_, 1) := by decide +kernel
theorem dX6_peg_0 : decode cX6_peg 0 = .ok (.aload_n 0, 1) := by decide +kernel
theorem dX6_peg_1 : decode cX6_peg 1 = .ok (.bipush 37, 2) := by decide +kernel
theorem dX6_peg_3 : decode cX6_peg 3 = .ok (.iconst 4, 1) := by decide +kernel
theorem dX6_peg_4 : decode cX6_peg 4 = .ok (.iload_n 1, 1) := by decide +kernel
theorem dX6_peg_5 : decode cX6_peg 5 = .ok (.imul, 1) := by decide +kernel
theorem dX6_peg_6 : decode cX6_peg 6 = .ok (.iadd, 1) := by decide +kernel
theorem dX6_peg_7 : decode cX6_peg 7 = .ok (.iload_n 2, 1) := by decide +kernel
theorem dX6_peg_8 : decode cX6_peg 8 = .ok (.iadd, 1) := by decide +kernel
theorem dX6_peg_9 : decode cX6_peg 9 = .ok (.iaload, 1) := by decide +kernel
theorem dX6_peg_10 : decode cX6_peg 10 = .ok (.ireturn, 1) := by decide +kernel
theorem dX6_order_0 : decode cX6_order 0 = .ok (.aload_n 0, 1) := by decide +kernel
theorem dX6_order_1 : decode cX6_order 1 = .ok (.sipush 157, 3) := by decide +kernel
theorem dX6_order_4 : decode cX6_order 4 = .ok (.iconst 5, 1) := by decide +kernel
theorem dX6_order_5 : decode cX6_order 5 = .ok (.iload_n 1, 1) := by decide +kernel
theorem dX6_order_6 : decode cX6_order 6 = .ok (.imul, 1) := by decide +kernel
theorem dX6_order_7 : decode cX6_order 7 = .ok (.iadd, 1) := by decide +kernel
theorem dX6_order_8 : decode cX6_order 8 = .ok (.iload_n 2, 1) := by decide +kernel
theorem dX6_order_9 : decode cX6_order 9 = .ok (.iadd, 1) := by decide +kernel
theorem dX6_order_10 : decode cX6_order 10 = .ok (.iaload, 1) := by decide +kernel
theorem dX6_order_11 : decode cX6_order 11 = .ok (.ireturn, 1) := by decide +kernel
set_option maxRecDepth 20000 in
theorem ggX6_isPipe_X6_in : GoodIn wsX6_isPipe wsX6_in := goodIn_r _ [5] (by decide +kernel) (by decide +kernel)
set_option maxRecDepth 20000 in
theorem gX6_isPipe_X6_in : GoodIn wsX6_isPipe (va_wsS RX6 39 yX6_in wsX6_in) := goodIn_app (goodIn_of _ (by decide +kernel)) ggX6_isPipe_X6_in
theorem dX6_isPipe_0 : decode cX6_isPipe 0 = .ok (.iload_n 0, 1) := by decide +kernel
theorem dX6_isPipe_1 : decode cX6_isPipe 1 = .ok (.i2l, 1) := by decide +kernel
theorem dX6_isPipe_2 : decode cX6_isPipe 2 = .ok (.lconst 0, 1) := by decide +kernel
theorem dX6_isPipe_3 : decode cX6_isPipe 3 = .ok (.ldc2_w 37, 3) := by decide +kernel
theorem dX6_isPipe_6 : decode cX6_isPipe 6 = .ok (.invokestatic 39, 3) := by decide +kernel
theorem dX6_isPipe_9 : decode cX6_isPipe 9 = .ok (.ireturn, 1) := by decide +kernel
set_option maxRecDepth 20000 in
theorem ggX6_isBar_X6_in : GoodIn wsX6_isBar wsX6_in := goodIn_r _ [5] (by decide +kernel) (by decide +kernel)
set_option maxRecDepth 20000 in
theorem gX6_isBar_X6_in : GoodIn wsX6_isBar (va_wsS RX6 39 yX6_in wsX6_in) := goodIn_app (goodIn_of _ (by decide +kernel)) ggX6_isBar_X6_in
theorem dX6_isBar_0 : decode cX6_isBar 0 = .ok (.iload_n 0, 1) := by decide +kernel
theorem dX6_isBar_1 : decode cX6_isBar 1 = .ok (.i2l, 1) := by decide +kernel
theorem dX6_isBar_2 : decode cX6_isBar 2 = .ok (.lconst 0, 1) := by decide +kernel
theorem dX6_isBar_3 : decode cX6_isBar 3 = .ok (.ldc2_w 43, 3) := by decide +kernel
theorem dX6_isBar_6 : decode cX6_isBar 6 = .ok (.invokestatic 39, 3) := by decide +kernel
theorem dX6_isBar_9 : decode cX6_isBar 9 = .ok (.ireturn, 1) := by decide +kernel
set_option maxRecDepth 20000 in
theorem ggX6_isPeg_X6_in : GoodIn wsX6_isPeg wsX6_in := goodIn_r _ [4] (by decide +kernel) (by decide +kernel)
set_option maxRecDepth 20000 in
theorem gX6_isPeg_X6_in : GoodIn wsX6_isPeg (va_wsS RX6 39 yX6_in wsX6_in) := goodIn_app (goodIn_of _ (by decide +kernel)) ggX6_isPeg_X6_in
theorem dX6_isPeg_0 : decode cX6_isPeg 0 = .ok (.iload_n 1, 1) := by decide +kernel
theorem dX6_isPeg_1 : decode cX6_isPeg 1 = .ok (.i2l, 1) := by decide +kernel
theorem dX6_isPeg_2 : decode cX6_isPeg 2 = .ok (.lconst 0, 1) := by decide +kernel
theorem dX6_isPeg_3 : decode cX6_isPeg 3 = .ok (.aload_n 0, 1) := by decide +kernel
theorem dX6_isPeg_4 : decode cX6_isPeg 4 = .ok (.iconst 0, 1) := by decide +kernel
theorem dX6_isPeg_5 : decode cX6_isPeg 5 = .ok (.iaload, 1) := by decide +kernel
theorem dX6_isPeg_6 : decode cX6_isPeg 6 = .ok (.iconst 1, 1) := by decide +kernel
theorem dX6_isPeg_7 : decode cX6_isPeg 7 = .ok (.isub, 1) := by decide +kernel
theorem dX6_isPeg_8 : decode cX6_isPeg 8 = .ok (.i2l, 1) := by decide +kernel
theorem dX6_isPeg_9 : decode cX6_isPeg 9 = .ok (.invokestatic 39, 3) := by decide +kernel
theorem dX6_isPeg_12 : decode cX6_isPeg 12 = .ok (.ireturn, 1) := by decide +kernel
set_option maxRecDepth 20000 in
theorem ggX6_isOrder_X6_in : GoodIn wsX6_isOrder wsX6_in := goodIn_r _ [4] (by decide +kernel) (by decide +kernel)
set_option maxRecDepth 20000 in
theorem gX6_isOrder_X6_in : GoodIn wsX6_isOrder (va_wsS RX6 39 yX6_in wsX6_in) := goodIn_app (goodIn_of _ (by decide +kernel)) ggX6_isOrder_X6_in
theorem dX6_isOrder_0 : decode cX6_isOrder 0 = .ok (.iload_n 1, 1) := by decide +kernel
theorem dX6_isOrder_1 : decode cX6_isOrder 1 = .ok (.i2l, 1) := by decide +kernel
theorem dX6_isOrder_2 : decode cX6_isOrder 2 = .ok (.lconst 0, 1) := by decide +kernel
theorem dX6_isOrder_3 : decode cX6_isOrder 3 = .ok (.aload_n 0, 1) := by decide +kernel
theorem dX6_isOrder_4 : decode cX6_isOrder 4 = .ok (.iconst 1, 1) := by decide +kernel
theorem dX6_isOrder_5 : decode cX6_isOrder 5 = .ok (.iaload, 1) := by decide +kernel
theorem dX6_isOrder_6 : decode cX6_isOrder 6 = .ok (.iconst 1, 1) := by decide +kernel
theorem dX6_isOrder_7 : decode cX6_isOrder 7 = .ok (.isub, 1) := by decide +kernel
theorem dX6_isOrder_8 : decode cX6_isOrder 8 = .ok (.i2l, 1) := by decide +kernel
theorem dX6_isOrder_9 : decode cX6_isOrder 9 = .ok (.invokestatic 39, 3) := by decide +kernel
theorem dX6_isOrder_12 : decode cX6_isOrder 12 = .ok (.ireturn, 1) := by decide +kernel
set_option maxRecDepth 20000 in
theorem ggX6_isSetting_X6_in : GoodIn wsX6_isSetting wsX6_in := goodIn_r _ [7] (by decide +kernel) (by decide +kernel)
set_option maxRecDepth 20000 in
theorem gX6_isSetting_X6_in : GoodIn wsX6_isSetting (va_wsS RX6 39 yX6_in wsX6_in) := goodIn_app (goodIn_of _ (by decide +kernel)) ggX6_isSetting_X6_in
theorem dX6_isSetting_0 : decode cX6_isSetting 0 = .ok (.iload_n 0, 1) := by decide +kernel
theorem dX6_isSetting_1 : decode cX6_isSetting 1 = .ok (.ifCond .ne 15, 3) := by decide +kernel
theorem dX6_isSetting_4 : decode cX6_isSetting 4 = .ok (.iload_n 1, 1) := by decide +kernel
theorem dX6_isSetting_5 : decode cX6_isSetting 5 = .ok (.i2l, 1) := by decide +kernel
theorem dX6_isSetting_6 : decode cX6_isSetting 6 = .ok (.lconst 0, 1) := by decide +kernel
theorem dX6_isSetting_7 : decode cX6_isSetting 7 = .ok (.ldc2_w 45, 3) := by decide +kernel
theorem dX6_isSetting_10 : decode cX6_isSetting 10 = .ok (.invokestatic 39, 3) := by decide +kernel
theorem dX6_isSetting_13 : decode cX6_isSetting 13 = .ok (.ifCond .ne 37, 3) := by decide +kernel
theorem dX6_isSetting_16 : decode cX6_isSetting 16 = .ok (.iload_n 0, 1) := by decide +kernel
theorem dX6_isSetting_17 : decode cX6_isSetting 17 = .ok (.iconst 1, 1) := by decide +kernel
theorem dX6_isSetting_18 : decode cX6_isSetting 18 = .ok (.if_icmp .ne 15, 3) := by decide +kernel
theorem dX6_isSetting_21 : decode cX6_isSetting 21 = .ok (.iload_n 1, 1) := by decide +kernel
theorem dX6_isSetting_22 : decode cX6_isSetting 22 = .ok (.i2l, 1) := by decide +kernel
theorem dX6_isSetting_23 : decode cX6_isSetting 23 = .ok (.lconst 0, 1) := by decide +kernel
theorem dX6_isSetting_24 : decode cX6_isSetting 24 = .ok (.ldc2_w 47, 3) := by decide +kernel
theorem dX6_isSetting_27 : decode cX6_isSetting 27 = .ok (.invokestatic 39, 3) := by decide +kernel
theorem dX6_isSetting_30 : decode cX6_isSetting 30 = .ok (.ifCond .ne 20, 3) := by decide +kernel
theorem dX6_isSetting_33 : decode cX6_isSetting 33 = .ok (.iload_n 0, 1) := by decide +kernel
theorem dX6_isSetting_34 : decode cX6_isSetting 34 = .ok (.iconst 2, 1) := by decide +kernel
theorem dX6_isSetting_35 : decode cX6_isSetting 35 = .ok (.if_icmp .ne 19, 3) := by decide +kernel
theorem dX6_isSetting_38 : decode cX6_isSetting 38 = .ok (.iload_n 1, 1) := by decide +kernel
theorem dX6_isSetting_39 : decode cX6_isSetting 39 = .ok (.i2l, 1) := by decide +kernel
theorem dX6_isSetting_40 : decode cX6_isSetting 40 = .ok (.lconst 0, 1) := by decide +kernel
theorem dX6_isSetting_41 : decode cX6_isSetting 41 = .ok (.ldc2_w 49, 3) := by decide +kernel
theorem dX6_isSetting_44 : decode cX6_isSetting 44 = .ok (.invokestatic 39, 3) := by decide +kernel
theorem dX6_isSetting_47 : decode cX6_isSetting 47 = .ok (.ifCond .eq 7, 3) := by decide +kernel
theorem dX6_isSetting_50 : decode cX6_isSetting 50 = .ok (.iconst 1, 1) := by decide +kernel
theorem dX6_isSetting_51 : decode cX6_isSetting 51 = .ok (.goto 4, 3) := by decide +kernel
theorem dX6_isSetting_54 : decode cX6_isSetting 54 = .ok (.iconst 0, 1) := by decide +kernel
theorem dX6_isSetting_55 : decode cX6_isSetting 55 = .ok (.ireturn, 1) := by decide +kernel
theorem dX6_isOver_0 : decode cX6_isOver 0 = .ok (.iload_n 2, 1) := by decide +kernel
theorem dX6_isOver_1 : decode cX6_isOver 1 = .ok (.iload_n 0, 1) := by decide +kernel
theorem dX6_isOver_2 : decode cX6_isOver 2 = .ok (.isub, 1) := by decide +kernel
theorem dX6_isOver_3 : decode cX6_isOver 3 = .ok (.bipush 24, 2) := by decide +kernel
theorem dX6_isOver_5 : decode cX6_isOver 5 = .ok (.iadd, 1) := by decide +kernel
theorem dX6_isOver_6 : decode cX6_isOver 6 = .ok (.bipush 24, 2) := by decide +kernel
theorem dX6_isOver_8 : decode cX6_isOver 8 = .ok (.irem, 1) := by decide +kernel
theorem dX6_isOver_9 : decode cX6_isOver 9 = .ok (.iload_n 1, 1) := by decide +kernel
theorem dX6_isOver_10 : decode cX6_isOver 10 = .ok (.if_icmp .ge 7, 3) := by decide +kernel
theorem dX6_isOver_13 : decode cX6_isOver 13 = .ok (.iconst 1, 1) := by decide +kernel
theorem dX6_isOver_14 : decode cX6_isOver 14 = .ok (.goto 4, 3) := by decide +kernel
theorem dX6_isOver_17 : decode cX6_isOver 17 = .ok (.iconst 0, 1) := by decide +kernel
theorem dX6_isOver_18 : decode cX6_isOver 18 = .ok (.ireturn, 1) := by decide +kernel
set_option maxRecDepth 20000 in
theorem ggX6_isCovered_X6_peg : GoodIn wsX6_isCovered wsX6_peg := goodIn_r _ [4] (by decide +kernel) (by decide +kernel)
set_option maxRecDepth 20000 in
theorem gX6_isCovered_X6_peg : GoodIn wsX6_isCovered (va_wsS RX6 51 yX6_peg wsX6_peg) := goodIn_app (goodIn_of _ (by decide +kernel)) ggX6_isCovered_X6_peg
set_option maxRecDepth 20000 in
theorem ggX6_isCovered_X6_isOver : GoodIn wsX6_isCovered wsX6_isOver := goodIn_r _ [7] (by decide +kernel) (by decide +kernel)
set_option maxRecDepth 20000 in
theorem gX6_isCovered_X6_isOver : GoodIn wsX6_isCovered (va_wsS RX6 55 yX6_isOver wsX6_isOver) := goodIn_app (goodIn_of _ (by decide +kernel)) ggX6_isCovered_X6_isOver
theorem dX6_isCovered_0 : decode cX6_isCovered 0 = .ok (.iconst 0, 1) := by decide +kernel
theorem dX6_isCovered_1 : decode cX6_isCovered 1 = .ok (.istore_n 3, 1) := by decide +kernel
theorem dX6_isCovered_2 : decode cX6_isCovered 2 = .ok (.iconst 0, 1) := by decide +kernel
theorem dX6_isCovered_3 : decode cX6_isCovered 3 = .ok (.istore 4, 2) := by decide +kernel
theorem dX6_isCovered_5 : decode cX6_isCovered 5 = .ok (.iload 4, 2) := by decide +kernel
theorem dX6_isCovered_7 : decode cX6_isCovered 7 = .ok (.aload_n 0, 1) := by decide +kernel
theorem dX6_isCovered_8 : decode cX6_isCovered 8 = .ok (.iconst 0, 1) := by decide +kernel
theorem dX6_isCovered_9 : decode cX6_isCovered 9 = .ok (.iaload, 1) := by decide +kernel
theorem dX6_isCovered_10 : decode cX6_isCovered 10 = .ok (.if_icmp .ge 51, 3) := by decide +kernel
theorem dX6_isCovered_13 : decode cX6_isCovered 13 = .ok (.iload_n 3, 1) := by decide +kernel
theorem dX6_isCovered_14 : decode cX6_isCovered 14 = .ok (.ifCond .ne 35, 3) := by decide +kernel
theorem dX6_isCovered_17 : decode cX6_isCovered 17 = .ok (.aload_n 0, 1) := by decide +kernel
theorem dX6_isCovered_18 : decode cX6_isCovered 18 = .ok (.iload 4, 2) := by decide +kernel
theorem dX6_isCovered_20 : decode cX6_isCovered 20 = .ok (.iconst 0, 1) := by decide +kernel
theorem dX6_isCovered_21 : decode cX6_isCovered 21 = .ok (.invokestatic 51, 3) := by decide +kernel
theorem dX6_isCovered_24 : decode cX6_isCovered 24 = .ok (.iload_n 1, 1) := by decide +kernel
theorem dX6_isCovered_25 : decode cX6_isCovered 25 = .ok (.if_icmp .ne 28, 3) := by decide +kernel
theorem dX6_isCovered_28 : decode cX6_isCovered 28 = .ok (.aload_n 0, 1) := by decide +kernel
theorem dX6_isCovered_29 : decode cX6_isCovered 29 = .ok (.iload 4, 2) := by decide +kernel
theorem dX6_isCovered_31 : decode cX6_isCovered 31 = .ok (.iconst 1, 1) := by decide +kernel
theorem dX6_isCovered_32 : decode cX6_isCovered 32 = .ok (.invokestatic 51, 3) := by decide +kernel
theorem dX6_isCovered_35 : decode cX6_isCovered 35 = .ok (.aload_n 0, 1) := by decide +kernel
theorem dX6_isCovered_36 : decode cX6_isCovered 36 = .ok (.iload 4, 2) := by decide +kernel
theorem dX6_isCovered_38 : decode cX6_isCovered 38 = .ok (.iconst 2, 1) := by decide +kernel
theorem dX6_isCovered_39 : decode cX6_isCovered 39 = .ok (.invokestatic 51, 3) := by decide +kernel
theorem dX6_isCovered_42 : decode cX6_isCovered 42 = .ok (.iload_n 2, 1) := by decide +kernel
theorem dX6_isCovered_43 : decode cX6_isCovered 43 = .ok (.invokestatic 55, 3) := by decide +kernel
theorem dX6_isCovered_46 : decode cX6_isCovered 46 = .ok (.ifCond .eq 7, 3) := by decide +kernel
theorem dX6_isCovered_49 : decode cX6_isCovered 49 = .ok (.iconst 1, 1) := by decide +kernel
theorem dX6_isCovered_50 : decode cX6_isCovered 50 = .ok (.goto 4, 3) := by decide +kernel
theorem dX6_isCovered_53 : decode cX6_isCovered 53 = .ok (.iconst 0, 1) := by decide +kernel
theorem dX6_isCovered_54 : decode cX6_isCovered 54 = .ok (.istore_n 3, 1) := by decide +kernel
theorem dX6_isCovered_55 : decode cX6_isCovered 55 = .ok (.iinc 4 1, 3) := by decide +kernel
theorem dX6_isCovered_58 : decode cX6_isCovered 58 = .ok (.goto (-53), 3) := by decide +kernel
theorem dX6_isCovered_61 : decode cX6_isCovered 61 = .ok (.iload_n 3, 1) := by decide +kernel
theorem dX6_isCovered_62 : decode cX6_isCovered 62 = .ok (.ireturn, 1) := by decide +kernel
set_option maxRecDepth 20000 in
theorem ggX6_isOpen_X6_isCovered : GoodIn wsX6_isOpen wsX6_isCovered := goodIn_r _ [4, 5, 6, 3, 7, 8, 9, 10] (by decide +kernel) (by decide +kernel)
set_option maxRecDepth 20000 in
theorem gX6_isOpen_X6_isCovered : GoodIn wsX6_isOpen (va_wsS RX6 59 yX6_isCovered wsX6_isCovered) := goodIn_app (goodIn_of _ (by decide +kernel)) ggX6_isOpen_X6_isCovered
theorem dX6_isOpen_0 : decode cX6_isOpen 0 = .ok (.aload_n 0, 1) := by decide +kernel
theorem dX6_isOpen_1 : decode cX6_isOpen 1 = .ok (.iload_n 1, 1) := by decide +kernel
theorem dX6_isOpen_2 : decode cX6_isOpen 2 = .ok (.aload_n 0, 1) := by decide +kernel
theorem dX6_isOpen_3 : decode cX6_isOpen 3 = .ok (.iconst 3, 1) := by decide +kernel
theorem dX6_isOpen_4 : decode cX6_isOpen 4 = .ok (.iaload, 1) := by decide +kernel
theorem dX6_isOpen_5 : decode cX6_isOpen 5 = .ok (.invokestatic 59, 3) := by decide +kernel
theorem dX6_isOpen_8 : decode cX6_isOpen 8 = .ok (.ireturn, 1) := by decide +kernel
set_option maxRecDepth 20000 in
theorem ggX6_chordAt_X6_isCovered : GoodIn wsX6_chordAt wsX6_isCovered := goodIn_r _ [4, 5, 6, 3, 7, 8, 9, 10] (by decide +kernel) (by decide +kernel)
set_option maxRecDepth 20000 in
theorem gX6_chordAt_X6_isCovered : GoodIn wsX6_chordAt (va_wsS RX6 59 yX6_isCovered wsX6_isCovered) := goodIn_app (goodIn_of _ (by decide +kernel)) ggX6_chordAt_X6_isCovered
theorem dX6_chordAt_0 : decode cX6_chordAt 0 = .ok (.iconst 0, 1) := by decide +kernel
theorem dX6_chordAt_1 : decode cX6_chordAt 1 = .ok (.istore_n 2, 1) := by decide +kernel
theorem dX6_chordAt_2 : decode cX6_chordAt 2 = .ok (.iconst 0, 1) := by decide +kernel
theorem dX6_chordAt_3 : decode cX6_chordAt 3 = .ok (.istore_n 3, 1) := by decide +kernel
theorem dX6_chordAt_4 : decode cX6_chordAt 4 = .ok (.iload_n 3, 1) := by decide +kernel
theorem dX6_chordAt_5 : decode cX6_chordAt 5 = .ok (.bipush 6, 2) := by decide +kernel
theorem dX6_chordAt_7 : decode cX6_chordAt 7 = .ok (.if_icmp .ge 28, 3) := by decide +kernel
theorem dX6_chordAt_10 : decode cX6_chordAt 10 = .ok (.iload_n 2, 1) := by decide +kernel
theorem dX6_chordAt_11 : decode cX6_chordAt 11 = .ok (.aload_n 0, 1) := by decide +kernel
theorem dX6_chordAt_12 : decode cX6_chordAt 12 = .ok (.iload_n 3, 1) := by decide +kernel
theorem dX6_chordAt_13 : decode cX6_chordAt 13 = .ok (.iload_n 1, 1) := by decide +kernel
theorem dX6_chordAt_14 : decode cX6_chordAt 14 = .ok (.invokestatic 59, 3) := by decide +kernel
theorem dX6_chordAt_17 : decode cX6_chordAt 17 = .ok (.ifCond .eq 9, 3) := by decide +kernel
theorem dX6_chordAt_20 : decode cX6_chordAt 20 = .ok (.iconst 1, 1) := by decide +kernel
theorem dX6_chordAt_21 : decode cX6_chordAt 21 = .ok (.iload_n 3, 1) := by decide +kernel
theorem dX6_chordAt_22 : decode cX6_chordAt 22 = .ok (.ishl, 1) := by decide +kernel
theorem dX6_chordAt_23 : decode cX6_chordAt 23 = .ok (.goto 4, 3) := by decide +kernel
theorem dX6_chordAt_26 : decode cX6_chordAt 26 = .ok (.iconst 0, 1) := by decide +kernel
theorem dX6_chordAt_27 : decode cX6_chordAt 27 = .ok (.ior, 1) := by decide +kernel
theorem dX6_chordAt_28 : decode cX6_chordAt 28 = .ok (.istore_n 2, 1) := by decide +kernel
theorem dX6_chordAt_29 : decode cX6_chordAt 29 = .ok (.iinc 3 1, 3) := by decide +kernel
theorem dX6_chordAt_32 : decode cX6_chordAt 32 = .ok (.goto (-28), 3) := by decide +kernel
theorem dX6_chordAt_35 : decode cX6_chordAt 35 = .ok (.iload_n 2, 1) := by decide +kernel
theorem dX6_chordAt_36 : decode cX6_chordAt 36 = .ok (.ireturn, 1) := by decide +kernel
theorem dX6_bits_0 : decode cX6_bits 0 = .ok (.iconst 0, 1) := by decide +kernel
theorem dX6_bits_1 : decode cX6_bits 1 = .ok (.istore_n 1, 1) := by decide +kernel
theorem dX6_bits_2 : decode cX6_bits 2 = .ok (.iconst 0, 1) := by decide +kernel
theorem dX6_bits_3 : decode cX6_bits 3 = .ok (.istore_n 2, 1) := by decide +kernel
theorem dX6_bits_4 : decode cX6_bits 4 = .ok (.iload_n 2, 1) := by decide +kernel
theorem dX6_bits_5 : decode cX6_bits 5 = .ok (.bipush 6, 2) := by decide +kernel
theorem dX6_bits_7 : decode cX6_bits 7 = .ok (.if_icmp .ge 17, 3) := by decide +kernel
theorem dX6_bits_10 : decode cX6_bits 10 = .ok (.iload_n 1, 1) := by decide +kernel
theorem dX6_bits_11 : decode cX6_bits 11 = .ok (.iload_n 0, 1) := by decide +kernel
theorem dX6_bits_12 : decode cX6_bits 12 = .ok (.iload_n 2, 1) := by decide +kernel
theorem dX6_bits_13 : decode cX6_bits 13 = .ok (.ishr, 1) := by decide +kernel
theorem dX6_bits_14 : decode cX6_bits 14 = .ok (.iconst 1, 1) := by decide +kernel
theorem dX6_bits_15 : decode cX6_bits 15 = .ok (.iand, 1) := by decide +kernel
theorem dX6_bits_16 : decode cX6_bits 16 = .ok (.iadd, 1) := by decide +kernel
theorem dX6_bits_17 : decode cX6_bits 17 = .ok (.istore_n 1, 1) := by decide +kernel
theorem dX6_bits_18 : decode cX6_bits 18 = .ok (.iinc 2 1, 3) := by decide +kernel
theorem dX6_bits_21 : decode cX6_bits 21 = .ok (.goto (-17), 3) := by decide +kernel
theorem dX6_bits_24 : decode cX6_bits 24 = .ok (.iload_n 1, 1) := by decide +kernel
theorem dX6_bits_25 : decode cX6_bits 25 = .ok (.ireturn, 1) := by decide +kernel
set_option maxRecDepth 20000 in
theorem ggX6_isTaken_X6_isCovered : GoodIn wsX6_isTaken wsX6_isCovered := goodIn_r _ [4, 5, 6, 3, 7, 8, 9, 10] (by decide +kernel) (by decide +kernel)
set_option maxRecDepth 20000 in
theorem gX6_isTaken_X6_isCovered : GoodIn wsX6_isTaken (va_wsS RX6 59 yX6_isCovered wsX6_isCovered) := goodIn_app (goodIn_of _ (by decide +kernel)) ggX6_isTaken_X6_isCovered
theorem dX6_isTaken_0 : decode cX6_isTaken 0 = .ok (.iconst 0, 1) := by decide +kernel
theorem dX6_isTaken_1 : decode cX6_isTaken 1 = .ok (.istore 4, 2) := by decide +kernel
theorem dX6_isTaken_3 : decode cX6_isTaken 3 = .ok (.iconst 0, 1) := by decide +kernel
theorem dX6_isTaken_4 : decode cX6_isTaken 4 = .ok (.istore 5, 2) := by decide +kernel
theorem dX6_isTaken_6 : decode cX6_isTaken 6 = .ok (.iload 5, 2) := by decide +kernel
theorem dX6_isTaken_8 : decode cX6_isTaken 8 = .ok (.iload_n 3, 1) := by decide +kernel
theorem dX6_isTaken_9 : decode cX6_isTaken 9 = .ok (.if_icmp .ge 36, 3) := by decide +kernel
theorem dX6_isTaken_12 : decode cX6_isTaken 12 = .ok (.iload 4, 2) := by decide +kernel
theorem dX6_isTaken_14 : decode cX6_isTaken 14 = .ok (.ifCond .ne 18, 3) := by decide +kernel
theorem dX6_isTaken_17 : decode cX6_isTaken 17 = .ok (.aload_n 0, 1) := by decide +kernel
theorem dX6_isTaken_18 : decode cX6_isTaken 18 = .ok (.iload_n 1, 1) := by decide +kernel
theorem dX6_isTaken_19 : decode cX6_isTaken 19 = .ok (.iload_n 2, 1) := by decide +kernel
theorem dX6_isTaken_20 : decode cX6_isTaken 20 = .ok (.iload 5, 2) := by decide +kernel
theorem dX6_isTaken_22 : decode cX6_isTaken 22 = .ok (.iadd, 1) := by decide +kernel
theorem dX6_isTaken_23 : decode cX6_isTaken 23 = .ok (.bipush 24, 2) := by decide +kernel
theorem dX6_isTaken_25 : decode cX6_isTaken 25 = .ok (.irem, 1) := by decide +kernel
theorem dX6_isTaken_26 : decode cX6_isTaken 26 = .ok (.invokestatic 59, 3) := by decide +kernel
theorem dX6_isTaken_29 : decode cX6_isTaken 29 = .ok (.ifCond .eq 7, 3) := by decide +kernel
theorem dX6_isTaken_32 : decode cX6_isTaken 32 = .ok (.iconst 1, 1) := by decide +kernel
theorem dX6_isTaken_33 : decode cX6_isTaken 33 = .ok (.goto 4, 3) := by decide +kernel
theorem dX6_isTaken_36 : decode cX6_isTaken 36 = .ok (.iconst 0, 1) := by decide +kernel
theorem dX6_isTaken_37 : decode cX6_isTaken 37 = .ok (.istore 4, 2) := by decide +kernel
theorem dX6_isTaken_39 : decode cX6_isTaken 39 = .ok (.iinc 5 1, 3) := by decide +kernel
theorem dX6_isTaken_42 : decode cX6_isTaken 42 = .ok (.goto (-36), 3) := by decide +kernel
theorem dX6_isTaken_45 : decode cX6_isTaken 45 = .ok (.iload 4, 2) := by decide +kernel
theorem dX6_isTaken_47 : decode cX6_isTaken 47 = .ok (.ireturn, 1) := by decide +kernel
set_option maxRecDepth 20000 in
theorem ggX6_pegAt_X6_peg : GoodIn wsX6_pegAt wsX6_peg := goodIn_r _ [4] (by decide +kernel) (by decide +kernel)
set_option maxRecDepth 20000 in
theorem gX6_pegAt_X6_peg : GoodIn wsX6_pegAt (va_wsS RX6 51 yX6_peg wsX6_peg) := goodIn_app (goodIn_of _ (by decide +kernel)) ggX6_pegAt_X6_peg
theorem dX6_pegAt_0 : decode cX6_pegAt 0 = .ok (.iconst 0, 1) := by decide +kernel
theorem dX6_pegAt_1 : decode cX6_pegAt 1 = .ok (.istore_n 3, 1) := by decide +kernel
theorem dX6_pegAt_2 : decode cX6_pegAt 2 = .ok (.iload_n 3, 1) := by decide +kernel
theorem dX6_pegAt_3 : decode cX6_pegAt 3 = .ok (.aload_n 0, 1) := by decide +kernel
theorem dX6_pegAt_4 : decode cX6_pegAt 4 = .ok (.iconst 0, 1) := by decide +kernel
theorem dX6_pegAt_5 : decode cX6_pegAt 5 = .ok (.iaload, 1) := by decide +kernel
theorem dX6_pegAt_6 : decode cX6_pegAt 6 = .ok (.if_icmp .ge 31, 3) := by decide +kernel
theorem dX6_pegAt_9 : decode cX6_pegAt 9 = .ok (.aload_n 0, 1) := by decide +kernel
theorem dX6_pegAt_10 : decode cX6_pegAt 10 = .ok (.iload_n 3, 1) := by decide +kernel
theorem dX6_pegAt_11 : decode cX6_pegAt 11 = .ok (.iconst 0, 1) := by decide +kernel
theorem dX6_pegAt_12 : decode cX6_pegAt 12 = .ok (.invokestatic 51, 3) := by decide +kernel
theorem dX6_pegAt_15 : decode cX6_pegAt 15 = .ok (.iload_n 1, 1) := by decide +kernel
theorem dX6_pegAt_16 : decode cX6_pegAt 16 = .ok (.if_icmp .ne 15, 3) := by decide +kernel
theorem dX6_pegAt_19 : decode cX6_pegAt 19 = .ok (.aload_n 0, 1) := by decide +kernel
theorem dX6_pegAt_20 : decode cX6_pegAt 20 = .ok (.iload_n 3, 1) := by decide +kernel
theorem dX6_pegAt_21 : decode cX6_pegAt 21 = .ok (.iconst 1, 1) := by decide +kernel
theorem dX6_pegAt_22 : decode cX6_pegAt 22 = .ok (.invokestatic 51, 3) := by decide +kernel
theorem dX6_pegAt_25 : decode cX6_pegAt 25 = .ok (.iload_n 2, 1) := by decide +kernel
theorem dX6_pegAt_26 : decode cX6_pegAt 26 = .ok (.if_icmp .ne 5, 3) := by decide +kernel
theorem dX6_pegAt_29 : decode cX6_pegAt 29 = .ok (.iload_n 3, 1) := by decide +kernel
theorem dX6_pegAt_30 : decode cX6_pegAt 30 = .ok (.ireturn, 1) := by decide +kernel
theorem dX6_pegAt_31 : decode cX6_pegAt 31 = .ok (.iinc 3 1, 3) := by decide +kernel
theorem dX6_pegAt_34 : decode cX6_pegAt 34 = .ok (.goto (-32), 3) := by decide +kernel
theorem dX6_pegAt_37 : decode cX6_pegAt 37 = .ok (.iconst (-1), 1) := by decide +kernel
theorem dX6_pegAt_38 : decode cX6_pegAt 38 = .ok (.ireturn, 1) := by decide +kernel
theorem dX6_dropOrder_0 : decode cX6_dropOrder 0 = .ok (.sipush 157, 3) := by decide +kernel
theorem dX6_dropOrder_3 : decode cX6_dropOrder 3 = .ok (.iconst 5, 1) := by decide +kernel
theorem dX6_dropOrder_4 : decode cX6_dropOrder 4 = .ok (.iload_n 1, 1) := by decide +kernel
theorem dX6_dropOrder_5 : decode cX6_dropOrder 5 = .ok (.imul, 1) := by decide +kernel
theorem dX6_dropOrder_6 : decode cX6_dropOrder 6 = .ok (.iadd, 1) := by decide +kernel
theorem dX6_dropOrder_7 : decode cX6_dropOrder 7 = .ok (.istore_n 2, 1) := by decide +kernel
theorem dX6_dropOrder_8 : decode cX6_dropOrder 8 = .ok (.iload_n 2, 1) := by decide +kernel
theorem dX6_dropOrder_9 : decode cX6_dropOrder 9 = .ok (.sipush 157, 3) := by decide +kernel
theorem dX6_dropOrder_12 : decode cX6_dropOrder 12 = .ok (.iconst 5, 1) := by decide +kernel
theorem dX6_dropOrder_13 : decode cX6_dropOrder 13 = .ok (.aload_n 0, 1) := by decide +kernel
theorem dX6_dropOrder_14 : decode cX6_dropOrder 14 = .ok (.iconst 1, 1) := by decide +kernel
theorem dX6_dropOrder_15 : decode cX6_dropOrder 15 = .ok (.iaload, 1) := by decide +kernel
theorem dX6_dropOrder_16 : decode cX6_dropOrder 16 = .ok (.iconst 1, 1) := by decide +kernel
theorem dX6_dropOrder_17 : decode cX6_dropOrder 17 = .ok (.isub, 1) := by decide +kernel
theorem dX6_dropOrder_18 : decode cX6_dropOrder 18 = .ok (.imul, 1) := by decide +kernel
theorem dX6_dropOrder_19 : decode cX6_dropOrder 19 = .ok (.iadd, 1) := by decide +kernel
theorem dX6_dropOrder_20 : decode cX6_dropOrder 20 = .ok (.if_icmp .ge 17, 3) := by decide +kernel
theorem dX6_dropOrder_23 : decode cX6_dropOrder 23 = .ok (.aload_n 0, 1) := by decide +kernel
theorem dX6_dropOrder_24 : decode cX6_dropOrder 24 = .ok (.iload_n 2, 1) := by decide +kernel
theorem dX6_dropOrder_25 : decode cX6_dropOrder 25 = .ok (.aload_n 0, 1) := by decide +kernel
theorem dX6_dropOrder_26 : decode cX6_dropOrder 26 = .ok (.iload_n 2, 1) := by decide +kernel
theorem dX6_dropOrder_27 : decode cX6_dropOrder 27 = .ok (.iconst 5, 1) := by decide +kernel
theorem dX6_dropOrder_28 : decode cX6_dropOrder 28 = .ok (.iadd, 1) := by decide +kernel
theorem dX6_dropOrder_29 : decode cX6_dropOrder 29 = .ok (.iaload, 1) := by decide +kernel
theorem dX6_dropOrder_30 : decode cX6_dropOrder 30 = .ok (.iastore, 1) := by decide +kernel
theorem dX6_dropOrder_31 : decode cX6_dropOrder 31 = .ok (.iinc 2 1, 3) := by decide +kernel
theorem dX6_dropOrder_34 : decode cX6_dropOrder 34 = .ok (.goto (-26), 3) := by decide +kernel
theorem dX6_dropOrder_37 : decode cX6_dropOrder 37 = .ok (.aload_n 0, 1) := by decide +kernel
theorem dX6_dropOrder_38 : decode cX6_dropOrder 38 = .ok (.iconst 1, 1) := by decide +kernel
theorem dX6_dropOrder_39 : decode cX6_dropOrder 39 = .ok (.dup2, 1) := by decide +kernel
theorem dX6_dropOrder_40 : decode cX6_dropOrder 40 = .ok (.iaload, 1) := by decide +kernel
theorem dX6_dropOrder_41 : decode cX6_dropOrder 41 = .ok (.iconst 1, 1) := by decide +kernel
theorem dX6_dropOrder_42 : decode cX6_dropOrder 42 = .ok (.isub, 1) := by decide +kernel
theorem dX6_dropOrder_43 : decode cX6_dropOrder 43 = .ok (.iastore, 1) := by decide +kernel
theorem dX6_dropOrder_44 : decode cX6_dropOrder 44 = .ok (.return_, 1) := by decide +kernel
theorem dX6_dropPeg_0 : decode cX6_dropPeg 0 = .ok (.bipush 37, 2) := by decide +kernel
theorem dX6_dropPeg_2 : decode cX6_dropPeg 2 = .ok (.iconst 4, 1) := by decide +kernel
theorem dX6_dropPeg_3 : decode cX6_dropPeg 3 = .ok (.iload_n 1, 1) := by decide +kernel
theorem dX6_dropPeg_4 : decode cX6_dropPeg 4 = .ok (.imul, 1) := by decide +kernel
theorem dX6_dropPeg_5 : decode cX6_dropPeg 5 = .ok (.iadd, 1) := by decide +kernel
theorem dX6_dropPeg_6 : decode cX6_dropPeg 6 = .ok (.istore_n 2, 1) := by decide +kernel
theorem dX6_dropPeg_7 : decode cX6_dropPeg 7 = .ok (.iload_n 2, 1) := by decide +kernel
theorem dX6_dropPeg_8 : decode cX6_dropPeg 8 = .ok (.bipush 37, 2) := by decide +kernel
theorem dX6_dropPeg_10 : decode cX6_dropPeg 10 = .ok (.iconst 4, 1) := by decide +kernel
theorem dX6_dropPeg_11 : decode cX6_dropPeg 11 = .ok (.aload_n 0, 1) := by decide +kernel
theorem dX6_dropPeg_12 : decode cX6_dropPeg 12 = .ok (.iconst 0, 1) := by decide +kernel
theorem dX6_dropPeg_13 : decode cX6_dropPeg 13 = .ok (.iaload, 1) := by decide +kernel
theorem dX6_dropPeg_14 : decode cX6_dropPeg 14 = .ok (.iconst 1, 1) := by decide +kernel
theorem dX6_dropPeg_15 : decode cX6_dropPeg 15 = .ok (.isub, 1) := by decide +kernel
theorem dX6_dropPeg_16 : decode cX6_dropPeg 16 = .ok (.imul, 1) := by decide +kernel
theorem dX6_dropPeg_17 : decode cX6_dropPeg 17 = .ok (.iadd, 1) := by decide +kernel
theorem dX6_dropPeg_18 : decode cX6_dropPeg 18 = .ok (.if_icmp .ge 17, 3) := by decide +kernel
theorem dX6_dropPeg_21 : decode cX6_dropPeg 21 = .ok (.aload_n 0, 1) := by decide +kernel
theorem dX6_dropPeg_22 : decode cX6_dropPeg 22 = .ok (.iload_n 2, 1) := by decide +kernel
theorem dX6_dropPeg_23 : decode cX6_dropPeg 23 = .ok (.aload_n 0, 1) := by decide +kernel
theorem dX6_dropPeg_24 : decode cX6_dropPeg 24 = .ok (.iload_n 2, 1) := by decide +kernel
theorem dX6_dropPeg_25 : decode cX6_dropPeg 25 = .ok (.iconst 4, 1) := by decide +kernel
theorem dX6_dropPeg_26 : decode cX6_dropPeg 26 = .ok (.iadd, 1) := by decide +kernel
theorem dX6_dropPeg_27 : decode cX6_dropPeg 27 = .ok (.iaload, 1) := by decide +kernel
theorem dX6_dropPeg_28 : decode cX6_dropPeg 28 = .ok (.iastore, 1) := by decide +kernel
theorem dX6_dropPeg_29 : decode cX6_dropPeg 29 = .ok (.iinc 2 1, 3) := by decide +kernel
theorem dX6_dropPeg_32 : decode cX6_dropPeg 32 = .ok (.goto (-25), 3) := by decide +kernel
theorem dX6_dropPeg_35 : decode cX6_dropPeg 35 = .ok (.aload_n 0, 1) := by decide +kernel
theorem dX6_dropPeg_36 : decode cX6_dropPeg 36 = .ok (.iconst 0, 1) := by decide +kernel
theorem dX6_dropPeg_37 : decode cX6_dropPeg 37 = .ok (.dup2, 1) := by decide +kernel
theorem dX6_dropPeg_38 : decode cX6_dropPeg 38 = .ok (.iaload, 1) := by decide +kernel
theorem dX6_dropPeg_39 : decode cX6_dropPeg 39 = .ok (.iconst 1, 1) := by decide +kernel
theorem dX6_dropPeg_40 : decode cX6_dropPeg 40 = .ok (.isub, 1) := by decide +kernel
theorem dX6_dropPeg_41 : decode cX6_dropPeg 41 = .ok (.iastore, 1) := by decide +kernel
theorem dX6_dropPeg_42 : decode cX6_dropPeg 42 = .ok (.return_, 1) := by decide +kernel
set_option maxRecDepth 20000 in
theorem ggX6_waits_X6_order : GoodIn wsX6_waits wsX6_order := goodIn_r _ [4] (by decide +kernel) (by decide +kernel)
set_option maxRecDepth 20000 in
theorem gX6_waits_X6_order : GoodIn wsX6_waits (va_wsS RX6 63 yX6_order wsX6_order) := goodIn_app (goodIn_of _ (by decide +kernel)) ggX6_waits_X6_order
set_option maxRecDepth 20000 in
theorem ggX6_waits_X6_isOpen : GoodIn wsX6_waits wsX6_isOpen := goodIn_r _ [7, 8, 9, 3, 10, 11, 12, 13, 14, 15, 16] (by decide +kernel) (by decide +kernel)
set_option maxRecDepth 20000 in
theorem gX6_waits_X6_isOpen : GoodIn wsX6_waits (va_wsS RX6 66 yX6_isOpen wsX6_isOpen) := goodIn_app (goodIn_of _ (by decide +kernel)) ggX6_waits_X6_isOpen
set_option maxRecDepth 20000 in
theorem ggX6_waits_X6_isOver : GoodIn wsX6_waits wsX6_isOver := goodIn_r _ [16] (by decide +kernel) (by decide +kernel)
set_option maxRecDepth 20000 in
theorem gX6_waits_X6_isOver : GoodIn wsX6_waits (va_wsS RX6 55 yX6_isOver wsX6_isOver) := goodIn_app (goodIn_of _ (by decide +kernel)) ggX6_waits_X6_isOver
theorem dX6_waits_0 : decode cX6_waits 0 = .ok (.aload_n 0, 1) := by decide +kernel
theorem dX6_waits_1 : decode cX6_waits 1 = .ok (.iload_n 1, 1) := by decide +kernel
theorem dX6_waits_2 : decode cX6_waits 2 = .ok (.iconst 0, 1) := by decide +kernel
theorem dX6_waits_3 : decode cX6_waits 3 = .ok (.invokestatic 63, 3) := by decide +kernel
theorem dX6_waits_6 : decode cX6_waits 6 = .ok (.iconst 1, 1) := by decide +kernel
theorem dX6_waits_7 : decode cX6_waits 7 = .ok (.if_icmp .ne 7, 3) := by decide +kernel
theorem dX6_waits_10 : decode cX6_waits 10 = .ok (.iconst 1, 1) := by decide +kernel
theorem dX6_waits_11 : decode cX6_waits 11 = .ok (.goto 4, 3) := by decide +kernel
theorem dX6_waits_14 : decode cX6_waits 14 = .ok (.iconst 0, 1) := by decide +kernel
theorem dX6_waits_15 : decode cX6_waits 15 = .ok (.istore_n 2, 1) := by decide +kernel
theorem dX6_waits_16 : decode cX6_waits 16 = .ok (.aload_n 0, 1) := by decide +kernel
theorem dX6_waits_17 : decode cX6_waits 17 = .ok (.aload_n 0, 1) := by decide +kernel
theorem dX6_waits_18 : decode cX6_waits 18 = .ok (.iload_n 1, 1) := by decide +kernel
theorem dX6_waits_19 : decode cX6_waits 19 = .ok (.iconst 1, 1) := by decide +kernel
theorem dX6_waits_20 : decode cX6_waits 20 = .ok (.invokestatic 63, 3) := by decide +kernel
theorem dX6_waits_23 : decode cX6_waits 23 = .ok (.invokestatic 66, 3) := by decide +kernel
theorem dX6_waits_26 : decode cX6_waits 26 = .ok (.ifCond .ne 28, 3) := by decide +kernel
theorem dX6_waits_29 : decode cX6_waits 29 = .ok (.iload_n 2, 1) := by decide +kernel
theorem dX6_waits_30 : decode cX6_waits 30 = .ok (.ifCond .eq 28, 3) := by decide +kernel
theorem dX6_waits_33 : decode cX6_waits 33 = .ok (.aload_n 0, 1) := by decide +kernel
theorem dX6_waits_34 : decode cX6_waits 34 = .ok (.iload_n 1, 1) := by decide +kernel
theorem dX6_waits_35 : decode cX6_waits 35 = .ok (.iconst 2, 1) := by decide +kernel
theorem dX6_waits_36 : decode cX6_waits 36 = .ok (.invokestatic 63, 3) := by decide +kernel
theorem dX6_waits_39 : decode cX6_waits 39 = .ok (.aload_n 0, 1) := by decide +kernel
theorem dX6_waits_40 : decode cX6_waits 40 = .ok (.iload_n 1, 1) := by decide +kernel
theorem dX6_waits_41 : decode cX6_waits 41 = .ok (.iconst 3, 1) := by decide +kernel
theorem dX6_waits_42 : decode cX6_waits 42 = .ok (.invokestatic 63, 3) := by decide +kernel
theorem dX6_waits_45 : decode cX6_waits 45 = .ok (.aload_n 0, 1) := by decide +kernel
theorem dX6_waits_46 : decode cX6_waits 46 = .ok (.iconst 3, 1) := by decide +kernel
theorem dX6_waits_47 : decode cX6_waits 47 = .ok (.iaload, 1) := by decide +kernel
theorem dX6_waits_48 : decode cX6_waits 48 = .ok (.invokestatic 55, 3) := by decide +kernel
theorem dX6_waits_51 : decode cX6_waits 51 = .ok (.ifCond .eq 7, 3) := by decide +kernel
theorem dX6_waits_54 : decode cX6_waits 54 = .ok (.iconst 1, 1) := by decide +kernel
theorem dX6_waits_55 : decode cX6_waits 55 = .ok (.goto 4, 3) := by decide +kernel
theorem dX6_waits_58 : decode cX6_waits 58 = .ok (.iconst 0, 1) := by decide +kernel
theorem dX6_waits_59 : decode cX6_waits 59 = .ok (.ireturn, 1) := by decide +kernel
set_option maxRecDepth 20000 in
theorem ggX6_isVoid_X6_order : GoodIn wsX6_isVoid wsX6_order := goodIn_r _ [4] (by decide +kernel) (by decide +kernel)
set_option maxRecDepth 20000 in
theorem gX6_isVoid_X6_order : GoodIn wsX6_isVoid (va_wsS RX6 63 yX6_order wsX6_order) := goodIn_app (goodIn_of _ (by decide +kernel)) ggX6_isVoid_X6_order
set_option maxRecDepth 20000 in
theorem ggX6_isVoid_X6_isTaken : GoodIn wsX6_isVoid wsX6_isTaken := goodIn_r _ [7, 8, 9, 3, 10, 11, 12, 13, 14, 15, 16] (by decide +kernel) (by decide +kernel)
set_option maxRecDepth 20000 in
theorem gX6_isVoid_X6_isTaken : GoodIn wsX6_isVoid (va_wsS RX6 70 yX6_isTaken wsX6_isTaken) := goodIn_app (goodIn_of _ (by decide +kernel)) ggX6_isVoid_X6_isTaken
set_option maxRecDepth 20000 in
theorem ggX6_isVoid_X6_pegAt : GoodIn wsX6_isVoid wsX6_pegAt := goodIn_r _ [19, 11, 12, 3, 13] (by decide +kernel) (by decide +kernel)
set_option maxRecDepth 20000 in
theorem gX6_isVoid_X6_pegAt : GoodIn wsX6_isVoid (va_wsS RX6 74 yX6_pegAt wsX6_pegAt) := goodIn_app (goodIn_of _ (by decide +kernel)) ggX6_isVoid_X6_pegAt
theorem dX6_isVoid_0 : decode cX6_isVoid 0 = .ok (.aload_n 0, 1) := by decide +kernel
theorem dX6_isVoid_1 : decode cX6_isVoid 1 = .ok (.iload_n 1, 1) := by decide +kernel
theorem dX6_isVoid_2 : decode cX6_isVoid 2 = .ok (.iconst 1, 1) := by decide +kernel
theorem dX6_isVoid_3 : decode cX6_isVoid 3 = .ok (.invokestatic 63, 3) := by decide +kernel
theorem dX6_isVoid_6 : decode cX6_isVoid 6 = .ok (.istore_n 2, 1) := by decide +kernel
theorem dX6_isVoid_7 : decode cX6_isVoid 7 = .ok (.aload_n 0, 1) := by decide +kernel
theorem dX6_isVoid_8 : decode cX6_isVoid 8 = .ok (.iload_n 1, 1) := by decide +kernel
theorem dX6_isVoid_9 : decode cX6_isVoid 9 = .ok (.iconst 2, 1) := by decide +kernel
theorem dX6_isVoid_10 : decode cX6_isVoid 10 = .ok (.invokestatic 63, 3) := by decide +kernel
theorem dX6_isVoid_13 : decode cX6_isVoid 13 = .ok (.istore_n 3, 1) := by decide +kernel
theorem dX6_isVoid_14 : decode cX6_isVoid 14 = .ok (.aload_n 0, 1) := by decide +kernel
theorem dX6_isVoid_15 : decode cX6_isVoid 15 = .ok (.iload_n 1, 1) := by decide +kernel
theorem dX6_isVoid_16 : decode cX6_isVoid 16 = .ok (.iconst 0, 1) := by decide +kernel
theorem dX6_isVoid_17 : decode cX6_isVoid 17 = .ok (.invokestatic 63, 3) := by decide +kernel
theorem dX6_isVoid_20 : decode cX6_isVoid 20 = .ok (.iconst 1, 1) := by decide +kernel
theorem dX6_isVoid_21 : decode cX6_isVoid 21 = .ok (.if_icmp .ne 34, 3) := by decide +kernel
theorem dX6_isVoid_24 : decode cX6_isVoid 24 = .ok (.aload_n 0, 1) := by decide +kernel
theorem dX6_isVoid_25 : decode cX6_isVoid 25 = .ok (.iload_n 2, 1) := by decide +kernel
theorem dX6_isVoid_26 : decode cX6_isVoid 26 = .ok (.iload_n 3, 1) := by decide +kernel
theorem dX6_isVoid_27 : decode cX6_isVoid 27 = .ok (.aload_n 0, 1) := by decide +kernel
theorem dX6_isVoid_28 : decode cX6_isVoid 28 = .ok (.iload_n 1, 1) := by decide +kernel
theorem dX6_isVoid_29 : decode cX6_isVoid 29 = .ok (.iconst 3, 1) := by decide +kernel
theorem dX6_isVoid_30 : decode cX6_isVoid 30 = .ok (.invokestatic 63, 3) := by decide +kernel
theorem dX6_isVoid_33 : decode cX6_isVoid 33 = .ok (.invokestatic 70, 3) := by decide +kernel
theorem dX6_isVoid_36 : decode cX6_isVoid 36 = .ok (.ifCond .ne 11, 3) := by decide +kernel
theorem dX6_isVoid_39 : decode cX6_isVoid 39 = .ok (.aload_n 0, 1) := by decide +kernel
theorem dX6_isVoid_40 : decode cX6_isVoid 40 = .ok (.iconst 0, 1) := by decide +kernel
theorem dX6_isVoid_41 : decode cX6_isVoid 41 = .ok (.iaload, 1) := by decide +kernel
theorem dX6_isVoid_42 : decode cX6_isVoid 42 = .ok (.bipush 30, 2) := by decide +kernel
theorem dX6_isVoid_44 : decode cX6_isVoid 44 = .ok (.if_icmp .ne 7, 3) := by decide +kernel
theorem dX6_isVoid_47 : decode cX6_isVoid 47 = .ok (.iconst 1, 1) := by decide +kernel
theorem dX6_isVoid_48 : decode cX6_isVoid 48 = .ok (.goto 22, 3) := by decide +kernel
theorem dX6_isVoid_51 : decode cX6_isVoid 51 = .ok (.iconst 0, 1) := by decide +kernel
theorem dX6_isVoid_52 : decode cX6_isVoid 52 = .ok (.goto 18, 3) := by decide +kernel
theorem dX6_isVoid_55 : decode cX6_isVoid 55 = .ok (.aload_n 0, 1) := by decide +kernel
theorem dX6_isVoid_56 : decode cX6_isVoid 56 = .ok (.iload_n 2, 1) := by decide +kernel
theorem dX6_isVoid_57 : decode cX6_isVoid 57 = .ok (.iload_n 3, 1) := by decide +kernel
theorem dX6_isVoid_58 : decode cX6_isVoid 58 = .ok (.invokestatic 74, 3) := by decide +kernel
theorem dX6_isVoid_61 : decode cX6_isVoid 61 = .ok (.iconst (-1), 1) := by decide +kernel
theorem dX6_isVoid_62 : decode cX6_isVoid 62 = .ok (.if_icmp .ne 7, 3) := by decide +kernel
theorem dX6_isVoid_65 : decode cX6_isVoid 65 = .ok (.iconst 1, 1) := by decide +kernel
theorem dX6_isVoid_66 : decode cX6_isVoid 66 = .ok (.goto 4, 3) := by decide +kernel
theorem dX6_isVoid_69 : decode cX6_isVoid 69 = .ok (.iconst 0, 1) := by decide +kernel
theorem dX6_isVoid_70 : decode cX6_isVoid 70 = .ok (.ireturn, 1) := by decide +kernel
set_option maxRecDepth 20000 in
theorem ggX6_doOrder_X6_order : GoodIn wsX6_doOrder wsX6_order := goodIn_r _ [4] (by decide +kernel) (by decide +kernel)
set_option maxRecDepth 20000 in
theorem gX6_doOrder_X6_order : GoodIn wsX6_doOrder (va_wsS RX6 63 yX6_order wsX6_order) := goodIn_app (goodIn_of _ (by decide +kernel)) ggX6_doOrder_X6_order
set_option maxRecDepth 20000 in
theorem ggX6_doOrder_X6_pegAt : GoodIn wsX6_doOrder wsX6_pegAt := goodIn_r _ [7, 8, 9, 3, 10] (by decide +kernel) (by decide +kernel)
set_option maxRecDepth 20000 in
theorem gX6_doOrder_X6_pegAt : GoodIn wsX6_doOrder (va_wsS RX6 74 yX6_pegAt wsX6_pegAt) := goodIn_app (goodIn_of _ (by decide +kernel)) ggX6_doOrder_X6_pegAt
set_option maxRecDepth 20000 in
theorem ggX6_doOrder_X6_dropPeg : GoodIn wsX6_doOrder wsX6_dropPeg := goodIn_r _ [13] (by decide +kernel) (by decide +kernel)
set_option maxRecDepth 20000 in
theorem gX6_doOrder_X6_dropPeg : GoodIn wsX6_doOrder (va_wsS RX6 77 yX6_dropPeg wsX6_dropPeg) := goodIn_app (goodIn_of _ (by decide +kernel)) ggX6_doOrder_X6_dropPeg
theorem dX6_doOrder_0 : decode cX6_doOrder 0 = .ok (.aload_n 0, 1) := by decide +kernel
theorem dX6_doOrder_1 : decode cX6_doOrder 1 = .ok (.iconst 5, 1) := by decide +kernel
theorem dX6_doOrder_2 : decode cX6_doOrder 2 = .ok (.dup2, 1) := by decide +kernel
theorem dX6_doOrder_3 : decode cX6_doOrder 3 = .ok (.iaload, 1) := by decide +kernel
theorem dX6_doOrder_4 : decode cX6_doOrder 4 = .ok (.iconst 1, 1) := by decide +kernel
theorem dX6_doOrder_5 : decode cX6_doOrder 5 = .ok (.iadd, 1) := by decide +kernel
theorem dX6_doOrder_6 : decode cX6_doOrder 6 = .ok (.iastore, 1) := by decide +kernel
theorem dX6_doOrder_7 : decode cX6_doOrder 7 = .ok (.aload_n 0, 1) := by decide +kernel
theorem dX6_doOrder_8 : decode cX6_doOrder 8 = .ok (.iload_n 1, 1) := by decide +kernel
theorem dX6_doOrder_9 : decode cX6_doOrder 9 = .ok (.iconst 0, 1) := by decide +kernel
theorem dX6_doOrder_10 : decode cX6_doOrder 10 = .ok (.invokestatic 63, 3) := by decide +kernel
theorem dX6_doOrder_13 : decode cX6_doOrder 13 = .ok (.iconst 1, 1) := by decide +kernel
theorem dX6_doOrder_14 : decode cX6_doOrder 14 = .ok (.if_icmp .ne 61, 3) := by decide +kernel
theorem dX6_doOrder_17 : decode cX6_doOrder 17 = .ok (.bipush 37, 2) := by decide +kernel
theorem dX6_doOrder_19 : decode cX6_doOrder 19 = .ok (.iconst 4, 1) := by decide +kernel
theorem dX6_doOrder_20 : decode cX6_doOrder 20 = .ok (.aload_n 0, 1) := by decide +kernel
theorem dX6_doOrder_21 : decode cX6_doOrder 21 = .ok (.iconst 0, 1) := by decide +kernel
theorem dX6_doOrder_22 : decode cX6_doOrder 22 = .ok (.iaload, 1) := by decide +kernel
theorem dX6_doOrder_23 : decode cX6_doOrder 23 = .ok (.imul, 1) := by decide +kernel
theorem dX6_doOrder_24 : decode cX6_doOrder 24 = .ok (.iadd, 1) := by decide +kernel
theorem dX6_doOrder_25 : decode cX6_doOrder 25 = .ok (.istore_n 2, 1) := by decide +kernel
theorem dX6_doOrder_26 : decode cX6_doOrder 26 = .ok (.aload_n 0, 1) := by decide +kernel
theorem dX6_doOrder_27 : decode cX6_doOrder 27 = .ok (.iload_n 2, 1) := by decide +kernel
theorem dX6_doOrder_28 : decode cX6_doOrder 28 = .ok (.aload_n 0, 1) := by decide +kernel
theorem dX6_doOrder_29 : decode cX6_doOrder 29 = .ok (.iload_n 1, 1) := by decide +kernel
theorem dX6_doOrder_30 : decode cX6_doOrder 30 = .ok (.iconst 1, 1) := by decide +kernel
theorem dX6_doOrder_31 : decode cX6_doOrder 31 = .ok (.invokestatic 63, 3) := by decide +kernel
theorem dX6_doOrder_34 : decode cX6_doOrder 34 = .ok (.iastore, 1) := by decide +kernel
theorem dX6_doOrder_35 : decode cX6_doOrder 35 = .ok (.aload_n 0, 1) := by decide +kernel
theorem dX6_doOrder_36 : decode cX6_doOrder 36 = .ok (.iload_n 2, 1) := by decide +kernel
theorem dX6_doOrder_37 : decode cX6_doOrder 37 = .ok (.iconst 1, 1) := by decide +kernel
theorem dX6_doOrder_38 : decode cX6_doOrder 38 = .ok (.iadd, 1) := by decide +kernel
theorem dX6_doOrder_39 : decode cX6_doOrder 39 = .ok (.aload_n 0, 1) := by decide +kernel
theorem dX6_doOrder_40 : decode cX6_doOrder 40 = .ok (.iload_n 1, 1) := by decide +kernel
theorem dX6_doOrder_41 : decode cX6_doOrder 41 = .ok (.iconst 2, 1) := by decide +kernel
theorem dX6_doOrder_42 : decode cX6_doOrder 42 = .ok (.invokestatic 63, 3) := by decide +kernel
theorem dX6_doOrder_45 : decode cX6_doOrder 45 = .ok (.iastore, 1) := by decide +kernel
theorem dX6_doOrder_46 : decode cX6_doOrder 46 = .ok (.aload_n 0, 1) := by decide +kernel
theorem dX6_doOrder_47 : decode cX6_doOrder 47 = .ok (.iload_n 2, 1) := by decide +kernel
theorem dX6_doOrder_48 : decode cX6_doOrder 48 = .ok (.iconst 2, 1) := by decide +kernel
theorem dX6_doOrder_49 : decode cX6_doOrder 49 = .ok (.iadd, 1) := by decide +kernel
theorem dX6_doOrder_50 : decode cX6_doOrder 50 = .ok (.aload_n 0, 1) := by decide +kernel
theorem dX6_doOrder_51 : decode cX6_doOrder 51 = .ok (.iload_n 1, 1) := by decide +kernel
theorem dX6_doOrder_52 : decode cX6_doOrder 52 = .ok (.iconst 3, 1) := by decide +kernel
theorem dX6_doOrder_53 : decode cX6_doOrder 53 = .ok (.invokestatic 63, 3) := by decide +kernel
theorem dX6_doOrder_56 : decode cX6_doOrder 56 = .ok (.iastore, 1) := by decide +kernel
theorem dX6_doOrder_57 : decode cX6_doOrder 57 = .ok (.aload_n 0, 1) := by decide +kernel
theorem dX6_doOrder_58 : decode cX6_doOrder 58 = .ok (.iload_n 2, 1) := by decide +kernel
theorem dX6_doOrder_59 : decode cX6_doOrder 59 = .ok (.iconst 3, 1) := by decide +kernel
theorem dX6_doOrder_60 : decode cX6_doOrder 60 = .ok (.iadd, 1) := by decide +kernel
theorem dX6_doOrder_61 : decode cX6_doOrder 61 = .ok (.aload_n 0, 1) := by decide +kernel
theorem dX6_doOrder_62 : decode cX6_doOrder 62 = .ok (.iconst 5, 1) := by decide +kernel
theorem dX6_doOrder_63 : decode cX6_doOrder 63 = .ok (.iaload, 1) := by decide +kernel
theorem dX6_doOrder_64 : decode cX6_doOrder 64 = .ok (.iastore, 1) := by decide +kernel
theorem dX6_doOrder_65 : decode cX6_doOrder 65 = .ok (.aload_n 0, 1) := by decide +kernel
theorem dX6_doOrder_66 : decode cX6_doOrder 66 = .ok (.iconst 0, 1) := by decide +kernel
theorem dX6_doOrder_67 : decode cX6_doOrder 67 = .ok (.dup2, 1) := by decide +kernel
theorem dX6_doOrder_68 : decode cX6_doOrder 68 = .ok (.iaload, 1) := by decide +kernel
theorem dX6_doOrder_69 : decode cX6_doOrder 69 = .ok (.iconst 1, 1) := by decide +kernel
theorem dX6_doOrder_70 : decode cX6_doOrder 70 = .ok (.iadd, 1) := by decide +kernel
theorem dX6_doOrder_71 : decode cX6_doOrder 71 = .ok (.iastore, 1) := by decide +kernel
theorem dX6_doOrder_72 : decode cX6_doOrder 72 = .ok (.goto 23, 3) := by decide +kernel
theorem dX6_doOrder_75 : decode cX6_doOrder 75 = .ok (.aload_n 0, 1) := by decide +kernel
theorem dX6_doOrder_76 : decode cX6_doOrder 76 = .ok (.aload_n 0, 1) := by decide +kernel
theorem dX6_doOrder_77 : decode cX6_doOrder 77 = .ok (.aload_n 0, 1) := by decide +kernel
theorem dX6_doOrder_78 : decode cX6_doOrder 78 = .ok (.iload_n 1, 1) := by decide +kernel
theorem dX6_doOrder_79 : decode cX6_doOrder 79 = .ok (.iconst 1, 1) := by decide +kernel
theorem dX6_doOrder_80 : decode cX6_doOrder 80 = .ok (.invokestatic 63, 3) := by decide +kernel
theorem dX6_doOrder_83 : decode cX6_doOrder 83 = .ok (.aload_n 0, 1) := by decide +kernel
theorem dX6_doOrder_84 : decode cX6_doOrder 84 = .ok (.iload_n 1, 1) := by decide +kernel
theorem dX6_doOrder_85 : decode cX6_doOrder 85 = .ok (.iconst 2, 1) := by decide +kernel
theorem dX6_doOrder_86 : decode cX6_doOrder 86 = .ok (.invokestatic 63, 3) := by decide +kernel
theorem dX6_doOrder_89 : decode cX6_doOrder 89 = .ok (.invokestatic 74, 3) := by decide +kernel
theorem dX6_doOrder_92 : decode cX6_doOrder 92 = .ok (.invokestatic 77, 3) := by decide +kernel
theorem dX6_doOrder_95 : decode cX6_doOrder 95 = .ok (.return_, 1) := by decide +kernel
set_option maxRecDepth 20000 in
theorem ggX6_lookAtOrders_X6_waits : GoodIn wsX6_lookAtOrders wsX6_waits := goodIn_r _ [4, 5, 6, 3, 7, 8, 9, 10, 11, 12, 13, 14, 15, 16, 17, 18, 19] (by decide +kernel) (by decide +kernel)
set_option maxRecDepth 20000 in
theorem gX6_lookAtOrders_X6_waits : GoodIn wsX6_lookAtOrders (va_wsS RX6 81 yX6_waits wsX6_waits) := goodIn_app (goodIn_of _ (by decide +kernel)) ggX6_lookAtOrders_X6_waits
set_option maxRecDepth 20000 in
theorem ggX6_lookAtOrders_X6_isVoid : GoodIn wsX6_lookAtOrders wsX6_isVoid := goodIn_r _ [22, 5, 6, 3, 7, 23, 24, 25, 11, 12, 13, 14, 15, 16, 17, 18, 19, 26, 27, 28] (by decide +kernel) (by decide +kernel)
set_option maxRecDepth 20000 in
theorem gX6_lookAtOrders_X6_isVoid : GoodIn wsX6_lookAtOrders (va_wsS RX6 84 yX6_isVoid wsX6_isVoid) := goodIn_app (goodIn_of _ (by decide +kernel)) ggX6_lookAtOrders_X6_isVoid
set_option maxRecDepth 20000 in
theorem ggX6_lookAtOrders_X6_doOrder : GoodIn wsX6_lookAtOrders wsX6_doOrder := goodIn_r _ [31, 5, 6, 3, 7, 26, 27, 28, 14, 15, 16, 32, 33, 34] (by decide +kernel) (by decide +kernel)
set_option maxRecDepth 20000 in
theorem gX6_lookAtOrders_X6_doOrder : GoodIn wsX6_lookAtOrders (va_wsS RX6 87 yX6_doOrder wsX6_doOrder) := goodIn_app (goodIn_of _ (by decide +kernel)) ggX6_lookAtOrders_X6_doOrder
set_option maxRecDepth 20000 in
theorem ggX6_lookAtOrders_X6_dropOrder : GoodIn wsX6_lookAtOrders wsX6_dropOrder := goodIn_r _ [37] (by decide +kernel) (by decide +kernel)
set_option maxRecDepth 20000 in
theorem gX6_lookAtOrders_X6_dropOrder : GoodIn wsX6_lookAtOrders (va_wsS RX6 90 yX6_dropOrder wsX6_dropOrder) := goodIn_app (goodIn_of _ (by decide +kernel)) ggX6_lookAtOrders_X6_dropOrder
theorem dX6_lookAtOrders_0 : decode cX6_lookAtOrders 0 = .ok (.iconst 0, 1) := by decide +kernel
theorem dX6_lookAtOrders_1 : decode cX6_lookAtOrders 1 = .ok (.istore_n 1, 1) := by decide +kernel
theorem dX6_lookAtOrders_2 : decode cX6_lookAtOrders 2 = .ok (.iload_n 1, 1) := by decide +kernel
theorem dX6_lookAtOrders_3 : decode cX6_lookAtOrders 3 = .ok (.aload_n 0, 1) := by decide +kernel
theorem dX6_lookAtOrders_4 : decode cX6_lookAtOrders 4 = .ok (.iconst 1, 1) := by decide +kernel
theorem dX6_lookAtOrders_5 : decode cX6_lookAtOrders 5 = .ok (.iaload, 1) := by decide +kernel
theorem dX6_lookAtOrders_6 : decode cX6_lookAtOrders 6 = .ok (.if_icmp .ge 64, 3) := by decide +kernel
theorem dX6_lookAtOrders_9 : decode cX6_lookAtOrders 9 = .ok (.aload_n 0, 1) := by decide +kernel
theorem dX6_lookAtOrders_10 : decode cX6_lookAtOrders 10 = .ok (.iload_n 1, 1) := by decide +kernel
theorem dX6_lookAtOrders_11 : decode cX6_lookAtOrders 11 = .ok (.invokestatic 81, 3) := by decide +kernel
theorem dX6_lookAtOrders_14 : decode cX6_lookAtOrders 14 = .ok (.ifCond .eq 24, 3) := by decide +kernel
theorem dX6_lookAtOrders_17 : decode cX6_lookAtOrders 17 = .ok (.aload_n 0, 1) := by decide +kernel
theorem dX6_lookAtOrders_18 : decode cX6_lookAtOrders 18 = .ok (.sipush 157, 3) := by decide +kernel
theorem dX6_lookAtOrders_21 : decode cX6_lookAtOrders 21 = .ok (.iconst 5, 1) := by decide +kernel
theorem dX6_lookAtOrders_22 : decode cX6_lookAtOrders 22 = .ok (.iload_n 1, 1) := by decide +kernel
theorem dX6_lookAtOrders_23 : decode cX6_lookAtOrders 23 = .ok (.imul, 1) := by decide +kernel
theorem dX6_lookAtOrders_24 : decode cX6_lookAtOrders 24 = .ok (.iadd, 1) := by decide +kernel
theorem dX6_lookAtOrders_25 : decode cX6_lookAtOrders 25 = .ok (.iconst 4, 1) := by decide +kernel
theorem dX6_lookAtOrders_26 : decode cX6_lookAtOrders 26 = .ok (.iadd, 1) := by decide +kernel
theorem dX6_lookAtOrders_27 : decode cX6_lookAtOrders 27 = .ok (.dup2, 1) := by decide +kernel
theorem dX6_lookAtOrders_28 : decode cX6_lookAtOrders 28 = .ok (.iaload, 1) := by decide +kernel
theorem dX6_lookAtOrders_29 : decode cX6_lookAtOrders 29 = .ok (.iconst 1, 1) := by decide +kernel
theorem dX6_lookAtOrders_30 : decode cX6_lookAtOrders 30 = .ok (.iadd, 1) := by decide +kernel
theorem dX6_lookAtOrders_31 : decode cX6_lookAtOrders 31 = .ok (.iastore, 1) := by decide +kernel
theorem dX6_lookAtOrders_32 : decode cX6_lookAtOrders 32 = .ok (.iinc 1 1, 3) := by decide +kernel
theorem dX6_lookAtOrders_35 : decode cX6_lookAtOrders 35 = .ok (.goto (-33), 3) := by decide +kernel
theorem dX6_lookAtOrders_38 : decode cX6_lookAtOrders 38 = .ok (.aload_n 0, 1) := by decide +kernel
theorem dX6_lookAtOrders_39 : decode cX6_lookAtOrders 39 = .ok (.iload_n 1, 1) := by decide +kernel
theorem dX6_lookAtOrders_40 : decode cX6_lookAtOrders 40 = .ok (.invokestatic 84, 3) := by decide +kernel
theorem dX6_lookAtOrders_43 : decode cX6_lookAtOrders 43 = .ok (.ifCond .eq 14, 3) := by decide +kernel
theorem dX6_lookAtOrders_46 : decode cX6_lookAtOrders 46 = .ok (.aload_n 0, 1) := by decide +kernel
theorem dX6_lookAtOrders_47 : decode cX6_lookAtOrders 47 = .ok (.bipush 11, 2) := by decide +kernel
theorem dX6_lookAtOrders_49 : decode cX6_lookAtOrders 49 = .ok (.dup2, 1) := by decide +kernel
theorem dX6_lookAtOrders_50 : decode cX6_lookAtOrders 50 = .ok (.iaload, 1) := by decide +kernel
theorem dX6_lookAtOrders_51 : decode cX6_lookAtOrders 51 = .ok (.iconst 1, 1) := by decide +kernel
theorem dX6_lookAtOrders_52 : decode cX6_lookAtOrders 52 = .ok (.iadd, 1) := by decide +kernel
theorem dX6_lookAtOrders_53 : decode cX6_lookAtOrders 53 = .ok (.iastore, 1) := by decide +kernel
theorem dX6_lookAtOrders_54 : decode cX6_lookAtOrders 54 = .ok (.goto 8, 3) := by decide +kernel
theorem dX6_lookAtOrders_57 : decode cX6_lookAtOrders 57 = .ok (.aload_n 0, 1) := by decide +kernel
theorem dX6_lookAtOrders_58 : decode cX6_lookAtOrders 58 = .ok (.iload_n 1, 1) := by decide +kernel
theorem dX6_lookAtOrders_59 : decode cX6_lookAtOrders 59 = .ok (.invokestatic 87, 3) := by decide +kernel
theorem dX6_lookAtOrders_62 : decode cX6_lookAtOrders 62 = .ok (.aload_n 0, 1) := by decide +kernel
theorem dX6_lookAtOrders_63 : decode cX6_lookAtOrders 63 = .ok (.iload_n 1, 1) := by decide +kernel
theorem dX6_lookAtOrders_64 : decode cX6_lookAtOrders 64 = .ok (.invokestatic 90, 3) := by decide +kernel
theorem dX6_lookAtOrders_67 : decode cX6_lookAtOrders 67 = .ok (.goto (-65), 3) := by decide +kernel
theorem dX6_lookAtOrders_70 : decode cX6_lookAtOrders 70 = .ok (.return_, 1) := by decide +kernel
set_option maxRecDepth 20000 in
theorem ggX6_play_X6_isOpen : GoodIn wsX6_play wsX6_isOpen := goodIn_r _ [4, 5, 6, 3, 7, 8, 9, 10, 11, 12, 13] (by decide +kernel) (by decide +kernel)
set_option maxRecDepth 20000 in
theorem gX6_play_X6_isOpen : GoodIn wsX6_play (va_wsS RX6 66 yX6_isOpen wsX6_isOpen) := goodIn_app (goodIn_of _ (by decide +kernel)) ggX6_play_X6_isOpen
theorem dX6_play_0 : decode cX6_play 0 = .ok (.iconst 0, 1) := by decide +kernel
theorem dX6_play_1 : decode cX6_play 1 = .ok (.istore_n 1, 1) := by decide +kernel
theorem dX6_play_2 : decode cX6_play 2 = .ok (.iconst 0, 1) := by decide +kernel
theorem dX6_play_3 : decode cX6_play 3 = .ok (.istore_n 2, 1) := by decide +kernel
theorem dX6_play_4 : decode cX6_play 4 = .ok (.iload_n 2, 1) := by decide +kernel
theorem dX6_play_5 : decode cX6_play 5 = .ok (.bipush 6, 2) := by decide +kernel
theorem dX6_play_7 : decode cX6_play 7 = .ok (.if_icmp .ge 128, 3) := by decide +kernel
theorem dX6_play_10 : decode cX6_play 10 = .ok (.aload_n 0, 1) := by decide +kernel
theorem dX6_play_11 : decode cX6_play 11 = .ok (.iload_n 2, 1) := by decide +kernel
theorem dX6_play_12 : decode cX6_play 12 = .ok (.invokestatic 66, 3) := by decide +kernel
theorem dX6_play_15 : decode cX6_play 15 = .ok (.ifCond .eq 114, 3) := by decide +kernel
theorem dX6_play_18 : decode cX6_play 18 = .ok (.aload_n 0, 1) := by decide +kernel
theorem dX6_play_19 : decode cX6_play 19 = .ok (.bipush 6, 2) := by decide +kernel
theorem dX6_play_21 : decode cX6_play 21 = .ok (.iaload, 1) := by decide +kernel
theorem dX6_play_22 : decode cX6_play 22 = .ok (.ifCond .le 7, 3) := by decide +kernel
theorem dX6_play_25 : decode cX6_play 25 = .ok (.iconst 1, 1) := by decide +kernel
theorem dX6_play_26 : decode cX6_play 26 = .ok (.goto 4, 3) := by decide +kernel
theorem dX6_play_29 : decode cX6_play 29 = .ok (.iconst 0, 1) := by decide +kernel
theorem dX6_play_30 : decode cX6_play 30 = .ok (.istore_n 3, 1) := by decide +kernel
theorem dX6_play_31 : decode cX6_play 31 = .ok (.iload_n 1, 1) := by decide +kernel
theorem dX6_play_32 : decode cX6_play 32 = .ok (.iload_n 3, 1) := by decide +kernel
theorem dX6_play_33 : decode cX6_play 33 = .ok (.ifCond .eq 9, 3) := by decide +kernel
theorem dX6_play_36 : decode cX6_play 36 = .ok (.iconst 1, 1) := by decide +kernel
theorem dX6_play_37 : decode cX6_play 37 = .ok (.iload_n 2, 1) := by decide +kernel
theorem dX6_play_38 : decode cX6_play 38 = .ok (.ishl, 1) := by decide +kernel
theorem dX6_play_39 : decode cX6_play 39 = .ok (.goto 4, 3) := by decide +kernel
theorem dX6_play_42 : decode cX6_play 42 = .ok (.iconst 0, 1) := by decide +kernel
theorem dX6_play_43 : decode cX6_play 43 = .ok (.ior, 1) := by decide +kernel
theorem dX6_play_44 : decode cX6_play 44 = .ok (.istore_n 1, 1) := by decide +kernel
theorem dX6_play_45 : decode cX6_play 45 = .ok (.aload_n 0, 1) := by decide +kernel
theorem dX6_play_46 : decode cX6_play 46 = .ok (.bipush 6, 2) := by decide +kernel
theorem dX6_play_48 : decode cX6_play 48 = .ok (.dup2, 1) := by decide +kernel
theorem dX6_play_49 : decode cX6_play 49 = .ok (.iaload, 1) := by decide +kernel
theorem dX6_play_50 : decode cX6_play 50 = .ok (.iload_n 3, 1) := by decide +kernel
theorem dX6_play_51 : decode cX6_play 51 = .ok (.ifCond .eq 7, 3) := by decide +kernel
theorem dX6_play_54 : decode cX6_play 54 = .ok (.iconst 1, 1) := by decide +kernel
theorem dX6_play_55 : decode cX6_play 55 = .ok (.goto 4, 3) := by decide +kernel
theorem dX6_play_58 : decode cX6_play 58 = .ok (.iconst 0, 1) := by decide +kernel
theorem dX6_play_59 : decode cX6_play 59 = .ok (.isub, 1) := by decide +kernel
theorem dX6_play_60 : decode cX6_play 60 = .ok (.iastore, 1) := by decide +kernel
theorem dX6_play_61 : decode cX6_play 61 = .ok (.aload_n 0, 1) := by decide +kernel
theorem dX6_play_62 : decode cX6_play 62 = .ok (.bipush 9, 2) := by decide +kernel
theorem dX6_play_64 : decode cX6_play 64 = .ok (.dup2, 1) := by decide +kernel
theorem dX6_play_65 : decode cX6_play 65 = .ok (.iaload, 1) := by decide +kernel
theorem dX6_play_66 : decode cX6_play 66 = .ok (.iload_n 3, 1) := by decide +kernel
theorem dX6_play_67 : decode cX6_play 67 = .ok (.ifCond .eq 7, 3) := by decide +kernel
theorem dX6_play_70 : decode cX6_play 70 = .ok (.iconst 1, 1) := by decide +kernel
theorem dX6_play_71 : decode cX6_play 71 = .ok (.goto 4, 3) := by decide +kernel
theorem dX6_play_74 : decode cX6_play 74 = .ok (.iconst 0, 1) := by decide +kernel
theorem dX6_play_75 : decode cX6_play 75 = .ok (.iadd, 1) := by decide +kernel
theorem dX6_play_76 : decode cX6_play 76 = .ok (.iastore, 1) := by decide +kernel
theorem dX6_play_77 : decode cX6_play 77 = .ok (.aload_n 0, 1) := by decide +kernel
theorem dX6_play_78 : decode cX6_play 78 = .ok (.bipush 10, 2) := by decide +kernel
theorem dX6_play_80 : decode cX6_play 80 = .ok (.dup2, 1) := by decide +kernel
theorem dX6_play_81 : decode cX6_play 81 = .ok (.iaload, 1) := by decide +kernel
theorem dX6_play_82 : decode cX6_play 82 = .ok (.iload_n 3, 1) := by decide +kernel
theorem dX6_play_83 : decode cX6_play 83 = .ok (.ifCond .eq 7, 3) := by decide +kernel
theorem dX6_play_86 : decode cX6_play 86 = .ok (.iconst 0, 1) := by decide +kernel
theorem dX6_play_87 : decode cX6_play 87 = .ok (.goto 4, 3) := by decide +kernel
theorem dX6_play_90 : decode cX6_play 90 = .ok (.iconst 1, 1) := by decide +kernel
theorem dX6_play_91 : decode cX6_play 91 = .ok (.iadd, 1) := by decide +kernel
theorem dX6_play_92 : decode cX6_play 92 = .ok (.iastore, 1) := by decide +kernel
theorem dX6_play_93 : decode cX6_play 93 = .ok (.aload_n 0, 1) := by decide +kernel
theorem dX6_play_94 : decode cX6_play 94 = .ok (.bipush 25, 2) := by decide +kernel
theorem dX6_play_96 : decode cX6_play 96 = .ok (.iload_n 2, 1) := by decide +kernel
theorem dX6_play_97 : decode cX6_play 97 = .ok (.iadd, 1) := by decide +kernel
theorem dX6_play_98 : decode cX6_play 98 = .ok (.dup2, 1) := by decide +kernel
theorem dX6_play_99 : decode cX6_play 99 = .ok (.iaload, 1) := by decide +kernel
theorem dX6_play_100 : decode cX6_play 100 = .ok (.iload_n 3, 1) := by decide +kernel
theorem dX6_play_101 : decode cX6_play 101 = .ok (.ifCond .eq 7, 3) := by decide +kernel
theorem dX6_play_104 : decode cX6_play 104 = .ok (.iconst 1, 1) := by decide +kernel
theorem dX6_play_105 : decode cX6_play 105 = .ok (.goto 4, 3) := by decide +kernel
theorem dX6_play_108 : decode cX6_play 108 = .ok (.iconst 0, 1) := by decide +kernel
theorem dX6_play_109 : decode cX6_play 109 = .ok (.iadd, 1) := by decide +kernel
theorem dX6_play_110 : decode cX6_play 110 = .ok (.iastore, 1) := by decide +kernel
theorem dX6_play_111 : decode cX6_play 111 = .ok (.aload_n 0, 1) := by decide +kernel
theorem dX6_play_112 : decode cX6_play 112 = .ok (.bipush 31, 2) := by decide +kernel
theorem dX6_play_114 : decode cX6_play 114 = .ok (.iload_n 2, 1) := by decide +kernel
theorem dX6_play_115 : decode cX6_play 115 = .ok (.iadd, 1) := by decide +kernel
theorem dX6_play_116 : decode cX6_play 116 = .ok (.dup2, 1) := by decide +kernel
theorem dX6_play_117 : decode cX6_play 117 = .ok (.iaload, 1) := by decide +kernel
theorem dX6_play_118 : decode cX6_play 118 = .ok (.iload_n 3, 1) := by decide +kernel
theorem dX6_play_119 : decode cX6_play 119 = .ok (.ifCond .eq 7, 3) := by decide +kernel
theorem dX6_play_122 : decode cX6_play 122 = .ok (.iconst 0, 1) := by decide +kernel
theorem dX6_play_123 : decode cX6_play 123 = .ok (.goto 4, 3) := by decide +kernel
theorem dX6_play_126 : decode cX6_play 126 = .ok (.iconst 1, 1) := by decide +kernel
theorem dX6_play_127 : decode cX6_play 127 = .ok (.iadd, 1) := by decide +kernel
theorem dX6_play_128 : decode cX6_play 128 = .ok (.iastore, 1) := by decide +kernel
theorem dX6_play_129 : decode cX6_play 129 = .ok (.iinc 2 1, 3) := by decide +kernel
theorem dX6_play_132 : decode cX6_play 132 = .ok (.goto (-128), 3) := by decide +kernel
theorem dX6_play_135 : decode cX6_play 135 = .ok (.bipush 9, 2) := by decide +kernel
theorem dX6_play_137 : decode cX6_play 137 = .ok (.istore_n 2, 1) := by decide +kernel
theorem dX6_play_138 : decode cX6_play 138 = .ok (.iload_n 2, 1) := by decide +kernel
theorem dX6_play_139 : decode cX6_play 139 = .ok (.ifCond .le 23, 3) := by decide +kernel
theorem dX6_play_142 : decode cX6_play 142 = .ok (.aload_n 0, 1) := by decide +kernel
theorem dX6_play_143 : decode cX6_play 143 = .ok (.bipush 15, 2) := by decide +kernel
theorem dX6_play_145 : decode cX6_play 145 = .ok (.iload_n 2, 1) := by decide +kernel
theorem dX6_play_146 : decode cX6_play 146 = .ok (.iadd, 1) := by decide +kernel
theorem dX6_play_147 : decode cX6_play 147 = .ok (.aload_n 0, 1) := by decide +kernel
theorem dX6_play_148 : decode cX6_play 148 = .ok (.bipush 15, 2) := by decide +kernel
theorem dX6_play_150 : decode cX6_play 150 = .ok (.iload_n 2, 1) := by decide +kernel
theorem dX6_play_151 : decode cX6_play 151 = .ok (.iadd, 1) := by decide +kernel
theorem dX6_play_152 : decode cX6_play 152 = .ok (.iconst 1, 1) := by decide +kernel
theorem dX6_play_153 : decode cX6_play 153 = .ok (.isub, 1) := by decide +kernel
theorem dX6_play_154 : decode cX6_play 154 = .ok (.iaload, 1) := by decide +kernel
theorem dX6_play_155 : decode cX6_play 155 = .ok (.iastore, 1) := by decide +kernel
theorem dX6_play_156 : decode cX6_play 156 = .ok (.iinc 2 (-1), 3) := by decide +kernel
theorem dX6_play_159 : decode cX6_play 159 = .ok (.goto (-21), 3) := by decide +kernel
theorem dX6_play_162 : decode cX6_play 162 = .ok (.aload_n 0, 1) := by decide +kernel
theorem dX6_play_163 : decode cX6_play 163 = .ok (.bipush 15, 2) := by decide +kernel
theorem dX6_play_165 : decode cX6_play 165 = .ok (.iload_n 1, 1) := by decide +kernel
theorem dX6_play_166 : decode cX6_play 166 = .ok (.iastore, 1) := by decide +kernel
theorem dX6_play_167 : decode cX6_play 167 = .ok (.aload_n 0, 1) := by decide +kernel
theorem dX6_play_168 : decode cX6_play 168 = .ok (.bipush 7, 2) := by decide +kernel
theorem dX6_play_170 : decode cX6_play 170 = .ok (.iload_n 1, 1) := by decide +kernel
theorem dX6_play_171 : decode cX6_play 171 = .ok (.iastore, 1) := by decide +kernel
theorem dX6_play_172 : decode cX6_play 172 = .ok (.aload_n 0, 1) := by decide +kernel
theorem dX6_play_173 : decode cX6_play 173 = .ok (.bipush 8, 2) := by decide +kernel
theorem dX6_play_175 : decode cX6_play 175 = .ok (.iload_n 1, 1) := by decide +kernel
theorem dX6_play_176 : decode cX6_play 176 = .ok (.aload_n 0, 1) := by decide +kernel
theorem dX6_play_177 : decode cX6_play 177 = .ok (.bipush 15, 2) := by decide +kernel
theorem dX6_play_179 : decode cX6_play 179 = .ok (.aload_n 0, 1) := by decide +kernel
theorem dX6_play_180 : decode cX6_play 180 = .ok (.bipush 13, 2) := by decide +kernel
theorem dX6_play_182 : decode cX6_play 182 = .ok (.iaload, 1) := by decide +kernel
theorem dX6_play_183 : decode cX6_play 183 = .ok (.iadd, 1) := by decide +kernel
theorem dX6_play_184 : decode cX6_play 184 = .ok (.iaload, 1) := by decide +kernel
theorem dX6_play_185 : decode cX6_play 185 = .ok (.ior, 1) := by decide +kernel
theorem dX6_play_186 : decode cX6_play 186 = .ok (.iastore, 1) := by decide +kernel
theorem dX6_play_187 : decode cX6_play 187 = .ok (.return_, 1) := by decide +kernel
set_option maxRecDepth 20000 in
theorem ggX6_tick_X6_lookAtOrders : GoodIn wsX6_tick wsX6_lookAtOrders := goodIn_r _ [4, 5, 6, 3, 7, 8, 9, 10, 11, 12, 13, 14, 15, 16, 17, 18, 19, 20, 21, 22, 23, 24, 25, 26, 27, 28, 29, 30, 31, 32, 33, 34, 35, 36, 37, 38, 39, 40] (by decide +kernel) (by decide +kernel)
set_option maxRecDepth 20000 in
theorem gX6_tick_X6_lookAtOrders : GoodIn wsX6_tick (va_wsS RX6 93 yX6_lookAtOrders wsX6_lookAtOrders) := goodIn_app (goodIn_of _ (by decide +kernel)) ggX6_tick_X6_lookAtOrders
set_option maxRecDepth 20000 in
theorem ggX6_tick_X6_play : GoodIn wsX6_tick wsX6_play := goodIn_r _ [43, 11, 12, 3, 13, 14, 15, 16, 17, 18, 19, 20, 21, 22] (by decide +kernel) (by decide +kernel)
set_option maxRecDepth 20000 in
theorem gX6_tick_X6_play : GoodIn wsX6_tick (va_wsS RX6 96 yX6_play wsX6_play) := goodIn_app (goodIn_of _ (by decide +kernel)) ggX6_tick_X6_play
theorem dX6_tick_0 : decode cX6_tick 0 = .ok (.aload_n 0, 1) := by decide +kernel
theorem dX6_tick_1 : decode cX6_tick 1 = .ok (.iconst 2, 1) := by decide +kernel
theorem dX6_tick_2 : decode cX6_tick 2 = .ok (.dup2, 1) := by decide +kernel
theorem dX6_tick_3 : decode cX6_tick 3 = .ok (.iaload, 1) := by decide +kernel
theorem dX6_tick_4 : decode cX6_tick 4 = .ok (.iconst 1, 1) := by decide +kernel
theorem dX6_tick_5 : decode cX6_tick 5 = .ok (.iadd, 1) := by decide +kernel
theorem dX6_tick_6 : decode cX6_tick 6 = .ok (.iastore, 1) := by decide +kernel
theorem dX6_tick_7 : decode cX6_tick 7 = .ok (.aload_n 0, 1) := by decide +kernel
theorem dX6_tick_8 : decode cX6_tick 8 = .ok (.iconst 3, 1) := by decide +kernel
theorem dX6_tick_9 : decode cX6_tick 9 = .ok (.dup2, 1) := by decide +kernel
theorem dX6_tick_10 : decode cX6_tick 10 = .ok (.iaload, 1) := by decide +kernel
theorem dX6_tick_11 : decode cX6_tick 11 = .ok (.aload_n 0, 1) := by decide +kernel
theorem dX6_tick_12 : decode cX6_tick 12 = .ok (.bipush 12, 2) := by decide +kernel
theorem dX6_tick_14 : decode cX6_tick 14 = .ok (.iaload, 1) := by decide +kernel
theorem dX6_tick_15 : decode cX6_tick 15 = .ok (.iadd, 1) := by decide +kernel
theorem dX6_tick_16 : decode cX6_tick 16 = .ok (.iastore, 1) := by decide +kernel
theorem dX6_tick_17 : decode cX6_tick 17 = .ok (.aload_n 0, 1) := by decide +kernel
theorem dX6_tick_18 : decode cX6_tick 18 = .ok (.iconst 4, 1) := by decide +kernel
theorem dX6_tick_19 : decode cX6_tick 19 = .ok (.dup2, 1) := by decide +kernel
theorem dX6_tick_20 : decode cX6_tick 20 = .ok (.iaload, 1) := by decide +kernel
theorem dX6_tick_21 : decode cX6_tick 21 = .ok (.aload_n 0, 1) := by decide +kernel
theorem dX6_tick_22 : decode cX6_tick 22 = .ok (.iconst 3, 1) := by decide +kernel
theorem dX6_tick_23 : decode cX6_tick 23 = .ok (.iaload, 1) := by decide +kernel
theorem dX6_tick_24 : decode cX6_tick 24 = .ok (.bipush 24, 2) := by decide +kernel
theorem dX6_tick_26 : decode cX6_tick 26 = .ok (.if_icmp .lt 7, 3) := by decide +kernel
theorem dX6_tick_29 : decode cX6_tick 29 = .ok (.iconst 1, 1) := by decide +kernel
theorem dX6_tick_30 : decode cX6_tick 30 = .ok (.goto 4, 3) := by decide +kernel
theorem dX6_tick_33 : decode cX6_tick 33 = .ok (.iconst 0, 1) := by decide +kernel
theorem dX6_tick_34 : decode cX6_tick 34 = .ok (.iadd, 1) := by decide +kernel
theorem dX6_tick_35 : decode cX6_tick 35 = .ok (.iastore, 1) := by decide +kernel
theorem dX6_tick_36 : decode cX6_tick 36 = .ok (.aload_n 0, 1) := by decide +kernel
theorem dX6_tick_37 : decode cX6_tick 37 = .ok (.iconst 3, 1) := by decide +kernel
theorem dX6_tick_38 : decode cX6_tick 38 = .ok (.dup2, 1) := by decide +kernel
theorem dX6_tick_39 : decode cX6_tick 39 = .ok (.iaload, 1) := by decide +kernel
theorem dX6_tick_40 : decode cX6_tick 40 = .ok (.bipush 24, 2) := by decide +kernel
theorem dX6_tick_42 : decode cX6_tick 42 = .ok (.irem, 1) := by decide +kernel
theorem dX6_tick_43 : decode cX6_tick 43 = .ok (.iastore, 1) := by decide +kernel
theorem dX6_tick_44 : decode cX6_tick 44 = .ok (.aload_n 0, 1) := by decide +kernel
theorem dX6_tick_45 : decode cX6_tick 45 = .ok (.bipush 6, 2) := by decide +kernel
theorem dX6_tick_47 : decode cX6_tick 47 = .ok (.iaload, 1) := by decide +kernel
theorem dX6_tick_48 : decode cX6_tick 48 = .ok (.iconst 2, 1) := by decide +kernel
theorem dX6_tick_49 : decode cX6_tick 49 = .ok (.aload_n 0, 1) := by decide +kernel
theorem dX6_tick_50 : decode cX6_tick 50 = .ok (.bipush 12, 2) := by decide +kernel
theorem dX6_tick_52 : decode cX6_tick 52 = .ok (.iaload, 1) := by decide +kernel
theorem dX6_tick_53 : decode cX6_tick 53 = .ok (.imul, 1) := by decide +kernel
theorem dX6_tick_54 : decode cX6_tick 54 = .ok (.iadd, 1) := by decide +kernel
theorem dX6_tick_55 : decode cX6_tick 55 = .ok (.istore_n 1, 1) := by decide +kernel
theorem dX6_tick_56 : decode cX6_tick 56 = .ok (.aload_n 0, 1) := by decide +kernel
theorem dX6_tick_57 : decode cX6_tick 57 = .ok (.bipush 6, 2) := by decide +kernel
theorem dX6_tick_59 : decode cX6_tick 59 = .ok (.iload_n 1, 1) := by decide +kernel
theorem dX6_tick_60 : decode cX6_tick 60 = .ok (.aload_n 0, 1) := by decide +kernel
theorem dX6_tick_61 : decode cX6_tick 61 = .ok (.bipush 14, 2) := by decide +kernel
theorem dX6_tick_63 : decode cX6_tick 63 = .ok (.iaload, 1) := by decide +kernel
theorem dX6_tick_64 : decode cX6_tick 64 = .ok (.if_icmp .ge 7, 3) := by decide +kernel
theorem dX6_tick_67 : decode cX6_tick 67 = .ok (.iload_n 1, 1) := by decide +kernel
theorem dX6_tick_68 : decode cX6_tick 68 = .ok (.goto 7, 3) := by decide +kernel
theorem dX6_tick_71 : decode cX6_tick 71 = .ok (.aload_n 0, 1) := by decide +kernel
theorem dX6_tick_72 : decode cX6_tick 72 = .ok (.bipush 14, 2) := by decide +kernel
theorem dX6_tick_74 : decode cX6_tick 74 = .ok (.iaload, 1) := by decide +kernel
theorem dX6_tick_75 : decode cX6_tick 75 = .ok (.iastore, 1) := by decide +kernel
theorem dX6_tick_76 : decode cX6_tick 76 = .ok (.aload_n 0, 1) := by decide +kernel
theorem dX6_tick_77 : decode cX6_tick 77 = .ok (.invokestatic 93, 3) := by decide +kernel
theorem dX6_tick_80 : decode cX6_tick 80 = .ok (.aload_n 0, 1) := by decide +kernel
theorem dX6_tick_81 : decode cX6_tick 81 = .ok (.invokestatic 96, 3) := by decide +kernel
theorem dX6_tick_84 : decode cX6_tick 84 = .ok (.return_, 1) := by decide +kernel
set_option maxRecDepth 20000 in
theorem ggX6_ticksOn_X6_tick : GoodIn wsX6_ticksOn wsX6_tick := goodIn_r _ [4, 5, 6, 3, 7, 8, 9, 10, 11, 12, 13, 14, 15, 16, 17, 18, 19, 20, 21, 22, 23, 24, 25, 26, 27, 28, 29, 30, 31, 32, 33, 34, 35, 36, 37, 38, 39, 40, 41, 42, 43, 44, 45, 46] (by decide +kernel) (by decide +kernel)
set_option maxRecDepth 20000 in
theorem gX6_ticksOn_X6_tick : GoodIn wsX6_ticksOn (va_wsS RX6 99 yX6_tick wsX6_tick) := goodIn_app (goodIn_of _ (by decide +kernel)) ggX6_ticksOn_X6_tick
theorem dX6_ticksOn_0 : decode cX6_ticksOn 0 = .ok (.aload_n 0, 1) := by decide +kernel
theorem dX6_ticksOn_1 : decode cX6_ticksOn 1 = .ok (.bipush 9, 2) := by decide +kernel
theorem dX6_ticksOn_3 : decode cX6_ticksOn 3 = .ok (.iaload, 1) := by decide +kernel
theorem dX6_ticksOn_4 : decode cX6_ticksOn 4 = .ok (.istore_n 2, 1) := by decide +kernel
theorem dX6_ticksOn_5 : decode cX6_ticksOn 5 = .ok (.iconst 0, 1) := by decide +kernel
theorem dX6_ticksOn_6 : decode cX6_ticksOn 6 = .ok (.istore_n 3, 1) := by decide +kernel
theorem dX6_ticksOn_7 : decode cX6_ticksOn 7 = .ok (.iload_n 3, 1) := by decide +kernel
theorem dX6_ticksOn_8 : decode cX6_ticksOn 8 = .ok (.iload_n 1, 1) := by decide +kernel
theorem dX6_ticksOn_9 : decode cX6_ticksOn 9 = .ok (.if_icmp .ge 13, 3) := by decide +kernel
theorem dX6_ticksOn_12 : decode cX6_ticksOn 12 = .ok (.aload_n 0, 1) := by decide +kernel
theorem dX6_ticksOn_13 : decode cX6_ticksOn 13 = .ok (.invokestatic 99, 3) := by decide +kernel
theorem dX6_ticksOn_16 : decode cX6_ticksOn 16 = .ok (.iinc 3 1, 3) := by decide +kernel
theorem dX6_ticksOn_19 : decode cX6_ticksOn 19 = .ok (.goto (-12), 3) := by decide +kernel
theorem dX6_ticksOn_22 : decode cX6_ticksOn 22 = .ok (.aload_n 0, 1) := by decide +kernel
theorem dX6_ticksOn_23 : decode cX6_ticksOn 23 = .ok (.bipush 9, 2) := by decide +kernel
theorem dX6_ticksOn_25 : decode cX6_ticksOn 25 = .ok (.iaload, 1) := by decide +kernel
theorem dX6_ticksOn_26 : decode cX6_ticksOn 26 = .ok (.iload_n 2, 1) := by decide +kernel
theorem dX6_ticksOn_27 : decode cX6_ticksOn 27 = .ok (.isub, 1) := by decide +kernel
theorem dX6_ticksOn_28 : decode cX6_ticksOn 28 = .ok (.ireturn, 1) := by decide +kernel
theorem dX6_orderOn_0 : decode cX6_orderOn 0 = .ok (.sipush 157, 3) := by decide +kernel
theorem dX6_orderOn_3 : decode cX6_orderOn 3 = .ok (.iconst 5, 1) := by decide +kernel
theorem dX6_orderOn_4 : decode cX6_orderOn 4 = .ok (.aload_n 0, 1) := by decide +kernel
theorem dX6_orderOn_5 : decode cX6_orderOn 5 = .ok (.iconst 1, 1) := by decide +kernel
theorem dX6_orderOn_6 : decode cX6_orderOn 6 = .ok (.iaload, 1) := by decide +kernel
theorem dX6_orderOn_7 : decode cX6_orderOn 7 = .ok (.imul, 1) := by decide +kernel
theorem dX6_orderOn_8 : decode cX6_orderOn 8 = .ok (.iadd, 1) := by decide +kernel
theorem dX6_orderOn_9 : decode cX6_orderOn 9 = .ok (.istore 5, 2) := by decide +kernel
theorem dX6_orderOn_11 : decode cX6_orderOn 11 = .ok (.aload_n 0, 1) := by decide +kernel
theorem dX6_orderOn_12 : decode cX6_orderOn 12 = .ok (.iload 5, 2) := by decide +kernel
theorem dX6_orderOn_14 : decode cX6_orderOn 14 = .ok (.iload_n 1, 1) := by decide +kernel
theorem dX6_orderOn_15 : decode cX6_orderOn 15 = .ok (.iastore, 1) := by decide +kernel
theorem dX6_orderOn_16 : decode cX6_orderOn 16 = .ok (.aload_n 0, 1) := by decide +kernel
theorem dX6_orderOn_17 : decode cX6_orderOn 17 = .ok (.iload 5, 2) := by decide +kernel
theorem dX6_orderOn_19 : decode cX6_orderOn 19 = .ok (.iconst 1, 1) := by decide +kernel
theorem dX6_orderOn_20 : decode cX6_orderOn 20 = .ok (.iadd, 1) := by decide +kernel
theorem dX6_orderOn_21 : decode cX6_orderOn 21 = .ok (.iload_n 2, 1) := by decide +kernel
theorem dX6_orderOn_22 : decode cX6_orderOn 22 = .ok (.iastore, 1) := by decide +kernel
theorem dX6_orderOn_23 : decode cX6_orderOn 23 = .ok (.aload_n 0, 1) := by decide +kernel
theorem dX6_orderOn_24 : decode cX6_orderOn 24 = .ok (.iload 5, 2) := by decide +kernel
theorem dX6_orderOn_26 : decode cX6_orderOn 26 = .ok (.iconst 2, 1) := by decide +kernel
theorem dX6_orderOn_27 : decode cX6_orderOn 27 = .ok (.iadd, 1) := by decide +kernel
theorem dX6_orderOn_28 : decode cX6_orderOn 28 = .ok (.iload_n 3, 1) := by decide +kernel
theorem dX6_orderOn_29 : decode cX6_orderOn 29 = .ok (.iastore, 1) := by decide +kernel
theorem dX6_orderOn_30 : decode cX6_orderOn 30 = .ok (.aload_n 0, 1) := by decide +kernel
theorem dX6_orderOn_31 : decode cX6_orderOn 31 = .ok (.iload 5, 2) := by decide +kernel
theorem dX6_orderOn_33 : decode cX6_orderOn 33 = .ok (.iconst 3, 1) := by decide +kernel
theorem dX6_orderOn_34 : decode cX6_orderOn 34 = .ok (.iadd, 1) := by decide +kernel
theorem dX6_orderOn_35 : decode cX6_orderOn 35 = .ok (.iload 4, 2) := by decide +kernel
theorem dX6_orderOn_37 : decode cX6_orderOn 37 = .ok (.iastore, 1) := by decide +kernel
theorem dX6_orderOn_38 : decode cX6_orderOn 38 = .ok (.aload_n 0, 1) := by decide +kernel
theorem dX6_orderOn_39 : decode cX6_orderOn 39 = .ok (.iload 5, 2) := by decide +kernel
theorem dX6_orderOn_41 : decode cX6_orderOn 41 = .ok (.iconst 4, 1) := by decide +kernel
theorem dX6_orderOn_42 : decode cX6_orderOn 42 = .ok (.iadd, 1) := by decide +kernel
theorem dX6_orderOn_43 : decode cX6_orderOn 43 = .ok (.iconst 0, 1) := by decide +kernel
theorem dX6_orderOn_44 : decode cX6_orderOn 44 = .ok (.iastore, 1) := by decide +kernel
theorem dX6_orderOn_45 : decode cX6_orderOn 45 = .ok (.aload_n 0, 1) := by decide +kernel
theorem dX6_orderOn_46 : decode cX6_orderOn 46 = .ok (.iconst 1, 1) := by decide +kernel
theorem dX6_orderOn_47 : decode cX6_orderOn 47 = .ok (.dup2, 1) := by decide +kernel
theorem dX6_orderOn_48 : decode cX6_orderOn 48 = .ok (.iaload, 1) := by decide +kernel
theorem dX6_orderOn_49 : decode cX6_orderOn 49 = .ok (.iconst 1, 1) := by decide +kernel
theorem dX6_orderOn_50 : decode cX6_orderOn 50 = .ok (.iadd, 1) := by decide +kernel
theorem dX6_orderOn_51 : decode cX6_orderOn 51 = .ok (.iastore, 1) := by decide +kernel
theorem dX6_orderOn_52 : decode cX6_orderOn 52 = .ok (.aload_n 0, 1) := by decide +kernel
theorem dX6_orderOn_53 : decode cX6_orderOn 53 = .ok (.iconst 1, 1) := by decide +kernel
theorem dX6_orderOn_54 : decode cX6_orderOn 54 = .ok (.iaload, 1) := by decide +kernel
theorem dX6_orderOn_55 : decode cX6_orderOn 55 = .ok (.iconst 1, 1) := by decide +kernel
theorem dX6_orderOn_56 : decode cX6_orderOn 56 = .ok (.isub, 1) := by decide +kernel
theorem dX6_orderOn_57 : decode cX6_orderOn 57 = .ok (.ireturn, 1) := by decide +kernel
set_option maxRecDepth 20000 in
theorem ggX6_cancelOn_X6_dropOrder : GoodIn wsX6_cancelOn wsX6_dropOrder := goodIn_r _ [4] (by decide +kernel) (by decide +kernel)
set_option maxRecDepth 20000 in
theorem gX6_cancelOn_X6_dropOrder : GoodIn wsX6_cancelOn (va_wsS RX6 90 yX6_dropOrder wsX6_dropOrder) := goodIn_app (goodIn_of _ (by decide +kernel)) ggX6_cancelOn_X6_dropOrder
theorem dX6_cancelOn_0 : decode cX6_cancelOn 0 = .ok (.aload_n 0, 1) := by decide +kernel
theorem dX6_cancelOn_1 : decode cX6_cancelOn 1 = .ok (.iload_n 1, 1) := by decide +kernel
theorem dX6_cancelOn_2 : decode cX6_cancelOn 2 = .ok (.invokestatic 90, 3) := by decide +kernel
theorem dX6_cancelOn_5 : decode cX6_cancelOn 5 = .ok (.aload_n 0, 1) := by decide +kernel
theorem dX6_cancelOn_6 : decode cX6_cancelOn 6 = .ok (.iconst 1, 1) := by decide +kernel
theorem dX6_cancelOn_7 : decode cX6_cancelOn 7 = .ok (.iaload, 1) := by decide +kernel
theorem dX6_cancelOn_8 : decode cX6_cancelOn 8 = .ok (.ireturn, 1) := by decide +kernel
theorem dX6_change_0 : decode cX6_change 0 = .ok (.aload_n 0, 1) := by decide +kernel
theorem dX6_change_1 : decode cX6_change 1 = .ok (.bipush 12, 2) := by decide +kernel
theorem dX6_change_3 : decode cX6_change 3 = .ok (.iload_n 1, 1) := by decide +kernel
theorem dX6_change_4 : decode cX6_change 4 = .ok (.iadd, 1) := by decide +kernel
theorem dX6_change_5 : decode cX6_change 5 = .ok (.iaload, 1) := by decide +kernel
theorem dX6_change_6 : decode cX6_change 6 = .ok (.istore_n 3, 1) := by decide +kernel
theorem dX6_change_7 : decode cX6_change 7 = .ok (.aload_n 0, 1) := by decide +kernel
theorem dX6_change_8 : decode cX6_change 8 = .ok (.bipush 12, 2) := by decide +kernel
theorem dX6_change_10 : decode cX6_change 10 = .ok (.iload_n 1, 1) := by decide +kernel
theorem dX6_change_11 : decode cX6_change 11 = .ok (.iadd, 1) := by decide +kernel
theorem dX6_change_12 : decode cX6_change 12 = .ok (.iload_n 2, 1) := by decide +kernel
theorem dX6_change_13 : decode cX6_change 13 = .ok (.iastore, 1) := by decide +kernel
theorem dX6_change_14 : decode cX6_change 14 = .ok (.iload_n 3, 1) := by decide +kernel
theorem dX6_change_15 : decode cX6_change 15 = .ok (.ireturn, 1) := by decide +kernel
set_option maxRecDepth 20000 in
theorem ggX6_append_X6_in : GoodIn wsX6_append wsX6_in := goodIn_r _ [7] (by decide +kernel) (by decide +kernel)
set_option maxRecDepth 20000 in
theorem gX6_append_X6_in : GoodIn wsX6_append (va_wsS RX6 39 yX6_in wsX6_in) := goodIn_app (goodIn_of _ (by decide +kernel)) ggX6_append_X6_in
set_option maxRecDepth 20000 in
theorem ggX6_append_X6_refused : GoodIn wsX6_append wsX6_refused := goodIn_r _ [11, 12, 13, 14, 15, 16, 17, 18, 19, 20, 21, 22, 23] (by decide +kernel) (by decide +kernel)
set_option maxRecDepth 20000 in
theorem gX6_append_X6_refused : GoodIn wsX6_append (wsV RX6 107 RX6 yX6_refused wsX6_refused) := goodIn_app (goodIn_of _ (by decide +kernel)) ggX6_append_X6_refused
theorem dX6_append_0 : decode cX6_append 0 = .ok (.aload_n 0, 1) := by decide +kernel
theorem dX6_append_1 : decode cX6_append 1 = .ok (.iload_n 1, 1) := by decide +kernel
theorem dX6_append_2 : decode cX6_append 2 = .ok (.i2l, 1) := by decide +kernel
theorem dX6_append_3 : decode cX6_append 3 = .ok (.lconst 0, 1) := by decide +kernel
theorem dX6_append_4 : decode cX6_append 4 = .ok (.ldc2_w 102, 3) := by decide +kernel
theorem dX6_append_7 : decode cX6_append 7 = .ok (.invokestatic 39, 3) := by decide +kernel
theorem dX6_append_10 : decode cX6_append 10 = .ok (.ifCond .ne 7, 3) := by decide +kernel
theorem dX6_append_13 : decode cX6_append 13 = .ok (.iconst 1, 1) := by decide +kernel
theorem dX6_append_14 : decode cX6_append 14 = .ok (.goto 17, 3) := by decide +kernel
theorem dX6_append_17 : decode cX6_append 17 = .ok (.aload_n 0, 1) := by decide +kernel
theorem dX6_append_18 : decode cX6_append 18 = .ok (.getfield 104, 3) := by decide +kernel
theorem dX6_append_21 : decode cX6_append 21 = .ok (.bipush 120, 2) := by decide +kernel
theorem dX6_append_23 : decode cX6_append 23 = .ok (.if_icmp .ne 7, 3) := by decide +kernel
theorem dX6_append_26 : decode cX6_append 26 = .ok (.iconst 2, 1) := by decide +kernel
theorem dX6_append_27 : decode cX6_append 27 = .ok (.goto 4, 3) := by decide +kernel
theorem dX6_append_30 : decode cX6_append 30 = .ok (.iconst 0, 1) := by decide +kernel
theorem dX6_append_31 : decode cX6_append 31 = .ok (.invokevirtual 107, 3) := by decide +kernel
theorem dX6_append_34 : decode cX6_append 34 = .ok (.ifCond .eq 5, 3) := by decide +kernel
theorem dX6_append_37 : decode cX6_append 37 = .ok (.iconst 0, 1) := by decide +kernel
theorem dX6_append_38 : decode cX6_append 38 = .ok (.ireturn, 1) := by decide +kernel
theorem dX6_append_39 : decode cX6_append 39 = .ok (.aload_n 0, 1) := by decide +kernel
theorem dX6_append_40 : decode cX6_append 40 = .ok (.getfield 7, 3) := by decide +kernel
theorem dX6_append_43 : decode cX6_append 43 = .ok (.aload_n 0, 1) := by decide +kernel
theorem dX6_append_44 : decode cX6_append 44 = .ok (.getfield 104, 3) := by decide +kernel
theorem dX6_append_47 : decode cX6_append 47 = .ok (.iload_n 1, 1) := by decide +kernel
theorem dX6_append_48 : decode cX6_append 48 = .ok (.iastore, 1) := by decide +kernel
theorem dX6_append_49 : decode cX6_append 49 = .ok (.aload_n 0, 1) := by decide +kernel
theorem dX6_append_50 : decode cX6_append 50 = .ok (.dup, 1) := by decide +kernel
theorem dX6_append_51 : decode cX6_append 51 = .ok (.getfield 104, 3) := by decide +kernel
theorem dX6_append_54 : decode cX6_append 54 = .ok (.iconst 1, 1) := by decide +kernel
theorem dX6_append_55 : decode cX6_append 55 = .ok (.iadd, 1) := by decide +kernel
theorem dX6_append_56 : decode cX6_append 56 = .ok (.putfield 104, 3) := by decide +kernel
theorem dX6_append_59 : decode cX6_append 59 = .ok (.aload_n 0, 1) := by decide +kernel
theorem dX6_append_60 : decode cX6_append 60 = .ok (.getfield 104, 3) := by decide +kernel
theorem dX6_append_63 : decode cX6_append 63 = .ok (.ireturn, 1) := by decide +kernel
theorem dX6_clearText_0 : decode cX6_clearText 0 = .ok (.aload_n 0, 1) := by decide +kernel
theorem dX6_clearText_1 : decode cX6_clearText 1 = .ok (.iconst 0, 1) := by decide +kernel
theorem dX6_clearText_2 : decode cX6_clearText 2 = .ok (.putfield 33, 3) := by decide +kernel
theorem dX6_clearText_5 : decode cX6_clearText 5 = .ok (.aload_n 0, 1) := by decide +kernel
theorem dX6_clearText_6 : decode cX6_clearText 6 = .ok (.getfield 104, 3) := by decide +kernel
theorem dX6_clearText_9 : decode cX6_clearText 9 = .ok (.istore_n 1, 1) := by decide +kernel
theorem dX6_clearText_10 : decode cX6_clearText 10 = .ok (.aload_n 0, 1) := by decide +kernel
theorem dX6_clearText_11 : decode cX6_clearText 11 = .ok (.iconst 0, 1) := by decide +kernel
theorem dX6_clearText_12 : decode cX6_clearText 12 = .ok (.putfield 104, 3) := by decide +kernel
theorem dX6_clearText_15 : decode cX6_clearText 15 = .ok (.iload_n 1, 1) := by decide +kernel
theorem dX6_clearText_16 : decode cX6_clearText 16 = .ok (.ireturn, 1) := by decide +kernel
set_option maxRecDepth 20000 in
theorem ggX6_figures_X6_in : GoodIn wsX6_figures wsX6_in := goodIn_r _ [8] (by decide +kernel) (by decide +kernel)
set_option maxRecDepth 20000 in
theorem gX6_figures_X6_in : GoodIn wsX6_figures (va_wsS RX6 39 yX6_in wsX6_in) := goodIn_app (goodIn_of _ (by decide +kernel)) ggX6_figures_X6_in
theorem dX6_figures_0 : decode cX6_figures 0 = .ok (.iconst 0, 1) := by decide +kernel
theorem dX6_figures_1 : decode cX6_figures 1 = .ok (.istore 5, 2) := by decide +kernel
theorem dX6_figures_3 : decode cX6_figures 3 = .ok (.iload_n 2, 1) := by decide +kernel
theorem dX6_figures_4 : decode cX6_figures 4 = .ok (.iconst 2, 1) := by decide +kernel
theorem dX6_figures_5 : decode cX6_figures 5 = .ok (.if_icmp .ne 8, 3) := by decide +kernel
theorem dX6_figures_8 : decode cX6_figures 8 = .ok (.bipush 10, 2) := by decide +kernel
theorem dX6_figures_10 : decode cX6_figures 10 = .ok (.goto 4, 3) := by decide +kernel
theorem dX6_figures_13 : decode cX6_figures 13 = .ok (.iconst 1, 1) := by decide +kernel
theorem dX6_figures_14 : decode cX6_figures 14 = .ok (.istore 6, 2) := by decide +kernel
theorem dX6_figures_16 : decode cX6_figures 16 = .ok (.iload 6, 2) := by decide +kernel
theorem dX6_figures_18 : decode cX6_figures 18 = .ok (.ifCond .le 104, 3) := by decide +kernel
theorem dX6_figures_21 : decode cX6_figures 21 = .ok (.iload_n 1, 1) := by decide +kernel
theorem dX6_figures_22 : decode cX6_figures 22 = .ok (.iconst (-1), 1) := by decide +kernel
theorem dX6_figures_23 : decode cX6_figures 23 = .ok (.if_icmp .eq 99, 3) := by decide +kernel
theorem dX6_figures_26 : decode cX6_figures 26 = .ok (.aload_n 0, 1) := by decide +kernel
theorem dX6_figures_27 : decode cX6_figures 27 = .ok (.getfield 111, 3) := by decide +kernel
theorem dX6_figures_30 : decode cX6_figures 30 = .ok (.aload_n 0, 1) := by decide +kernel
theorem dX6_figures_31 : decode cX6_figures 31 = .ok (.getfield 104, 3) := by decide +kernel
theorem dX6_figures_34 : decode cX6_figures 34 = .ok (.if_icmp .ge 18, 3) := by decide +kernel
theorem dX6_figures_37 : decode cX6_figures 37 = .ok (.aload_n 0, 1) := by decide +kernel
theorem dX6_figures_38 : decode cX6_figures 38 = .ok (.getfield 7, 3) := by decide +kernel
theorem dX6_figures_41 : decode cX6_figures 41 = .ok (.aload_n 0, 1) := by decide +kernel
theorem dX6_figures_42 : decode cX6_figures 42 = .ok (.getfield 111, 3) := by decide +kernel
theorem dX6_figures_45 : decode cX6_figures 45 = .ok (.iaload, 1) := by decide +kernel
theorem dX6_figures_46 : decode cX6_figures 46 = .ok (.bipush 48, 2) := by decide +kernel
theorem dX6_figures_48 : decode cX6_figures 48 = .ok (.isub, 1) := by decide +kernel
theorem dX6_figures_49 : decode cX6_figures 49 = .ok (.goto 4, 3) := by decide +kernel
theorem dX6_figures_52 : decode cX6_figures 52 = .ok (.iconst (-1), 1) := by decide +kernel
theorem dX6_figures_53 : decode cX6_figures 53 = .ok (.istore 7, 2) := by decide +kernel
theorem dX6_figures_55 : decode cX6_figures 55 = .ok (.iload 5, 2) := by decide +kernel
theorem dX6_figures_57 : decode cX6_figures 57 = .ok (.iload 7, 2) := by decide +kernel
theorem dX6_figures_59 : decode cX6_figures 59 = .ok (.iload 6, 2) := by decide +kernel
theorem dX6_figures_61 : decode cX6_figures 61 = .ok (.imul, 1) := by decide +kernel
theorem dX6_figures_62 : decode cX6_figures 62 = .ok (.iadd, 1) := by decide +kernel
theorem dX6_figures_63 : decode cX6_figures 63 = .ok (.istore 8, 2) := by decide +kernel
theorem dX6_figures_65 : decode cX6_figures 65 = .ok (.iload 7, 2) := by decide +kernel
theorem dX6_figures_67 : decode cX6_figures 67 = .ok (.i2l, 1) := by decide +kernel
theorem dX6_figures_68 : decode cX6_figures 68 = .ok (.lconst 0, 1) := by decide +kernel
theorem dX6_figures_69 : decode cX6_figures 69 = .ok (.ldc2_w 47, 3) := by decide +kernel
theorem dX6_figures_72 : decode cX6_figures 72 = .ok (.invokestatic 39, 3) := by decide +kernel
theorem dX6_figures_75 : decode cX6_figures 75 = .ok (.ifCond .eq 21, 3) := by decide +kernel
theorem dX6_figures_78 : decode cX6_figures 78 = .ok (.iload 8, 2) := by decide +kernel
theorem dX6_figures_80 : decode cX6_figures 80 = .ok (.iload 4, 2) := by decide +kernel
theorem dX6_figures_82 : decode cX6_figures 82 = .ok (.if_icmp .gt 14, 3) := by decide +kernel
theorem dX6_figures_85 : decode cX6_figures 85 = .ok (.iload 8, 2) := by decide +kernel
theorem dX6_figures_87 : decode cX6_figures 87 = .ok (.iload 6, 2) := by decide +kernel
theorem dX6_figures_89 : decode cX6_figures 89 = .ok (.iadd, 1) := by decide +kernel
theorem dX6_figures_90 : decode cX6_figures 90 = .ok (.iconst 1, 1) := by decide +kernel
theorem dX6_figures_91 : decode cX6_figures 91 = .ok (.isub, 1) := by decide +kernel
theorem dX6_figures_92 : decode cX6_figures 92 = .ok (.iload_n 3, 1) := by decide +kernel
theorem dX6_figures_93 : decode cX6_figures 93 = .ok (.if_icmp .ge 5, 3) := by decide +kernel
theorem dX6_figures_96 : decode cX6_figures 96 = .ok (.iconst (-1), 1) := by decide +kernel
theorem dX6_figures_97 : decode cX6_figures 97 = .ok (.ireturn, 1) := by decide +kernel
theorem dX6_figures_98 : decode cX6_figures 98 = .ok (.iload 8, 2) := by decide +kernel
theorem dX6_figures_100 : decode cX6_figures 100 = .ok (.istore 5, 2) := by decide +kernel
theorem dX6_figures_102 : decode cX6_figures 102 = .ok (.aload_n 0, 1) := by decide +kernel
theorem dX6_figures_103 : decode cX6_figures 103 = .ok (.dup, 1) := by decide +kernel
theorem dX6_figures_104 : decode cX6_figures 104 = .ok (.getfield 111, 3) := by decide +kernel
theorem dX6_figures_107 : decode cX6_figures 107 = .ok (.iconst 1, 1) := by decide +kernel
theorem dX6_figures_108 : decode cX6_figures 108 = .ok (.iadd, 1) := by decide +kernel
theorem dX6_figures_109 : decode cX6_figures 109 = .ok (.putfield 111, 3) := by decide +kernel
theorem dX6_figures_112 : decode cX6_figures 112 = .ok (.iload 6, 2) := by decide +kernel
theorem dX6_figures_114 : decode cX6_figures 114 = .ok (.bipush 10, 2) := by decide +kernel
theorem dX6_figures_116 : decode cX6_figures 116 = .ok (.idiv, 1) := by decide +kernel
theorem dX6_figures_117 : decode cX6_figures 117 = .ok (.istore 6, 2) := by decide +kernel
theorem dX6_figures_119 : decode cX6_figures 119 = .ok (.goto (-103), 3) := by decide +kernel
theorem dX6_figures_122 : decode cX6_figures 122 = .ok (.iload_n 1, 1) := by decide +kernel
theorem dX6_figures_123 : decode cX6_figures 123 = .ok (.iconst (-1), 1) := by decide +kernel
theorem dX6_figures_124 : decode cX6_figures 124 = .ok (.if_icmp .ne 7, 3) := by decide +kernel
theorem dX6_figures_127 : decode cX6_figures 127 = .ok (.iconst (-1), 1) := by decide +kernel
theorem dX6_figures_128 : decode cX6_figures 128 = .ok (.goto 5, 3) := by decide +kernel
theorem dX6_figures_131 : decode cX6_figures 131 = .ok (.iload 5, 2) := by decide +kernel
theorem dX6_figures_133 : decode cX6_figures 133 = .ok (.ireturn, 1) := by decide +kernel
theorem dX6_done_0 : decode cX6_done 0 = .ok (.aload_n 0, 1) := by decide +kernel
theorem dX6_done_1 : decode cX6_done 1 = .ok (.dup, 1) := by decide +kernel
theorem dX6_done_2 : decode cX6_done 2 = .ok (.getfield 114, 3) := by decide +kernel
theorem dX6_done_5 : decode cX6_done 5 = .ok (.iload_n 1, 1) := by decide +kernel
theorem dX6_done_6 : decode cX6_done 6 = .ok (.ifCond .eq 7, 3) := by decide +kernel
theorem dX6_done_9 : decode cX6_done 9 = .ok (.iconst 0, 1) := by decide +kernel
theorem dX6_done_10 : decode cX6_done 10 = .ok (.goto 4, 3) := by decide +kernel
theorem dX6_done_13 : decode cX6_done 13 = .ok (.iconst 1, 1) := by decide +kernel
theorem dX6_done_14 : decode cX6_done 14 = .ok (.iadd, 1) := by decide +kernel
theorem dX6_done_15 : decode cX6_done 15 = .ok (.putfield 114, 3) := by decide +kernel
theorem dX6_done_18 : decode cX6_done 18 = .ok (.iconst 1, 1) := by decide +kernel
theorem dX6_done_19 : decode cX6_done 19 = .ok (.ireturn, 1) := by decide +kernel
set_option maxRecDepth 20000 in
theorem ggX6_readOrder_X6_figures : GoodIn wsX6_readOrder wsX6_figures := goodIn_r _ [5, 6, 7, 8, 9, 10, 11, 4, 12, 21, 22, 23, 24, 25, 26, 27, 28, 29, 30, 31] (by decide +kernel) (by decide +kernel)
set_option maxRecDepth 20000 in
theorem gX6_readOrder_X6_figures : GoodIn wsX6_readOrder (wsV RX6 117 RX6 yX6_figures wsX6_figures) := goodIn_app (goodIn_of _ (by decide +kernel)) ggX6_readOrder_X6_figures
set_option maxRecDepth 20000 in
theorem ggX6_readOrder_X6_orderOn : GoodIn wsX6_readOrder wsX6_orderOn := goodIn_r _ [15] (by decide +kernel) (by decide +kernel)
set_option maxRecDepth 20000 in
theorem gX6_readOrder_X6_orderOn : GoodIn wsX6_readOrder (va_wsS RX6 121 yX6_orderOn wsX6_orderOn) := goodIn_app (goodIn_of _ (by decide +kernel)) ggX6_readOrder_X6_orderOn
set_option maxRecDepth 20000 in
theorem ggX6_readOrder_X6_done : GoodIn wsX6_readOrder wsX6_done := goodIn_r _ [19, 20, 21, 22, 23, 24, 25, 26, 27, 28, 29, 30, 31] (by decide +kernel) (by decide +kernel)
set_option maxRecDepth 20000 in
theorem gX6_readOrder_X6_done : GoodIn wsX6_readOrder (wsV RX6 125 RX6 yX6_done wsX6_done) := goodIn_app (goodIn_of _ (by decide +kernel)) ggX6_readOrder_X6_done
theorem dX6_readOrder_0 : decode cX6_readOrder 0 = .ok (.aload_n 0, 1) := by decide +kernel
theorem dX6_readOrder_1 : decode cX6_readOrder 1 = .ok (.iconst 0, 1) := by decide +kernel
theorem dX6_readOrder_2 : decode cX6_readOrder 2 = .ok (.iconst 1, 1) := by decide +kernel
theorem dX6_readOrder_3 : decode cX6_readOrder 3 = .ok (.iconst 0, 1) := by decide +kernel
theorem dX6_readOrder_4 : decode cX6_readOrder 4 = .ok (.iconst 5, 1) := by decide +kernel
theorem dX6_readOrder_5 : decode cX6_readOrder 5 = .ok (.invokevirtual 117, 3) := by decide +kernel
theorem dX6_readOrder_8 : decode cX6_readOrder 8 = .ok (.istore_n 3, 1) := by decide +kernel
theorem dX6_readOrder_9 : decode cX6_readOrder 9 = .ok (.aload_n 0, 1) := by decide +kernel
theorem dX6_readOrder_10 : decode cX6_readOrder 10 = .ok (.iload_n 3, 1) := by decide +kernel
theorem dX6_readOrder_11 : decode cX6_readOrder 11 = .ok (.iconst 2, 1) := by decide +kernel
theorem dX6_readOrder_12 : decode cX6_readOrder 12 = .ok (.iconst 0, 1) := by decide +kernel
theorem dX6_readOrder_13 : decode cX6_readOrder 13 = .ok (.bipush 23, 2) := by decide +kernel
theorem dX6_readOrder_15 : decode cX6_readOrder 15 = .ok (.invokevirtual 117, 3) := by decide +kernel
theorem dX6_readOrder_18 : decode cX6_readOrder 18 = .ok (.istore 4, 2) := by decide +kernel
theorem dX6_readOrder_20 : decode cX6_readOrder 20 = .ok (.iload_n 2, 1) := by decide +kernel
theorem dX6_readOrder_21 : decode cX6_readOrder 21 = .ok (.ifCond .eq 16, 3) := by decide +kernel
theorem dX6_readOrder_24 : decode cX6_readOrder 24 = .ok (.aload_n 0, 1) := by decide +kernel
theorem dX6_readOrder_25 : decode cX6_readOrder 25 = .ok (.iload 4, 2) := by decide +kernel
theorem dX6_readOrder_27 : decode cX6_readOrder 27 = .ok (.iconst 1, 1) := by decide +kernel
theorem dX6_readOrder_28 : decode cX6_readOrder 28 = .ok (.iconst 1, 1) := by decide +kernel
theorem dX6_readOrder_29 : decode cX6_readOrder 29 = .ok (.bipush 6, 2) := by decide +kernel
theorem dX6_readOrder_31 : decode cX6_readOrder 31 = .ok (.invokevirtual 117, 3) := by decide +kernel
theorem dX6_readOrder_34 : decode cX6_readOrder 34 = .ok (.goto 14, 3) := by decide +kernel
theorem dX6_readOrder_37 : decode cX6_readOrder 37 = .ok (.iload 4, 2) := by decide +kernel
theorem dX6_readOrder_39 : decode cX6_readOrder 39 = .ok (.iconst (-1), 1) := by decide +kernel
theorem dX6_readOrder_40 : decode cX6_readOrder 40 = .ok (.if_icmp .ne 7, 3) := by decide +kernel
theorem dX6_readOrder_43 : decode cX6_readOrder 43 = .ok (.iconst (-1), 1) := by decide +kernel
theorem dX6_readOrder_44 : decode cX6_readOrder 44 = .ok (.goto 4, 3) := by decide +kernel
theorem dX6_readOrder_47 : decode cX6_readOrder 47 = .ok (.iconst 0, 1) := by decide +kernel
theorem dX6_readOrder_48 : decode cX6_readOrder 48 = .ok (.istore 5, 2) := by decide +kernel
theorem dX6_readOrder_50 : decode cX6_readOrder 50 = .ok (.iload 5, 2) := by decide +kernel
theorem dX6_readOrder_52 : decode cX6_readOrder 52 = .ok (.iconst (-1), 1) := by decide +kernel
theorem dX6_readOrder_53 : decode cX6_readOrder 53 = .ok (.if_icmp .eq 48, 3) := by decide +kernel
theorem dX6_readOrder_56 : decode cX6_readOrder 56 = .ok (.aload_n 0, 1) := by decide +kernel
theorem dX6_readOrder_57 : decode cX6_readOrder 57 = .ok (.aload_n 1, 1) := by decide +kernel
theorem dX6_readOrder_58 : decode cX6_readOrder 58 = .ok (.iconst 1, 1) := by decide +kernel
theorem dX6_readOrder_59 : decode cX6_readOrder 59 = .ok (.iaload, 1) := by decide +kernel
theorem dX6_readOrder_60 : decode cX6_readOrder 60 = .ok (.bipush 12, 2) := by decide +kernel
theorem dX6_readOrder_62 : decode cX6_readOrder 62 = .ok (.if_icmp .ge 28, 3) := by decide +kernel
theorem dX6_readOrder_65 : decode cX6_readOrder 65 = .ok (.aload_n 1, 1) := by decide +kernel
theorem dX6_readOrder_66 : decode cX6_readOrder 66 = .ok (.iload_n 2, 1) := by decide +kernel
theorem dX6_readOrder_67 : decode cX6_readOrder 67 = .ok (.ifCond .eq 7, 3) := by decide +kernel
theorem dX6_readOrder_70 : decode cX6_readOrder 70 = .ok (.iconst 1, 1) := by decide +kernel
theorem dX6_readOrder_71 : decode cX6_readOrder 71 = .ok (.goto 4, 3) := by decide +kernel
theorem dX6_readOrder_74 : decode cX6_readOrder 74 = .ok (.iconst 0, 1) := by decide +kernel
theorem dX6_readOrder_75 : decode cX6_readOrder 75 = .ok (.iload_n 3, 1) := by decide +kernel
theorem dX6_readOrder_76 : decode cX6_readOrder 76 = .ok (.iload 4, 2) := by decide +kernel
theorem dX6_readOrder_78 : decode cX6_readOrder 78 = .ok (.iload 5, 2) := by decide +kernel
theorem dX6_readOrder_80 : decode cX6_readOrder 80 = .ok (.invokestatic 121, 3) := by decide +kernel
theorem dX6_readOrder_83 : decode cX6_readOrder 83 = .ok (.ifCond .lt 7, 3) := by decide +kernel
theorem dX6_readOrder_86 : decode cX6_readOrder 86 = .ok (.iconst 1, 1) := by decide +kernel
theorem dX6_readOrder_87 : decode cX6_readOrder 87 = .ok (.goto 4, 3) := by decide +kernel
theorem dX6_readOrder_90 : decode cX6_readOrder 90 = .ok (.iconst 0, 1) := by decide +kernel
theorem dX6_readOrder_91 : decode cX6_readOrder 91 = .ok (.invokevirtual 125, 3) := by decide +kernel
theorem dX6_readOrder_94 : decode cX6_readOrder 94 = .ok (.ifCond .eq 7, 3) := by decide +kernel
theorem dX6_readOrder_97 : decode cX6_readOrder 97 = .ok (.iconst 1, 1) := by decide +kernel
theorem dX6_readOrder_98 : decode cX6_readOrder 98 = .ok (.goto 4, 3) := by decide +kernel
theorem dX6_readOrder_101 : decode cX6_readOrder 101 = .ok (.iconst 0, 1) := by decide +kernel
theorem dX6_readOrder_102 : decode cX6_readOrder 102 = .ok (.ireturn, 1) := by decide +kernel
set_option maxRecDepth 20000 in
theorem ggX6_readCommand_X6_readOrder : GoodIn wsX6_readCommand wsX6_readOrder := goodIn_r _ [7, 8, 9, 10, 6, 11, 2, 12, 1, 13, 14, 15, 16, 17, 18, 19, 20, 21, 22, 23, 24, 87, 88, 89, 90, 91, 92, 93, 94, 95, 96, 97] (by decide +kernel) (by decide +kernel)
set_option maxRecDepth 20000 in
theorem gX6_readCommand_X6_readOrder : GoodIn wsX6_readCommand (wsV RX6 129 RX6 yX6_readOrder wsX6_readOrder) := goodIn_app (goodIn_of _ (by decide +kernel)) ggX6_readCommand_X6_readOrder
set_option maxRecDepth 20000 in
theorem ggX6_readCommand_X6_figures : GoodIn wsX6_readCommand wsX6_figures := goodIn_r _ [11, 2, 12, 1, 13, 14, 15, 6, 16, 87, 88, 89, 90, 91, 92, 93, 94, 95, 96, 97] (by decide +kernel) (by decide +kernel)
set_option maxRecDepth 20000 in
theorem gX6_readCommand_X6_figures : GoodIn wsX6_readCommand (wsV RX6 117 RX6 yX6_figures wsX6_figures) := goodIn_app (goodIn_of _ (by decide +kernel)) ggX6_readCommand_X6_figures
set_option maxRecDepth 20000 in
theorem ggX6_readCommand_X6_isSetting : GoodIn wsX6_readCommand wsX6_isSetting := goodIn_r _ [27, 28, 13, 29, 14, 15, 6, 16] (by decide +kernel) (by decide +kernel)
set_option maxRecDepth 20000 in
theorem gX6_readCommand_X6_isSetting : GoodIn wsX6_readCommand (va_wsS RX6 133 yX6_isSetting wsX6_isSetting) := goodIn_app (goodIn_of _ (by decide +kernel)) ggX6_readCommand_X6_isSetting
set_option maxRecDepth 20000 in
theorem ggX6_readCommand_X6_change : GoodIn wsX6_readCommand wsX6_change := goodIn_r _ [32] (by decide +kernel) (by decide +kernel)
set_option maxRecDepth 20000 in
theorem gX6_readCommand_X6_change : GoodIn wsX6_readCommand (va_wsS RX6 137 yX6_change wsX6_change) := goodIn_app (goodIn_of _ (by decide +kernel)) ggX6_readCommand_X6_change
