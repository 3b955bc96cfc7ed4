set_option maxRecDepth 20000 in
theorem gX6_carryOut_X6_carryAll : GoodIn wsX6_carryOut (wsV RX6 186 RX6 yX6_carryAll wsX6_carryAll) := goodIn_app (goodIn_of _ (by decide +kernel)) ggX6_carryOut_X6_carryAll
set_option maxRecDepth 20000 in
theorem ggX6_carryOut_X2_clear : GoodIn wsX6_carryOut wsX2_clear := goodIn_r _ [190, 9, 201, 202] (by decide +kernel) (by decide +kernel)
set_option maxRecDepth 20000 in
theorem gX6_carryOut_X2_clear : GoodIn wsX6_carryOut (wsV RX6 180 RX2 yX2_clear wsX2_clear) := goodIn_app (goodIn_of _ (by decide +kernel)) ggX6_carryOut_X2_clear
set_option maxRecDepth 20000 in
theorem ggX6_carryOut_X1_settle : GoodIn wsX6_carryOut wsX1_settle := goodIn_r _ [194, 37, 36, 203, 204, 205] (by decide +kernel) (by decide +kernel)
set_option maxRecDepth 20000 in
theorem gX6_carryOut_X1_settle : GoodIn wsX6_carryOut (wsV RX6 53 RX1 yX1_settle wsX1_settle) := goodIn_app (goodIn_of _ (by decide +kernel)) ggX6_carryOut_X1_settle
theorem dX6_carryOut_0 : decode cX6_carryOut 0 = .ok (.aload_n 0, 1) := by decide +kernel
theorem dX6_carryOut_1 : decode cX6_carryOut 1 = .ok (.getfield 41, 3) := by decide +kernel
theorem dX6_carryOut_4 : decode cX6_carryOut 4 = .ok (.invokevirtual 183, 3) := by decide +kernel
theorem dX6_carryOut_7 : decode cX6_carryOut 7 = .ok (.bipush (-6), 2) := by decide +kernel
theorem dX6_carryOut_9 : decode cX6_carryOut 9 = .ok (.if_icmp .eq 6, 3) := by decide +kernel
theorem dX6_carryOut_12 : decode cX6_carryOut 12 = .ok (.bipush (-3), 2) := by decide +kernel
theorem dX6_carryOut_14 : decode cX6_carryOut 14 = .ok (.ireturn, 1) := by decide +kernel
theorem dX6_carryOut_15 : decode cX6_carryOut 15 = .ok (.aload_n 0, 1) := by decide +kernel
theorem dX6_carryOut_16 : decode cX6_carryOut 16 = .ok (.getfield 19, 3) := by decide +kernel
theorem dX6_carryOut_19 : decode cX6_carryOut 19 = .ok (.aload_n 0, 1) := by decide +kernel
theorem dX6_carryOut_20 : decode cX6_carryOut 20 = .ok (.getfield 12, 3) := by decide +kernel
theorem dX6_carryOut_23 : decode cX6_carryOut 23 = .ok (.invokevirtual 45, 3) := by decide +kernel
theorem dX6_carryOut_26 : decode cX6_carryOut 26 = .ok (.aload_n 0, 1) := by decide +kernel
theorem dX6_carryOut_27 : decode cX6_carryOut 27 = .ok (.invokevirtual 186, 3) := by decide +kernel
theorem dX6_carryOut_30 : decode cX6_carryOut 30 = .ok (.istore_n 1, 1) := by decide +kernel
theorem dX6_carryOut_31 : decode cX6_carryOut 31 = .ok (.aload_n 0, 1) := by decide +kernel
theorem dX6_carryOut_32 : decode cX6_carryOut 32 = .ok (.getfield 41, 3) := by decide +kernel
theorem dX6_carryOut_35 : decode cX6_carryOut 35 = .ok (.invokevirtual 180, 3) := by decide +kernel
theorem dX6_carryOut_38 : decode cX6_carryOut 38 = .ok (.pop, 1) := by decide +kernel
theorem dX6_carryOut_39 : decode cX6_carryOut 39 = .ok (.aload_n 0, 1) := by decide +kernel
theorem dX6_carryOut_40 : decode cX6_carryOut 40 = .ok (.getfield 19, 3) := by decide +kernel
theorem dX6_carryOut_43 : decode cX6_carryOut 43 = .ok (.iload_n 1, 1) := by decide +kernel
theorem dX6_carryOut_44 : decode cX6_carryOut 44 = .ok (.invokevirtual 53, 3) := by decide +kernel
theorem dX6_carryOut_47 : decode cX6_carryOut 47 = .ok (.ireturn, 1) := by decide +kernel
set_option maxRecDepth 20000 in
theorem ggX6_undo_X1_takeBack : GoodIn wsX6_undo wsX1_takeBack := goodIn_r _ [7, 8, 9, 10, 11, 12, 6, 13, 14, 15, 16, 17, 18, 19, 20, 21, 22, 23, 24, 25, 26, 27, 28, 29, 30, 31, 32, 33, 34, 35, 36, 37, 38, 39, 40, 41, 42, 43, 44, 45, 46, 47, 48, 49, 50, 51, 52, 53, 54, 55, 56, 57, 58, 59, 60, 61, 62, 63, 64, 65, 72, 73, 74, 75, 76, 77, 78, 79, 80, 81, 82, 83, 84, 85, 86, 87, 88, 89, 90, 91, 92, 93, 94, 95, 96, 97, 98, 99] (by decide +kernel) (by decide +kernel)
set_option maxRecDepth 20000 in
theorem gX6_undo_X1_takeBack : GoodIn wsX6_undo (wsV RX6 189 RX1 yX1_takeBack wsX1_takeBack) := goodIn_app (goodIn_of _ (by decide +kernel)) ggX6_undo_X1_takeBack
theorem dX6_undo_0 : decode cX6_undo 0 = .ok (.aload_n 0, 1) := by decide +kernel
theorem dX6_undo_1 : decode cX6_undo 1 = .ok (.getfield 19, 3) := by decide +kernel
theorem dX6_undo_4 : decode cX6_undo 4 = .ok (.aload_n 0, 1) := by decide +kernel
theorem dX6_undo_5 : decode cX6_undo 5 = .ok (.getfield 12, 3) := by decide +kernel
theorem dX6_undo_8 : decode cX6_undo 8 = .ok (.invokevirtual 189, 3) := by decide +kernel
theorem dX6_undo_11 : decode cX6_undo 11 = .ok (.ireturn, 1) := by decide +kernel
set_option maxRecDepth 20000 in
theorem ggX6_save_X0_copyFrom : GoodIn wsX6_save wsX0_copyFrom := goodIn_r _ [9, 10, 11, 12, 13, 14, 15, 16, 17, 18, 19, 20, 21, 22, 23, 24, 25, 26, 27, 28, 29, 30, 31, 32, 33, 34, 35, 36, 37, 38, 39, 40, 41, 42, 43, 44, 45, 46, 47, 48, 49, 50, 51, 52, 53, 54, 55, 62, 63, 64, 65, 66, 67, 68, 69, 70, 71, 72, 73, 74, 75, 76, 77, 78, 79, 80, 81, 82, 83, 84, 85, 86] (by decide +kernel) (by decide +kernel)
set_option maxRecDepth 20000 in
theorem gX6_save_X0_copyFrom : GoodIn wsX6_save (wsV RX6 193 RX0 yX0_copyFrom wsX0_copyFrom) := goodIn_app (goodIn_of _ (by decide +kernel)) ggX6_save_X0_copyFrom
theorem dX6_save_0 : decode cX6_save 0 = .ok (.iload_n 1, 1) := by decide +kernel
theorem dX6_save_1 : decode cX6_save 1 = .ok (.ifCond .lt 8, 3) := by decide +kernel
theorem dX6_save_4 : decode cX6_save 4 = .ok (.iload_n 1, 1) := by decide +kernel
theorem dX6_save_5 : decode cX6_save 5 = .ok (.iconst 2, 1) := by decide +kernel
theorem dX6_save_6 : decode cX6_save 6 = .ok (.if_icmp .lt 6, 3) := by decide +kernel
theorem dX6_save_9 : decode cX6_save 9 = .ok (.bipush (-2), 2) := by decide +kernel
theorem dX6_save_11 : decode cX6_save 11 = .ok (.ireturn, 1) := by decide +kernel
theorem dX6_save_12 : decode cX6_save 12 = .ok (.aload_n 0, 1) := by decide +kernel
theorem dX6_save_13 : decode cX6_save 13 = .ok (.getfield 23, 3) := by decide +kernel
theorem dX6_save_16 : decode cX6_save 16 = .ok (.iload_n 1, 1) := by decide +kernel
theorem dX6_save_17 : decode cX6_save 17 = .ok (.aaload, 1) := by decide +kernel
theorem dX6_save_18 : decode cX6_save 18 = .ok (.aload_n 0, 1) := by decide +kernel
theorem dX6_save_19 : decode cX6_save 19 = .ok (.getfield 12, 3) := by decide +kernel
theorem dX6_save_22 : decode cX6_save 22 = .ok (.invokevirtual 193, 3) := by decide +kernel
theorem dX6_save_25 : decode cX6_save 25 = .ok (.aload_n 0, 1) := by decide +kernel
theorem dX6_save_26 : decode cX6_save 26 = .ok (.getfield 27, 3) := by decide +kernel
theorem dX6_save_29 : decode cX6_save 29 = .ok (.iload_n 1, 1) := by decide +kernel
theorem dX6_save_30 : decode cX6_save 30 = .ok (.iconst 1, 1) := by decide +kernel
theorem dX6_save_31 : decode cX6_save 31 = .ok (.bastore, 1) := by decide +kernel
theorem dX6_save_32 : decode cX6_save 32 = .ok (.aload_n 0, 1) := by decide +kernel
theorem dX6_save_33 : decode cX6_save 33 = .ok (.getfield 12, 3) := by decide +kernel
theorem dX6_save_36 : decode cX6_save 36 = .ok (.getfield 119, 3) := by decide +kernel
theorem dX6_save_39 : decode cX6_save 39 = .ok (.ireturn, 1) := by decide +kernel
set_option maxRecDepth 20000 in
theorem ggX6_restore_X1_prepare : GoodIn wsX6_restore wsX1_prepare := goodIn_r _ [10, 11, 12, 13, 14, 9, 15, 16, 17, 18, 19, 20, 21, 22, 23, 24, 25, 26, 27, 28, 29, 30, 31, 32, 33, 34, 35, 36, 37, 38, 39, 40, 41, 42, 43, 44, 45, 46, 47, 48, 49, 50, 51, 52, 53, 54, 55, 56, 57, 58, 59, 60, 61, 62, 63, 64, 65, 66, 67, 68, 88, 89, 90, 80, 81, 82, 83, 84, 85, 86, 87, 91, 92, 93, 94, 95, 96, 97, 98, 99, 100, 101, 102, 103, 104, 105, 106, 107] (by decide +kernel) (by decide +kernel)
set_option maxRecDepth 20000 in
theorem gX6_restore_X1_prepare : GoodIn wsX6_restore (wsV RX6 45 RX1 yX1_prepare wsX1_prepare) := goodIn_app (goodIn_of _ (by decide +kernel)) ggX6_restore_X1_prepare
set_option maxRecDepth 20000 in
theorem ggX6_restore_X0_copyFrom : GoodIn wsX6_restore wsX0_copyFrom := goodIn_r _ [22, 23, 24, 25, 26, 27, 28, 29, 30, 31, 32, 33, 34, 35, 36, 37, 38, 39, 40, 41, 42, 43, 44, 45, 46, 47, 48, 49, 50, 51, 52, 53, 54, 55, 56, 57, 58, 59, 60, 61, 62, 63, 64, 65, 66, 67, 68, 80, 81, 82, 83, 84, 85, 86, 87, 91, 92, 93, 94, 95, 96, 97, 98, 99, 100, 101, 102, 103, 104, 105, 106, 107] (by decide +kernel) (by decide +kernel)
set_option maxRecDepth 20000 in
theorem gX6_restore_X0_copyFrom : GoodIn wsX6_restore (wsV RX6 193 RX0 yX0_copyFrom wsX0_copyFrom) := goodIn_app (goodIn_of _ (by decide +kernel)) ggX6_restore_X0_copyFrom
set_option maxRecDepth 20000 in
theorem ggX6_restore_X1_settle : GoodIn wsX6_restore wsX1_settle := goodIn_r _ [73, 17, 16, 88, 89, 90] (by decide +kernel) (by decide +kernel)
set_option maxRecDepth 20000 in
theorem gX6_restore_X1_settle : GoodIn wsX6_restore (wsV RX6 53 RX1 yX1_settle wsX1_settle) := goodIn_app (goodIn_of _ (by decide +kernel)) ggX6_restore_X1_settle
theorem dX6_restore_0 : decode cX6_restore 0 = .ok (.iload_n 1, 1) := by decide +kernel
theorem dX6_restore_1 : decode cX6_restore 1 = .ok (.ifCond .lt 8, 3) := by decide +kernel
theorem dX6_restore_4 : decode cX6_restore 4 = .ok (.iload_n 1, 1) := by decide +kernel
theorem dX6_restore_5 : decode cX6_restore 5 = .ok (.iconst 2, 1) := by decide +kernel
theorem dX6_restore_6 : decode cX6_restore 6 = .ok (.if_icmp .lt 6, 3) := by decide +kernel
theorem dX6_restore_9 : decode cX6_restore 9 = .ok (.bipush (-2), 2) := by decide +kernel
theorem dX6_restore_11 : decode cX6_restore 11 = .ok (.ireturn, 1) := by decide +kernel
theorem dX6_restore_12 : decode cX6_restore 12 = .ok (.aload_n 0, 1) := by decide +kernel
theorem dX6_restore_13 : decode cX6_restore 13 = .ok (.getfield 27, 3) := by decide +kernel
theorem dX6_restore_16 : decode cX6_restore 16 = .ok (.iload_n 1, 1) := by decide +kernel
theorem dX6_restore_17 : decode cX6_restore 17 = .ok (.baload, 1) := by decide +kernel
theorem dX6_restore_18 : decode cX6_restore 18 = .ok (.ifCond .ne 6, 3) := by decide +kernel
theorem dX6_restore_21 : decode cX6_restore 21 = .ok (.bipush (-5), 2) := by decide +kernel
theorem dX6_restore_23 : decode cX6_restore 23 = .ok (.ireturn, 1) := by decide +kernel
theorem dX6_restore_24 : decode cX6_restore 24 = .ok (.aload_n 0, 1) := by decide +kernel
theorem dX6_restore_25 : decode cX6_restore 25 = .ok (.getfield 19, 3) := by decide +kernel
theorem dX6_restore_28 : decode cX6_restore 28 = .ok (.aload_n 0, 1) := by decide +kernel
theorem dX6_restore_29 : decode cX6_restore 29 = .ok (.getfield 12, 3) := by decide +kernel
theorem dX6_restore_32 : decode cX6_restore 32 = .ok (.invokevirtual 45, 3) := by decide +kernel
theorem dX6_restore_35 : decode cX6_restore 35 = .ok (.aload_n 0, 1) := by decide +kernel
theorem dX6_restore_36 : decode cX6_restore 36 = .ok (.getfield 12, 3) := by decide +kernel
theorem dX6_restore_39 : decode cX6_restore 39 = .ok (.aload_n 0, 1) := by decide +kernel
theorem dX6_restore_40 : decode cX6_restore 40 = .ok (.getfield 23, 3) := by decide +kernel
theorem dX6_restore_43 : decode cX6_restore 43 = .ok (.iload_n 1, 1) := by decide +kernel
theorem dX6_restore_44 : decode cX6_restore 44 = .ok (.aaload, 1) := by decide +kernel
theorem dX6_restore_45 : decode cX6_restore 45 = .ok (.invokevirtual 193, 3) := by decide +kernel
theorem dX6_restore_48 : decode cX6_restore 48 = .ok (.aload_n 0, 1) := by decide +kernel
theorem dX6_restore_49 : decode cX6_restore 49 = .ok (.getfield 19, 3) := by decide +kernel
theorem dX6_restore_52 : decode cX6_restore 52 = .ok (.aload_n 0, 1) := by decide +kernel
theorem dX6_restore_53 : decode cX6_restore 53 = .ok (.getfield 12, 3) := by decide +kernel
theorem dX6_restore_56 : decode cX6_restore 56 = .ok (.getfield 119, 3) := by decide +kernel
theorem dX6_restore_59 : decode cX6_restore 59 = .ok (.invokevirtual 53, 3) := by decide +kernel
theorem dX6_restore_62 : decode cX6_restore 62 = .ok (.ireturn, 1) := by decide +kernel
theorem dX6_gapAbove_0 : decode cX6_gapAbove 0 = .ok (.iload_n 0, 1) := by decide +kernel
theorem dX6_gapAbove_1 : decode cX6_gapAbove 1 = .ok (.bipush 50, 2) := by decide +kernel
theorem dX6_gapAbove_3 : decode cX6_gapAbove 3 = .ok (.invokestatic 195, 3) := by decide +kernel
theorem dX6_gapAbove_6 : decode cX6_gapAbove 6 = .ok (.iconst 1, 1) := by decide +kernel
theorem dX6_gapAbove_7 : decode cX6_gapAbove 7 = .ok (.iadd, 1) := by decide +kernel
theorem dX6_gapAbove_8 : decode cX6_gapAbove 8 = .ok (.ireturn, 1) := by decide +kernel
set_option maxRecDepth 20000 in
theorem ggX6_gapIfFast_X5_throughAll : GoodIn wsX6_gapIfFast wsX5_throughAll := goodIn_r _ [6, 7, 8, 17, 18, 19, 20, 21, 22, 23] (by decide +kernel) (by decide +kernel)
set_option maxRecDepth 20000 in
theorem gX6_gapIfFast_X5_throughAll : GoodIn wsX6_gapIfFast (wsV RX6 166 RX5 yX5_throughAll wsX5_throughAll) := goodIn_app (goodIn_of _ (by decide +kernel)) ggX6_gapIfFast_X5_throughAll
set_option maxRecDepth 20000 in
theorem ggX6_gapIfFast_X6_gapAbove : GoodIn wsX6_gapIfFast wsX6_gapAbove := goodIn_r _ [12, 13, 14, 15, 16] (by decide +kernel) (by decide +kernel)
set_option maxRecDepth 20000 in
theorem gX6_gapIfFast_X6_gapAbove : GoodIn wsX6_gapIfFast (va_wsS RX6 169 yX6_gapAbove wsX6_gapAbove) := goodIn_app (goodIn_of _ (by decide +kernel)) ggX6_gapIfFast_X6_gapAbove
theorem dX6_gapIfFast_0 : decode cX6_gapIfFast 0 = .ok (.aload_n 0, 1) := by decide +kernel
theorem dX6_gapIfFast_1 : decode cX6_gapIfFast 1 = .ok (.invokevirtual 166, 3) := by decide +kernel
theorem dX6_gapIfFast_4 : decode cX6_gapIfFast 4 = .ok (.aload_n 0, 1) := by decide +kernel
theorem dX6_gapIfFast_5 : decode cX6_gapIfFast 5 = .ok (.getfield 80, 3) := by decide +kernel
theorem dX6_gapIfFast_8 : decode cX6_gapIfFast 8 = .ok (.iload_n 1, 1) := by decide +kernel
theorem dX6_gapIfFast_9 : decode cX6_gapIfFast 9 = .ok (.iaload, 1) := by decide +kernel
theorem dX6_gapIfFast_10 : decode cX6_gapIfFast 10 = .ok (.isub, 1) := by decide +kernel
theorem dX6_gapIfFast_11 : decode cX6_gapIfFast 11 = .ok (.iconst 1, 1) := by decide +kernel
theorem dX6_gapIfFast_12 : decode cX6_gapIfFast 12 = .ok (.iadd, 1) := by decide +kernel
theorem dX6_gapIfFast_13 : decode cX6_gapIfFast 13 = .ok (.invokestatic 169, 3) := by decide +kernel
theorem dX6_gapIfFast_16 : decode cX6_gapIfFast 16 = .ok (.ireturn, 1) := by decide +kernel
set_option maxRecDepth 20000 in
theorem ggX6_carryAll_X2_ordersAt : GoodIn wsX6_carryAll wsX2_ordersAt := goodIn_r _ [7, 8, 9, 10, 6, 11, 12, 13, 14, 15, 16, 17, 18, 19, 20, 21, 22, 23, 24, 25, 26, 27, 28, 138, 139] (by decide +kernel) (by decide +kernel)
set_option maxRecDepth 20000 in
theorem gX6_carryAll_X2_ordersAt : GoodIn wsX6_carryAll (wsV RX6 200 RX2 yX2_ordersAt wsX2_ordersAt) := goodIn_app (goodIn_of _ (by decide +kernel)) ggX6_carryAll_X2_ordersAt
set_option maxRecDepth 20000 in
theorem ggX6_carryAll_X6_carryOne : GoodIn wsX6_carryAll wsX6_carryOne := goodIn_r _ [33, 1, 34, 35, 9, 10, 6, 11, 12, 13, 36, 15, 16, 17, 8, 18, 19, 20, 37, 38, 39, 40, 41, 42, 43, 44, 45, 46, 47, 48, 49, 50, 51, 52, 53, 54, 55, 56, 57, 58, 59, 60, 61, 62, 63, 64, 65, 66, 67, 68, 69, 70, 71, 72, 73, 74, 75, 76, 77, 78, 79, 80, 81, 82, 83, 84, 85, 86, 87, 88, 89, 90, 91, 92, 93, 94, 95, 96, 97, 98, 99, 100, 101, 102, 103, 104, 105, 106, 107, 108, 22, 23, 24, 14, 25, 26, 27, 28, 109, 110, 111, 112, 113, 114, 115, 116, 117, 118, 119, 120, 121, 122, 123, 124, 125, 126, 127, 128, 129, 130, 131, 132, 133, 134, 135, 136, 137, 138, 139, 140, 141, 142, 143, 144, 145, 146, 147, 148, 149, 150, 151, 152, 153, 154, 155, 156, 157, 158, 159, 160, 161, 162, 163, 164] (by decide +kernel) (by decide +kernel)
set_option maxRecDepth 20000 in
theorem gX6_carryAll_X6_carryOne : GoodIn wsX6_carryAll (wsV RX6 203 RX6 yX6_carryOne wsX6_carryOne) := goodIn_app (goodIn_of _ (by decide +kernel)) ggX6_carryAll_X6_carryOne
theorem dX6_carryAll_0 : decode cX6_carryAll 0 = .ok (.iconst 0, 1) := by decide +kernel
theorem dX6_carryAll_1 : decode cX6_carryAll 1 = .ok (.istore_n 1, 1) := by decide +kernel
theorem dX6_carryAll_2 : decode cX6_carryAll 2 = .ok (.iconst 0, 1) := by decide +kernel
theorem dX6_carryAll_3 : decode cX6_carryAll 3 = .ok (.istore_n 2, 1) := by decide +kernel
theorem dX6_carryAll_4 : decode cX6_carryAll 4 = .ok (.iload_n 2, 1) := by decide +kernel
theorem dX6_carryAll_5 : decode cX6_carryAll 5 = .ok (.aload_n 0, 1) := by decide +kernel
theorem dX6_carryAll_6 : decode cX6_carryAll 6 = .ok (.getfield 41, 3) := by decide +kernel
theorem dX6_carryAll_9 : decode cX6_carryAll 9 = .ok (.getfield 150, 3) := by decide +kernel
theorem dX6_carryAll_12 : decode cX6_carryAll 12 = .ok (.if_icmp .ge 46, 3) := by decide +kernel
theorem dX6_carryAll_15 : decode cX6_carryAll 15 = .ok (.aload_n 0, 1) := by decide +kernel
theorem dX6_carryAll_16 : decode cX6_carryAll 16 = .ok (.getfield 41, 3) := by decide +kernel
theorem dX6_carryAll_19 : decode cX6_carryAll 19 = .ok (.iload_n 2, 1) := by decide +kernel
theorem dX6_carryAll_20 : decode cX6_carryAll 20 = .ok (.invokevirtual 200, 3) := by decide +kernel
theorem dX6_carryAll_23 : decode cX6_carryAll 23 = .ok (.istore_n 3, 1) := by decide +kernel
theorem dX6_carryAll_24 : decode cX6_carryAll 24 = .ok (.iconst 0, 1) := by decide +kernel
theorem dX6_carryAll_25 : decode cX6_carryAll 25 = .ok (.istore 4, 2) := by decide +kernel
theorem dX6_carryAll_27 : decode cX6_carryAll 27 = .ok (.iload 4, 2) := by decide +kernel
theorem dX6_carryAll_29 : decode cX6_carryAll 29 = .ok (.iload_n 3, 1) := by decide +kernel
theorem dX6_carryAll_30 : decode cX6_carryAll 30 = .ok (.if_icmp .ge 22, 3) := by decide +kernel
theorem dX6_carryAll_33 : decode cX6_carryAll 33 = .ok (.aload_n 0, 1) := by decide +kernel
theorem dX6_carryAll_34 : decode cX6_carryAll 34 = .ok (.iload_n 2, 1) := by decide +kernel
theorem dX6_carryAll_35 : decode cX6_carryAll 35 = .ok (.invokevirtual 203, 3) := by decide +kernel
theorem dX6_carryAll_38 : decode cX6_carryAll 38 = .ok (.ifCond .ge 5, 3) := by decide +kernel
theorem dX6_carryAll_41 : decode cX6_carryAll 41 = .ok (.iload_n 1, 1) := by decide +kernel
theorem dX6_carryAll_42 : decode cX6_carryAll 42 = .ok (.ireturn, 1) := by decide +kernel
theorem dX6_carryAll_43 : decode cX6_carryAll 43 = .ok (.iinc 1 1, 3) := by decide +kernel
theorem dX6_carryAll_46 : decode cX6_carryAll 46 = .ok (.iinc 4 1, 3) := by decide +kernel
theorem dX6_carryAll_49 : decode cX6_carryAll 49 = .ok (.goto (-22), 3) := by decide +kernel
theorem dX6_carryAll_52 : decode cX6_carryAll 52 = .ok (.iinc 2 1, 3) := by decide +kernel
theorem dX6_carryAll_55 : decode cX6_carryAll 55 = .ok (.goto (-51), 3) := by decide +kernel
theorem dX6_carryAll_58 : decode cX6_carryAll 58 = .ok (.iload_n 1, 1) := by decide +kernel
theorem dX6_carryAll_59 : decode cX6_carryAll 59 = .ok (.ireturn, 1) := by decide +kernel
set_option maxRecDepth 20000 in
theorem ggX6_carryOne_X2_signAt : GoodIn wsX6_carryOne wsX2_signAt := goodIn_r _ [7, 8, 9, 127, 128] (by decide +kernel) (by decide +kernel)
set_option maxRecDepth 20000 in
theorem gX6_carryOne_X2_signAt : GoodIn wsX6_carryOne (wsV RX6 206 RX2 yX2_signAt wsX2_signAt) := goodIn_app (goodIn_of _ (by decide +kernel)) ggX6_carryOne_X2_signAt
set_option maxRecDepth 20000 in
theorem ggX6_carryOne_X2_isDigitAt : GoodIn wsX6_carryOne wsX2_isDigitAt := goodIn_r _ [13, 14, 4, 5, 6, 7, 8, 9, 15, 16, 17, 127, 128] (by decide +kernel) (by decide +kernel)
set_option maxRecDepth 20000 in
theorem gX6_carryOne_X2_isDigitAt : GoodIn wsX6_carryOne (wsV RX6 209 RX2 yX2_isDigitAt wsX2_isDigitAt) := goodIn_app (goodIn_of _ (by decide +kernel)) ggX6_carryOne_X2_isDigitAt
set_option maxRecDepth 20000 in
theorem ggX6_carryOne_X0_clockAndPass : GoodIn wsX6_carryOne wsX0_clockAndPass := goodIn_r _ [22, 23, 24, 25, 26, 27, 21, 28, 29, 30, 31, 32, 33, 34, 35, 36, 37, 38, 39, 40, 41, 42, 43, 44, 45, 46, 47, 48, 49, 50, 51, 52, 53, 54, 55, 56, 57, 58, 59, 60, 61, 62, 63, 64, 65, 66, 67, 68, 69, 70, 71, 72, 73, 74, 75, 76, 77, 78, 79, 80, 81, 82, 83, 84, 85, 86, 87, 129, 130, 131, 132, 133, 134, 135, 136, 137, 138, 139, 140, 141, 142, 143, 144, 145, 146, 147, 148, 149, 150, 151, 152, 153] (by decide +kernel) (by decide +kernel)
set_option maxRecDepth 20000 in
theorem gX6_carryOne_X0_clockAndPass : GoodIn wsX6_carryOne (wsV RX6 212 RX0 yX0_clockAndPass wsX0_clockAndPass) := goodIn_app (goodIn_of _ (by decide +kernel)) ggX6_carryOne_X0_clockAndPass
set_option maxRecDepth 20000 in
theorem ggX6_carryOne_X0_takeClock : GoodIn wsX6_carryOne wsX0_takeClock := goodIn_r _ [28, 29, 23, 24, 30, 31, 32, 33, 34, 35, 36, 37, 38, 39, 40, 129, 130, 131, 132, 133, 134, 135, 136, 137, 138, 139, 140, 141, 142, 143] (by decide +kernel) (by decide +kernel)
set_option maxRecDepth 20000 in
theorem gX6_carryOne_X0_takeClock : GoodIn wsX6_carryOne (wsV RX6 60 RX0 yX0_takeClock wsX0_takeClock) := goodIn_app (goodIn_of _ (by decide +kernel)) ggX6_carryOne_X0_takeClock
set_option maxRecDepth 20000 in
theorem ggX6_carryOne_X2_numberAt : GoodIn wsX6_carryOne wsX2_numberAt := goodIn_r _ [92, 93, 11, 12, 6, 13, 14, 4, 5, 7, 8, 9, 15, 16, 17, 94, 95, 96, 97, 127, 128] (by decide +kernel) (by decide +kernel)
set_option maxRecDepth 20000 in
theorem gX6_carryOne_X2_numberAt : GoodIn wsX6_carryOne (wsV RX6 215 RX2 yX2_numberAt wsX2_numberAt) := goodIn_app (goodIn_of _ (by decide +kernel)) ggX6_carryOne_X2_numberAt
set_option maxRecDepth 20000 in
theorem ggX6_carryOne_X0_letPass : GoodIn wsX6_carryOne wsX0_letPass := goodIn_r _ [101, 23, 24, 41, 42, 43, 21, 44, 45, 46, 47, 30, 48, 49, 50, 51, 52, 35, 53, 54, 38, 37, 40, 55, 56, 57, 58, 59, 60, 61, 33, 34, 36, 39, 62, 63, 64, 65, 66, 67, 68, 69, 70, 71, 72, 73, 74, 75, 76, 77, 78, 79, 80, 81, 82, 83, 84, 85, 86, 87, 129, 130, 131, 132, 133, 134, 135, 136, 137, 138, 139, 140, 141, 142, 143, 144, 145, 146, 147, 148, 149, 150, 151, 152, 153] (by decide +kernel) (by decide +kernel)
set_option maxRecDepth 20000 in
theorem gX6_carryOne_X0_letPass : GoodIn wsX6_carryOne (wsV RX6 64 RX0 yX0_letPass wsX0_letPass) := goodIn_app (goodIn_of _ (by decide +kernel)) ggX6_carryOne_X0_letPass
set_option maxRecDepth 20000 in
theorem ggX6_carryOne_X2_digitAt : GoodIn wsX6_carryOne wsX2_digitAt := goodIn_r _ [97, 14, 4, 5, 6, 7, 8, 9, 127, 128] (by decide +kernel) (by decide +kernel)
set_option maxRecDepth 20000 in
theorem gX6_carryOne_X2_digitAt : GoodIn wsX6_carryOne (wsV RX6 218 RX2 yX2_digitAt wsX2_digitAt) := goodIn_app (goodIn_of _ (by decide +kernel)) ggX6_carryOne_X2_digitAt
set_option maxRecDepth 20000 in
theorem ggX6_carryOne_X0_changeDelay : GoodIn wsX6_carryOne wsX0_changeDelay := goodIn_r _ [106, 23, 107, 108, 109, 110, 35, 111, 54, 129, 130, 131, 132, 133, 134, 135, 136, 137, 138, 139, 140, 141, 142, 143] (by decide +kernel) (by decide +kernel)
set_option maxRecDepth 20000 in
theorem gX6_carryOne_X0_changeDelay : GoodIn wsX6_carryOne (wsV RX6 57 RX0 yX0_changeDelay wsX0_changeDelay) := goodIn_app (goodIn_of _ (by decide +kernel)) ggX6_carryOne_X0_changeDelay
set_option maxRecDepth 20000 in
theorem ggX6_carryOne_X0_readGate : GoodIn wsX6_carryOne wsX0_readGate := goodIn_r _ [115, 49, 116, 48, 23, 47, 24, 30, 78, 79, 80, 81, 82, 83, 84, 85, 86, 87, 129, 130, 131, 132, 133, 134, 135, 136, 149, 150, 151, 152, 153, 137, 138, 139, 140, 141, 142, 143] (by decide +kernel) (by decide +kernel)
set_option maxRecDepth 20000 in
theorem gX6_carryOne_X0_readGate : GoodIn wsX6_carryOne (wsV RX6 67 RX0 yX0_readGate wsX0_readGate) := goodIn_app (goodIn_of _ (by decide +kernel)) ggX6_carryOne_X0_readGate
set_option maxRecDepth 20000 in
theorem ggX6_carryOne_X0_startLatch : GoodIn wsX6_carryOne wsX0_startLatch := goodIn_r _ [120, 48, 49, 116, 129, 130, 131, 132, 133, 134, 135, 136, 149, 150, 151, 152, 153] (by decide +kernel) (by decide +kernel)
set_option maxRecDepth 20000 in
theorem gX6_carryOne_X0_startLatch : GoodIn wsX6_carryOne (wsV RX6 70 RX0 yX0_startLatch wsX0_startLatch) := goodIn_app (goodIn_of _ (by decide +kernel)) ggX6_carryOne_X0_startLatch
theorem dX6_carryOne_0 : decode cX6_carryOne 0 = .ok (.aload_n 0, 1) := by decide +kernel
theorem dX6_carryOne_1 : decode cX6_carryOne 1 = .ok (.getfield 41, 3) := by decide +kernel
theorem dX6_carryOne_4 : decode cX6_carryOne 4 = .ok (.iload_n 1, 1) := by decide +kernel
theorem dX6_carryOne_5 : decode cX6_carryOne 5 = .ok (.invokevirtual 206, 3) := by decide +kernel
theorem dX6_carryOne_8 : decode cX6_carryOne 8 = .ok (.lookupswitch 145 #[(99, 52), (100, 101), (114, 129), (116, 83), (119, 137)], 52) := by decide +kernel
theorem dX6_carryOne_60 : decode cX6_carryOne 60 = .ok (.aload_n 0, 1) := by decide +kernel
theorem dX6_carryOne_61 : decode cX6_carryOne 61 = .ok (.getfield 41, 3) := by decide +kernel
theorem dX6_carryOne_64 : decode cX6_carryOne 64 = .ok (.iload_n 1, 1) := by decide +kernel
theorem dX6_carryOne_65 : decode cX6_carryOne 65 = .ok (.iconst 1, 1) := by decide +kernel
theorem dX6_carryOne_66 : decode cX6_carryOne 66 = .ok (.iadd, 1) := by decide +kernel
theorem dX6_carryOne_67 : decode cX6_carryOne 67 = .ok (.invokevirtual 209, 3) := by decide +kernel
theorem dX6_carryOne_70 : decode cX6_carryOne 70 = .ok (.ifCond .eq 13, 3) := by decide +kernel
theorem dX6_carryOne_73 : decode cX6_carryOne 73 = .ok (.aload_n 0, 1) := by decide +kernel
theorem dX6_carryOne_74 : decode cX6_carryOne 74 = .ok (.getfield 12, 3) := by decide +kernel
theorem dX6_carryOne_77 : decode cX6_carryOne 77 = .ok (.invokevirtual 212, 3) := by decide +kernel
theorem dX6_carryOne_80 : decode cX6_carryOne 80 = .ok (.goto 10, 3) := by decide +kernel
theorem dX6_carryOne_83 : decode cX6_carryOne 83 = .ok (.aload_n 0, 1) := by decide +kernel
theorem dX6_carryOne_84 : decode cX6_carryOne 84 = .ok (.getfield 12, 3) := by decide +kernel
theorem dX6_carryOne_87 : decode cX6_carryOne 87 = .ok (.invokevirtual 60, 3) := by decide +kernel
theorem dX6_carryOne_90 : decode cX6_carryOne 90 = .ok (.ireturn, 1) := by decide +kernel
theorem dX6_carryOne_91 : decode cX6_carryOne 91 = .ok (.aload_n 0, 1) := by decide +kernel
theorem dX6_carryOne_92 : decode cX6_carryOne 92 = .ok (.getfield 12, 3) := by decide +kernel
theorem dX6_carryOne_95 : decode cX6_carryOne 95 = .ok (.aload_n 0, 1) := by decide +kernel
theorem dX6_carryOne_96 : decode cX6_carryOne 96 = .ok (.getfield 41, 3) := by decide +kernel
theorem dX6_carryOne_99 : decode cX6_carryOne 99 = .ok (.iload_n 1, 1) := by decide +kernel
theorem dX6_carryOne_100 : decode cX6_carryOne 100 = .ok (.iconst 1, 1) := by decide +kernel
theorem dX6_carryOne_101 : decode cX6_carryOne 101 = .ok (.iadd, 1) := by decide +kernel
theorem dX6_carryOne_102 : decode cX6_carryOne 102 = .ok (.invokevirtual 215, 3) := by decide +kernel
theorem dX6_carryOne_105 : decode cX6_carryOne 105 = .ok (.invokevirtual 64, 3) := by decide +kernel
theorem dX6_carryOne_108 : decode cX6_carryOne 108 = .ok (.ireturn, 1) := by decide +kernel
theorem dX6_carryOne_109 : decode cX6_carryOne 109 = .ok (.aload_n 0, 1) := by decide +kernel
theorem dX6_carryOne_110 : decode cX6_carryOne 110 = .ok (.getfield 12, 3) := by decide +kernel
theorem dX6_carryOne_113 : decode cX6_carryOne 113 = .ok (.aload_n 0, 1) := by decide +kernel
theorem dX6_carryOne_114 : decode cX6_carryOne 114 = .ok (.getfield 41, 3) := by decide +kernel
theorem dX6_carryOne_117 : decode cX6_carryOne 117 = .ok (.iload_n 1, 1) := by decide +kernel
theorem dX6_carryOne_118 : decode cX6_carryOne 118 = .ok (.iconst 1, 1) := by decide +kernel
theorem dX6_carryOne_119 : decode cX6_carryOne 119 = .ok (.iadd, 1) := by decide +kernel
theorem dX6_carryOne_120 : decode cX6_carryOne 120 = .ok (.invokevirtual 218, 3) := by decide +kernel
theorem dX6_carryOne_123 : decode cX6_carryOne 123 = .ok (.aload_n 0, 1) := by decide +kernel
theorem dX6_carryOne_124 : decode cX6_carryOne 124 = .ok (.getfield 41, 3) := by decide +kernel
theorem dX6_carryOne_127 : decode cX6_carryOne 127 = .ok (.iload_n 1, 1) := by decide +kernel
theorem dX6_carryOne_128 : decode cX6_carryOne 128 = .ok (.iconst 3, 1) := by decide +kernel
theorem dX6_carryOne_129 : decode cX6_carryOne 129 = .ok (.iadd, 1) := by decide +kernel
theorem dX6_carryOne_130 : decode cX6_carryOne 130 = .ok (.invokevirtual 215, 3) := by decide +kernel
theorem dX6_carryOne_133 : decode cX6_carryOne 133 = .ok (.invokevirtual 57, 3) := by decide +kernel
theorem dX6_carryOne_136 : decode cX6_carryOne 136 = .ok (.ireturn, 1) := by decide +kernel
theorem dX6_carryOne_137 : decode cX6_carryOne 137 = .ok (.aload_n 0, 1) := by decide +kernel
theorem dX6_carryOne_138 : decode cX6_carryOne 138 = .ok (.getfield 12, 3) := by decide +kernel
theorem dX6_carryOne_141 : decode cX6_carryOne 141 = .ok (.invokevirtual 67, 3) := by decide +kernel
theorem dX6_carryOne_144 : decode cX6_carryOne 144 = .ok (.ireturn, 1) := by decide +kernel
theorem dX6_carryOne_145 : decode cX6_carryOne 145 = .ok (.aload_n 0, 1) := by decide +kernel
theorem dX6_carryOne_146 : decode cX6_carryOne 146 = .ok (.getfield 12, 3) := by decide +kernel
theorem dX6_carryOne_149 : decode cX6_carryOne 149 = .ok (.invokevirtual 70, 3) := by decide +kernel
theorem dX6_carryOne_152 : decode cX6_carryOne 152 = .ok (.ireturn, 1) := by decide +kernel
theorem dX6_carryOne_153 : decode cX6_carryOne 153 = .ok (.bipush (-3), 2) := by decide +kernel
theorem dX6_carryOne_155 : decode cX6_carryOne 155 = .ok (.ireturn, 1) := by decide +kernel
