set_option maxRecDepth 20000 in
theorem ggX6_showsIn_X5_copyFrom : GoodIn wsX6_showsIn wsX5_copyFrom := goodIn_r _ [9, 10, 11, 12, 13, 14, 15, 16, 17, 18, 19, 20, 51, 52, 53, 54, 55, 56, 57] (by decide +kernel) (by decide +kernel)
set_option maxRecDepth 20000 in
theorem gX6_showsIn_X5_copyFrom : GoodIn wsX6_showsIn (wsV RX6 156 RX5 yX5_copyFrom wsX5_copyFrom) := goodIn_app (goodIn_of _ (by decide +kernel)) ggX6_showsIn_X5_copyFrom
set_option maxRecDepth 20000 in
theorem ggX6_showsIn_X5_nanosecond : GoodIn wsX6_showsIn wsX5_nanosecond := goodIn_r _ [24, 10, 25, 26, 27, 8, 28, 11, 20, 13, 29, 30, 31, 32, 12, 19, 33, 34, 35, 36, 14, 51, 52, 53, 54, 55, 56, 57] (by decide +kernel) (by decide +kernel)
set_option maxRecDepth 20000 in
theorem gX6_showsIn_X5_nanosecond : GoodIn wsX6_showsIn (wsV RX6 160 RX5 yX5_nanosecond wsX5_nanosecond) := goodIn_app (goodIn_of _ (by decide +kernel)) ggX6_showsIn_X5_nanosecond
theorem dX6_showsIn_0 : decode cX6_showsIn 0 = .ok (.iload_n 1, 1) := by decide +kernel
theorem dX6_showsIn_1 : decode cX6_showsIn 1 = .ok (.ifCond .lt 9, 3) := by decide +kernel
theorem dX6_showsIn_4 : decode cX6_showsIn 4 = .ok (.iload_n 1, 1) := by decide +kernel
theorem dX6_showsIn_5 : decode cX6_showsIn 5 = .ok (.bipush 99, 2) := by decide +kernel
theorem dX6_showsIn_7 : decode cX6_showsIn 7 = .ok (.if_icmp .le 6, 3) := by decide +kernel
theorem dX6_showsIn_10 : decode cX6_showsIn 10 = .ok (.bipush (-2), 2) := by decide +kernel
theorem dX6_showsIn_12 : decode cX6_showsIn 12 = .ok (.ireturn, 1) := by decide +kernel
theorem dX6_showsIn_13 : decode cX6_showsIn 13 = .ok (.aload_n 0, 1) := by decide +kernel
theorem dX6_showsIn_14 : decode cX6_showsIn 14 = .ok (.getfield 34, 3) := by decide +kernel
theorem dX6_showsIn_17 : decode cX6_showsIn 17 = .ok (.aload_n 0, 1) := by decide +kernel
theorem dX6_showsIn_18 : decode cX6_showsIn 18 = .ok (.getfield 12, 3) := by decide +kernel
theorem dX6_showsIn_21 : decode cX6_showsIn 21 = .ok (.getfield 73, 3) := by decide +kernel
theorem dX6_showsIn_24 : decode cX6_showsIn 24 = .ok (.invokevirtual 156, 3) := by decide +kernel
theorem dX6_showsIn_27 : decode cX6_showsIn 27 = .ok (.iconst 0, 1) := by decide +kernel
theorem dX6_showsIn_28 : decode cX6_showsIn 28 = .ok (.istore_n 2, 1) := by decide +kernel
theorem dX6_showsIn_29 : decode cX6_showsIn 29 = .ok (.iload_n 2, 1) := by decide +kernel
theorem dX6_showsIn_30 : decode cX6_showsIn 30 = .ok (.iload_n 1, 1) := by decide +kernel
theorem dX6_showsIn_31 : decode cX6_showsIn 31 = .ok (.if_icmp .ge 16, 3) := by decide +kernel
theorem dX6_showsIn_34 : decode cX6_showsIn 34 = .ok (.aload_n 0, 1) := by decide +kernel
theorem dX6_showsIn_35 : decode cX6_showsIn 35 = .ok (.getfield 34, 3) := by decide +kernel
theorem dX6_showsIn_38 : decode cX6_showsIn 38 = .ok (.invokevirtual 160, 3) := by decide +kernel
theorem dX6_showsIn_41 : decode cX6_showsIn 41 = .ok (.iinc 2 1, 3) := by decide +kernel
theorem dX6_showsIn_44 : decode cX6_showsIn 44 = .ok (.goto (-15), 3) := by decide +kernel
theorem dX6_showsIn_47 : decode cX6_showsIn 47 = .ok (.aload_n 0, 1) := by decide +kernel
theorem dX6_showsIn_48 : decode cX6_showsIn 48 = .ok (.getfield 34, 3) := by decide +kernel
theorem dX6_showsIn_51 : decode cX6_showsIn 51 = .ok (.getfield 116, 3) := by decide +kernel
theorem dX6_showsIn_54 : decode cX6_showsIn 54 = .ok (.ireturn, 1) := by decide +kernel
set_option maxRecDepth 20000 in
theorem ggX6_wrong_X5_wrongReadings : GoodIn wsX6_wrong wsX5_wrongReadings := goodIn_r _ [7, 8, 9, 10, 11, 6, 12, 13, 14, 15, 16, 17, 32, 33, 34, 35, 36, 37, 38] (by decide +kernel) (by decide +kernel)
set_option maxRecDepth 20000 in
theorem gX6_wrong_X5_wrongReadings : GoodIn wsX6_wrong (wsV RX6 163 RX5 yX5_wrongReadings wsX5_wrongReadings) := goodIn_app (goodIn_of _ (by decide +kernel)) ggX6_wrong_X5_wrongReadings
theorem dX6_wrong_0 : decode cX6_wrong 0 = .ok (.iload_n 1, 1) := by decide +kernel
theorem dX6_wrong_1 : decode cX6_wrong 1 = .ok (.iconst 1, 1) := by decide +kernel
theorem dX6_wrong_2 : decode cX6_wrong 2 = .ok (.if_icmp .lt 9, 3) := by decide +kernel
theorem dX6_wrong_5 : decode cX6_wrong 5 = .ok (.iload_n 1, 1) := by decide +kernel
theorem dX6_wrong_6 : decode cX6_wrong 6 = .ok (.bipush 50, 2) := by decide +kernel
theorem dX6_wrong_8 : decode cX6_wrong 8 = .ok (.if_icmp .le 6, 3) := by decide +kernel
theorem dX6_wrong_11 : decode cX6_wrong 11 = .ok (.bipush (-2), 2) := by decide +kernel
theorem dX6_wrong_13 : decode cX6_wrong 13 = .ok (.ireturn, 1) := by decide +kernel
theorem dX6_wrong_14 : decode cX6_wrong 14 = .ok (.aload_n 0, 1) := by decide +kernel
theorem dX6_wrong_15 : decode cX6_wrong 15 = .ok (.getfield 12, 3) := by decide +kernel
theorem dX6_wrong_18 : decode cX6_wrong 18 = .ok (.getfield 73, 3) := by decide +kernel
theorem dX6_wrong_21 : decode cX6_wrong 21 = .ok (.iload_n 1, 1) := by decide +kernel
theorem dX6_wrong_22 : decode cX6_wrong 22 = .ok (.invokevirtual 163, 3) := by decide +kernel
theorem dX6_wrong_25 : decode cX6_wrong 25 = .ok (.ireturn, 1) := by decide +kernel
set_option maxRecDepth 20000 in
theorem ggX6_safeGap_X5_throughAll : GoodIn wsX6_safeGap wsX5_throughAll := goodIn_r _ [7, 8, 9, 32, 33, 34, 35, 36, 37, 38] (by decide +kernel) (by decide +kernel)
set_option maxRecDepth 20000 in
theorem gX6_safeGap_X5_throughAll : GoodIn wsX6_safeGap (wsV RX6 166 RX5 yX5_throughAll wsX5_throughAll) := goodIn_app (goodIn_of _ (by decide +kernel)) ggX6_safeGap_X5_throughAll
set_option maxRecDepth 20000 in
theorem ggX6_safeGap_X6_gapAbove : GoodIn wsX6_safeGap wsX6_gapAbove := goodIn_r _ [13, 14, 15, 16, 17] (by decide +kernel) (by decide +kernel)
set_option maxRecDepth 20000 in
theorem gX6_safeGap_X6_gapAbove : GoodIn wsX6_safeGap (va_wsS RX6 169 yX6_gapAbove wsX6_gapAbove) := goodIn_app (goodIn_of _ (by decide +kernel)) ggX6_safeGap_X6_gapAbove
theorem dX6_safeGap_0 : decode cX6_safeGap 0 = .ok (.aload_n 0, 1) := by decide +kernel
theorem dX6_safeGap_1 : decode cX6_safeGap 1 = .ok (.getfield 12, 3) := by decide +kernel
theorem dX6_safeGap_4 : decode cX6_safeGap 4 = .ok (.getfield 73, 3) := by decide +kernel
theorem dX6_safeGap_7 : decode cX6_safeGap 7 = .ok (.invokevirtual 166, 3) := by decide +kernel
theorem dX6_safeGap_10 : decode cX6_safeGap 10 = .ok (.invokestatic 169, 3) := by decide +kernel
theorem dX6_safeGap_13 : decode cX6_safeGap 13 = .ok (.istore_n 1, 1) := by decide +kernel
theorem dX6_safeGap_14 : decode cX6_safeGap 14 = .ok (.iload_n 1, 1) := by decide +kernel
theorem dX6_safeGap_15 : decode cX6_safeGap 15 = .ok (.bipush 50, 2) := by decide +kernel
theorem dX6_safeGap_17 : decode cX6_safeGap 17 = .ok (.if_icmp .le 8, 3) := by decide +kernel
theorem dX6_safeGap_20 : decode cX6_safeGap 20 = .ok (.bipush (-6), 2) := by decide +kernel
theorem dX6_safeGap_22 : decode cX6_safeGap 22 = .ok (.goto 4, 3) := by decide +kernel
theorem dX6_safeGap_25 : decode cX6_safeGap 25 = .ok (.iload_n 1, 1) := by decide +kernel
theorem dX6_safeGap_26 : decode cX6_safeGap 26 = .ok (.ireturn, 1) := by decide +kernel
set_option maxRecDepth 20000 in
theorem ggX6_toBlame_X6_gapIfFast : GoodIn wsX6_toBlame wsX6_gapIfFast := goodIn_r _ [7, 8, 9, 10, 11, 12, 13, 14, 15, 16, 17, 6, 18, 19, 20, 21, 22, 37, 38, 39, 40, 41, 42, 43] (by decide +kernel) (by decide +kernel)
set_option maxRecDepth 20000 in
theorem gX6_toBlame_X6_gapIfFast : GoodIn wsX6_toBlame (va_wsS RX6 172 yX6_gapIfFast wsX6_gapIfFast) := goodIn_app (goodIn_of _ (by decide +kernel)) ggX6_toBlame_X6_gapIfFast
theorem dX6_toBlame_0 : decode cX6_toBlame 0 = .ok (.iload_n 1, 1) := by decide +kernel
theorem dX6_toBlame_1 : decode cX6_toBlame 1 = .ok (.ifCond .eq 11, 3) := by decide +kernel
theorem dX6_toBlame_4 : decode cX6_toBlame 4 = .ok (.iload_n 1, 1) := by decide +kernel
theorem dX6_toBlame_5 : decode cX6_toBlame 5 = .ok (.iconst 1, 1) := by decide +kernel
theorem dX6_toBlame_6 : decode cX6_toBlame 6 = .ok (.if_icmp .eq 6, 3) := by decide +kernel
theorem dX6_toBlame_9 : decode cX6_toBlame 9 = .ok (.bipush (-2), 2) := by decide +kernel
theorem dX6_toBlame_11 : decode cX6_toBlame 11 = .ok (.ireturn, 1) := by decide +kernel
theorem dX6_toBlame_12 : decode cX6_toBlame 12 = .ok (.aload_n 0, 1) := by decide +kernel
theorem dX6_toBlame_13 : decode cX6_toBlame 13 = .ok (.getfield 12, 3) := by decide +kernel
theorem dX6_toBlame_16 : decode cX6_toBlame 16 = .ok (.getfield 73, 3) := by decide +kernel
theorem dX6_toBlame_19 : decode cX6_toBlame 19 = .ok (.astore_n 2, 1) := by decide +kernel
theorem dX6_toBlame_20 : decode cX6_toBlame 20 = .ok (.iconst 0, 1) := by decide +kernel
theorem dX6_toBlame_21 : decode cX6_toBlame 21 = .ok (.istore_n 3, 1) := by decide +kernel
theorem dX6_toBlame_22 : decode cX6_toBlame 22 = .ok (.aload_n 2, 1) := by decide +kernel
theorem dX6_toBlame_23 : decode cX6_toBlame 23 = .ok (.iconst 0, 1) := by decide +kernel
theorem dX6_toBlame_24 : decode cX6_toBlame 24 = .ok (.invokestatic 172, 3) := by decide +kernel
theorem dX6_toBlame_27 : decode cX6_toBlame 27 = .ok (.istore 4, 2) := by decide +kernel
theorem dX6_toBlame_29 : decode cX6_toBlame 29 = .ok (.iconst 1, 1) := by decide +kernel
theorem dX6_toBlame_30 : decode cX6_toBlame 30 = .ok (.istore 5, 2) := by decide +kernel
theorem dX6_toBlame_32 : decode cX6_toBlame 32 = .ok (.iload 5, 2) := by decide +kernel
theorem dX6_toBlame_34 : decode cX6_toBlame 34 = .ok (.aload_n 2, 1) := by decide +kernel
theorem dX6_toBlame_35 : decode cX6_toBlame 35 = .ok (.getfield 144, 3) := by decide +kernel
theorem dX6_toBlame_38 : decode cX6_toBlame 38 = .ok (.if_icmp .ge 31, 3) := by decide +kernel
theorem dX6_toBlame_41 : decode cX6_toBlame 41 = .ok (.aload_n 2, 1) := by decide +kernel
theorem dX6_toBlame_42 : decode cX6_toBlame 42 = .ok (.iload 5, 2) := by decide +kernel
theorem dX6_toBlame_44 : decode cX6_toBlame 44 = .ok (.invokestatic 172, 3) := by decide +kernel
theorem dX6_toBlame_47 : decode cX6_toBlame 47 = .ok (.istore 6, 2) := by decide +kernel
theorem dX6_toBlame_49 : decode cX6_toBlame 49 = .ok (.iload 6, 2) := by decide +kernel
theorem dX6_toBlame_51 : decode cX6_toBlame 51 = .ok (.iload 4, 2) := by decide +kernel
theorem dX6_toBlame_53 : decode cX6_toBlame 53 = .ok (.if_icmp .ge 10, 3) := by decide +kernel
theorem dX6_toBlame_56 : decode cX6_toBlame 56 = .ok (.iload 5, 2) := by decide +kernel
theorem dX6_toBlame_58 : decode cX6_toBlame 58 = .ok (.istore_n 3, 1) := by decide +kernel
theorem dX6_toBlame_59 : decode cX6_toBlame 59 = .ok (.iload 6, 2) := by decide +kernel
theorem dX6_toBlame_61 : decode cX6_toBlame 61 = .ok (.istore 4, 2) := by decide +kernel
theorem dX6_toBlame_63 : decode cX6_toBlame 63 = .ok (.iinc 5 1, 3) := by decide +kernel
theorem dX6_toBlame_66 : decode cX6_toBlame 66 = .ok (.goto (-34), 3) := by decide +kernel
theorem dX6_toBlame_69 : decode cX6_toBlame 69 = .ok (.iload_n 1, 1) := by decide +kernel
theorem dX6_toBlame_70 : decode cX6_toBlame 70 = .ok (.ifCond .ne 7, 3) := by decide +kernel
theorem dX6_toBlame_73 : decode cX6_toBlame 73 = .ok (.iload_n 3, 1) := by decide +kernel
theorem dX6_toBlame_74 : decode cX6_toBlame 74 = .ok (.goto 5, 3) := by decide +kernel
theorem dX6_toBlame_77 : decode cX6_toBlame 77 = .ok (.iload 4, 2) := by decide +kernel
theorem dX6_toBlame_79 : decode cX6_toBlame 79 = .ok (.ireturn, 1) := by decide +kernel
set_option maxRecDepth 20000 in
theorem ggX6_undo_X1_takeBack : GoodIn wsX6_undo wsX1_takeBack := goodIn_r _ [7, 8, 9, 10, 11, 12, 6, 13, 14, 15, 16, 17, 18, 19, 20, 21, 22, 23, 24, 25, 26, 27, 28, 29, 30, 31, 32, 33, 34, 35, 36, 37, 38, 39, 40, 41, 42, 43, 44, 45, 46, 47, 48, 49, 50, 51, 52, 53, 54, 55, 56, 57, 58, 59, 60, 61, 62, 63, 64, 65, 72, 73, 74, 75, 76, 77, 78, 79, 80, 81, 82, 83, 84, 85, 86, 87, 88, 89, 90, 91, 92, 93, 94, 95, 96, 97, 98, 99] (by decide +kernel) (by decide +kernel)
set_option maxRecDepth 20000 in
theorem gX6_undo_X1_takeBack : GoodIn wsX6_undo (wsV RX6 189 RX1 yX1_takeBack wsX1_takeBack) := goodIn_app (goodIn_of _ (by decide +kernel)) ggX6_undo_X1_takeBack
theorem dX6_undo_0 : decode cX6_undo 0 = .ok (.aload_n 0, 1) := by decide +kernel
theorem dX6_undo_1 : decode cX6_undo 1 = .ok (.getfield 19, 3) := by decide +kernel
theorem dX6_undo_4 : decode cX6_undo 4 = .ok (.aload_n 0, 1) := by decide +kernel
theorem dX6_undo_5 : decode cX6_undo 5 = .ok (.getfield 12, 3) := by decide +kernel
theorem dX6_undo_8 : decode cX6_undo 8 = .ok (.invokevirtual 189, 3) := by decide +kernel
theorem dX6_undo_11 : decode cX6_undo 11 = .ok (.ireturn, 1) := by decide +kernel
set_option maxRecDepth 20000 in
theorem ggX6_restore_X1_prepare : GoodIn wsX6_restore wsX1_prepare := goodIn_r _ [10, 11, 12, 13, 14, 9, 15, 16, 17, 18, 19, 20, 21, 22, 23, 24, 25, 26, 27, 28, 29, 30, 31, 32, 33, 34, 35, 36, 37, 38, 39, 40, 41, 42, 43, 44, 45, 46, 47, 48, 49, 50, 51, 52, 53, 54, 55, 56, 57, 58, 59, 60, 61, 62, 63, 64, 65, 66, 67, 68, 88, 89, 90, 80, 81, 82, 83, 84, 85, 86, 87, 91, 92, 93, 94, 95, 96, 97, 98, 99, 100, 101, 102, 103, 104, 105, 106, 107] (by decide +kernel) (by decide +kernel)
set_option maxRecDepth 20000 in
theorem gX6_restore_X1_prepare : GoodIn wsX6_restore (wsV RX6 45 RX1 yX1_prepare wsX1_prepare) := goodIn_app (goodIn_of _ (by decide +kernel)) ggX6_restore_X1_prepare
set_option maxRecDepth 20000 in
theorem ggX6_restore_X0_copyFrom : GoodIn wsX6_restore wsX0_copyFrom := goodIn_r _ [22, 23, 24, 25, 26, 27, 28, 29, 30, 31, 32, 33, 34, 35, 36, 37, 38, 39, 40, 41, 42, 43, 44, 45, 46, 47, 48, 49, 50, 51, 52, 53, 54, 55, 56, 57, 58, 59, 60, 61, 62, 63, 64, 65, 66, 67, 68, 80, 81, 82, 83, 84, 85, 86, 87, 91, 92, 93, 94, 95, 96, 97, 98, 99, 100, 101, 102, 103, 104, 105, 106, 107] (by decide +kernel) (by decide +kernel)
set_option maxRecDepth 20000 in
theorem gX6_restore_X0_copyFrom : GoodIn wsX6_restore (wsV RX6 193 RX0 yX0_copyFrom wsX0_copyFrom) := goodIn_app (goodIn_of _ (by decide +kernel)) ggX6_restore_X0_copyFrom
set_option maxRecDepth 20000 in
theorem ggX6_restore_X1_settle : GoodIn wsX6_restore wsX1_settle := goodIn_r _ [73, 17, 16, 88, 89, 90] (by decide +kernel) (by decide +kernel)
set_option maxRecDepth 20000 in
theorem gX6_restore_X1_settle : GoodIn wsX6_restore (wsV RX6 53 RX1 yX1_settle wsX1_settle) := goodIn_app (goodIn_of _ (by decide +kernel)) ggX6_restore_X1_settle
theorem dX6_restore_0 : decode cX6_restore 0 = .ok (.iload_n 1, 1) := by decide +kernel
theorem dX6_restore_1 : decode cX6_restore 1 = .ok (.ifCond .lt 8, 3) := by decide +kernel
theorem dX6_restore_4 : decode cX6_restore 4 = .ok (.iload_n 1, 1) := by decide +kernel
theorem dX6_restore_5 : decode cX6_restore 5 = .ok (.iconst 2, 1) := by decide +kernel
theorem dX6_restore_6 : decode cX6_restore 6 = .ok (.if_icmp .lt 6, 3) := by decide +kernel
theorem dX6_restore_9 : decode cX6_restore 9 = .ok (.bipush (-2), 2) := by decide +kernel
theorem dX6_restore_11 : decode cX6_restore 11 = .ok (.ireturn, 1) := by decide +kernel
theorem dX6_restore_12 : decode cX6_restore 12 = .ok (.aload_n 0, 1) := by decide +kernel
theorem dX6_restore_13 : decode cX6_restore 13 = .ok (.getfield 27, 3) := by decide +kernel
theorem dX6_restore_16 : decode cX6_restore 16 = .ok (.iload_n 1, 1) := by decide +kernel
theorem dX6_restore_17 : decode cX6_restore 17 = .ok (.baload, 1) := by decide +kernel
theorem dX6_restore_18 : decode cX6_restore 18 = .ok (.ifCond .ne 6, 3) := by decide +kernel
theorem dX6_restore_21 : decode cX6_restore 21 = .ok (.bipush (-5), 2) := by decide +kernel
theorem dX6_restore_23 : decode cX6_restore 23 = .ok (.ireturn, 1) := by decide +kernel
theorem dX6_restore_24 : decode cX6_restore 24 = .ok (.aload_n 0, 1) := by decide +kernel
theorem dX6_restore_25 : decode cX6_restore 25 = .ok (.getfield 19, 3) := by decide +kernel
theorem dX6_restore_28 : decode cX6_restore 28 = .ok (.aload_n 0, 1) := by decide +kernel
theorem dX6_restore_29 : decode cX6_restore 29 = .ok (.getfield 12, 3) := by decide +kernel
theorem dX6_restore_32 : decode cX6_restore 32 = .ok (.invokevirtual 45, 3) := by decide +kernel
theorem dX6_restore_35 : decode cX6_restore 35 = .ok (.aload_n 0, 1) := by decide +kernel
theorem dX6_restore_36 : decode cX6_restore 36 = .ok (.getfield 12, 3) := by decide +kernel
theorem dX6_restore_39 : decode cX6_restore 39 = .ok (.aload_n 0, 1) := by decide +kernel
theorem dX6_restore_40 : decode cX6_restore 40 = .ok (.getfield 23, 3) := by decide +kernel
theorem dX6_restore_43 : decode cX6_restore 43 = .ok (.iload_n 1, 1) := by decide +kernel
theorem dX6_restore_44 : decode cX6_restore 44 = .ok (.aaload, 1) := by decide +kernel
theorem dX6_restore_45 : decode cX6_restore 45 = .ok (.invokevirtual 193, 3) := by decide +kernel
theorem dX6_restore_48 : decode cX6_restore 48 = .ok (.aload_n 0, 1) := by decide +kernel
theorem dX6_restore_49 : decode cX6_restore 49 = .ok (.getfield 19, 3) := by decide +kernel
theorem dX6_restore_52 : decode cX6_restore 52 = .ok (.aload_n 0, 1) := by decide +kernel
theorem dX6_restore_53 : decode cX6_restore 53 = .ok (.getfield 12, 3) := by decide +kernel
theorem dX6_restore_56 : decode cX6_restore 56 = .ok (.getfield 119, 3) := by decide +kernel
theorem dX6_restore_59 : decode cX6_restore 59 = .ok (.invokevirtual 53, 3) := by decide +kernel
theorem dX6_restore_62 : decode cX6_restore 62 = .ok (.ireturn, 1) := by decide +kernel
theorem dX6_gapAbove_0 : decode cX6_gapAbove 0 = .ok (.iload_n 0, 1) := by decide +kernel
theorem dX6_gapAbove_1 : decode cX6_gapAbove 1 = .ok (.bipush 50, 2) := by decide +kernel
theorem dX6_gapAbove_3 : decode cX6_gapAbove 3 = .ok (.invokestatic 195, 3) := by decide +kernel
theorem dX6_gapAbove_6 : decode cX6_gapAbove 6 = .ok (.iconst 1, 1) := by decide +kernel
theorem dX6_gapAbove_7 : decode cX6_gapAbove 7 = .ok (.iadd, 1) := by decide +kernel
theorem dX6_gapAbove_8 : decode cX6_gapAbove 8 = .ok (.ireturn, 1) := by decide +kernel
set_option maxRecDepth 20000 in
theorem ggX6_gapIfFast_X5_throughAll : GoodIn wsX6_gapIfFast wsX5_throughAll := goodIn_r _ [6, 7, 8, 17, 18, 19, 20, 21, 22, 23] (by decide +kernel) (by decide +kernel)
set_option maxRecDepth 20000 in
theorem gX6_gapIfFast_X5_throughAll : GoodIn wsX6_gapIfFast (wsV RX6 166 RX5 yX5_throughAll wsX5_throughAll) := goodIn_app (goodIn_of _ (by decide +kernel)) ggX6_gapIfFast_X5_throughAll
set_option maxRecDepth 20000 in
theorem ggX6_gapIfFast_X6_gapAbove : GoodIn wsX6_gapIfFast wsX6_gapAbove := goodIn_r _ [12, 13, 14, 15, 16] (by decide +kernel) (by decide +kernel)
set_option maxRecDepth 20000 in
theorem gX6_gapIfFast_X6_gapAbove : GoodIn wsX6_gapIfFast (va_wsS RX6 169 yX6_gapAbove wsX6_gapAbove) := goodIn_app (goodIn_of _ (by decide +kernel)) ggX6_gapIfFast_X6_gapAbove
theorem dX6_gapIfFast_0 : decode cX6_gapIfFast 0 = .ok (.aload_n 0, 1) := by decide +kernel
theorem dX6_gapIfFast_1 : decode cX6_gapIfFast 1 = .ok (.invokevirtual 166, 3) := by decide +kernel
theorem dX6_gapIfFast_4 : decode cX6_gapIfFast 4 = .ok (.aload_n 0, 1) := by decide +kernel
theorem dX6_gapIfFast_5 : decode cX6_gapIfFast 5 = .ok (.getfield 80, 3) := by decide +kernel
theorem dX6_gapIfFast_8 : decode cX6_gapIfFast 8 = .ok (.iload_n 1, 1) := by decide +kernel
theorem dX6_gapIfFast_9 : decode cX6_gapIfFast 9 = .ok (.iaload, 1) := by decide +kernel
theorem dX6_gapIfFast_10 : decode cX6_gapIfFast 10 = .ok (.isub, 1) := by decide +kernel
theorem dX6_gapIfFast_11 : decode cX6_gapIfFast 11 = .ok (.iconst 1, 1) := by decide +kernel
theorem dX6_gapIfFast_12 : decode cX6_gapIfFast 12 = .ok (.iadd, 1) := by decide +kernel
theorem dX6_gapIfFast_13 : decode cX6_gapIfFast 13 = .ok (.invokestatic 169, 3) := by decide +kernel
theorem dX6_gapIfFast_16 : decode cX6_gapIfFast 16 = .ok (.ireturn, 1) := by decide +kernel
