theorem dX7_stillIn_16 : decode cX7_stillIn 16 = .ok (.aload_n 0, 1) := by decide +kernel
theorem dX7_stillIn_17 : decode cX7_stillIn 17 = .ok (.sipush 356, 3) := by decide +kernel
theorem dX7_stillIn_20 : decode cX7_stillIn 20 = .ok (.invokevirtual 65, 3) := by decide +kernel
theorem dX7_stillIn_23 : decode cX7_stillIn 23 = .ok (.istore_n 2, 1) := by decide +kernel
theorem dX7_stillIn_24 : decode cX7_stillIn 24 = .ok (.iinc 1 1, 3) := by decide +kernel
theorem dX7_stillIn_27 : decode cX7_stillIn 27 = .ok (.goto (-21), 3) := by decide +kernel
theorem dX7_stillIn_30 : decode cX7_stillIn 30 = .ok (.iload_n 1, 1) := by decide +kernel
theorem dX7_stillIn_31 : decode cX7_stillIn 31 = .ok (.ireturn, 1) := by decide +kernel
set_option maxRecDepth 20000 in
theorem ggX7_showsIn_X7_in : GoodIn wsX7_showsIn wsX7_in := goodIn_r _ [4] (by decide +kernel) (by decide +kernel)
set_option maxRecDepth 20000 in
theorem gX7_showsIn_X7_in : GoodIn wsX7_showsIn (va_wsS RX7 71 yX7_in wsX7_in) := goodIn_app (goodIn_of _ (by decide +kernel)) ggX7_showsIn_X7_in
set_option maxRecDepth 20000 in
theorem ggX7_showsIn_X7_copies : GoodIn wsX7_showsIn wsX7_copies := goodIn_r _ [8, 9, 53, 54, 55, 56, 57, 58, 59] (by decide +kernel) (by decide +kernel)
set_option maxRecDepth 20000 in
theorem gX7_showsIn_X7_copies : GoodIn wsX7_showsIn (wsV RX7 112 RX7 yX7_copies wsX7_copies) := goodIn_app (goodIn_of _ (by decide +kernel)) ggX7_showsIn_X7_copies
set_option maxRecDepth 20000 in
theorem ggX7_showsIn_X7_passes : GoodIn wsX7_showsIn wsX7_passes := goodIn_r _ [13, 14, 15, 16, 3, 17, 9, 18, 19, 20, 21, 22, 23, 24, 25, 26, 27, 28, 29, 30, 31, 32, 33, 34, 35, 36, 37, 38, 39, 40, 41, 42, 43, 44, 45, 46, 47, 48, 49, 50, 51, 52, 53, 54, 55, 56, 57, 58, 59] (by decide +kernel) (by decide +kernel)
set_option maxRecDepth 20000 in
theorem gX7_showsIn_X7_passes : GoodIn wsX7_showsIn (wsV RX7 91 RX7 yX7_passes wsX7_passes) := goodIn_app (goodIn_of _ (by decide +kernel)) ggX7_showsIn_X7_passes
set_option maxRecDepth 20000 in
theorem ggX7_showsIn_X7_shows : GoodIn wsX7_showsIn wsX7_shows := goodIn_r _ [40, 9, 18, 19, 20, 3, 21, 53, 54, 55, 56, 57, 58, 59] (by decide +kernel) (by decide +kernel)
set_option maxRecDepth 20000 in
theorem gX7_showsIn_X7_shows : GoodIn wsX7_showsIn (wsV RX7 50 RX7 yX7_shows wsX7_shows) := goodIn_app (goodIn_of _ (by decide +kernel)) ggX7_showsIn_X7_shows
theorem dX7_showsIn_0 : decode cX7_showsIn 0 = .ok (.iload_n 1, 1) := by decide +kernel
theorem dX7_showsIn_1 : decode cX7_showsIn 1 = .ok (.iconst 0, 1) := by decide +kernel
theorem dX7_showsIn_2 : decode cX7_showsIn 2 = .ok (.bipush 99, 2) := by decide +kernel
theorem dX7_showsIn_4 : decode cX7_showsIn 4 = .ok (.invokestatic 71, 3) := by decide +kernel
theorem dX7_showsIn_7 : decode cX7_showsIn 7 = .ok (.ifCond .ne 6, 3) := by decide +kernel
theorem dX7_showsIn_10 : decode cX7_showsIn 10 = .ok (.bipush (-2), 2) := by decide +kernel
theorem dX7_showsIn_12 : decode cX7_showsIn 12 = .ok (.ireturn, 1) := by decide +kernel
theorem dX7_showsIn_13 : decode cX7_showsIn 13 = .ok (.aload_n 0, 1) := by decide +kernel
theorem dX7_showsIn_14 : decode cX7_showsIn 14 = .ok (.invokevirtual 112, 3) := by decide +kernel
theorem dX7_showsIn_17 : decode cX7_showsIn 17 = .ok (.aload_n 0, 1) := by decide +kernel
theorem dX7_showsIn_18 : decode cX7_showsIn 18 = .ok (.sipush 356, 3) := by decide +kernel
theorem dX7_showsIn_21 : decode cX7_showsIn 21 = .ok (.iload_n 1, 1) := by decide +kernel
theorem dX7_showsIn_22 : decode cX7_showsIn 22 = .ok (.invokevirtual 91, 3) := by decide +kernel
theorem dX7_showsIn_25 : decode cX7_showsIn 25 = .ok (.istore_n 2, 1) := by decide +kernel
theorem dX7_showsIn_26 : decode cX7_showsIn 26 = .ok (.aload_n 0, 1) := by decide +kernel
theorem dX7_showsIn_27 : decode cX7_showsIn 27 = .ok (.sipush 356, 3) := by decide +kernel
theorem dX7_showsIn_30 : decode cX7_showsIn 30 = .ok (.invokevirtual 50, 3) := by decide +kernel
theorem dX7_showsIn_33 : decode cX7_showsIn 33 = .ok (.ireturn, 1) := by decide +kernel
set_option maxRecDepth 20000 in
theorem ggX7_wrongWith_X7_begins : GoodIn wsX7_wrongWith wsX7_begins := goodIn_r _ [6, 1, 54, 55, 56, 57, 58, 59, 60] (by decide +kernel) (by decide +kernel)
set_option maxRecDepth 20000 in
theorem gX7_wrongWith_X7_begins : GoodIn wsX7_wrongWith (wsV RX7 26 RX7 yX7_begins wsX7_begins) := goodIn_app (goodIn_of _ (by decide +kernel)) ggX7_wrongWith_X7_begins
set_option maxRecDepth 20000 in
theorem ggX7_wrongWith_X7_stages : GoodIn wsX7_wrongWith wsX7_stages := goodIn_r _ [10, 1, 54, 55, 56, 57, 58, 59, 60] (by decide +kernel) (by decide +kernel)
set_option maxRecDepth 20000 in
theorem gX7_wrongWith_X7_stages : GoodIn wsX7_wrongWith (wsV RX7 34 RX7 yX7_stages wsX7_stages) := goodIn_app (goodIn_of _ (by decide +kernel)) ggX7_wrongWith_X7_stages
set_option maxRecDepth 20000 in
theorem ggX7_wrongWith_X7_clocks : GoodIn wsX7_wrongWith wsX7_clocks := goodIn_r _ [14, 1, 7, 8, 9, 5, 10, 15, 16, 17, 18, 19, 20, 21, 54, 55, 56, 57, 58, 59, 60] (by decide +kernel) (by decide +kernel)
set_option maxRecDepth 20000 in
theorem gX7_wrongWith_X7_clocks : GoodIn wsX7_wrongWith (wsV RX7 68 RX7 yX7_clocks wsX7_clocks) := goodIn_app (goodIn_of _ (by decide +kernel)) ggX7_wrongWith_X7_clocks
set_option maxRecDepth 20000 in
theorem ggX7_wrongWith_X7_passes : GoodIn wsX7_wrongWith wsX7_passes := goodIn_r _ [25, 26, 27, 28, 5, 29, 1, 7, 8, 9, 10, 19, 20, 21, 30, 31, 32, 33, 15, 16, 17, 18, 34, 35, 36, 37, 38, 39, 40, 41, 42, 43, 44, 45, 46, 47, 48, 49, 50, 51, 52, 53, 54, 55, 56, 57, 58, 59, 60] (by decide +kernel) (by decide +kernel)
set_option maxRecDepth 20000 in
theorem gX7_wrongWith_X7_passes : GoodIn wsX7_wrongWith (wsV RX7 91 RX7 yX7_passes wsX7_passes) := goodIn_app (goodIn_of _ (by decide +kernel)) ggX7_wrongWith_X7_passes
set_option maxRecDepth 20000 in
theorem ggX7_wrongWith_X7_shows : GoodIn wsX7_wrongWith wsX7_shows := goodIn_r _ [41, 1, 7, 8, 9, 5, 10, 54, 55, 56, 57, 58, 59, 60] (by decide +kernel) (by decide +kernel)
set_option maxRecDepth 20000 in
theorem gX7_wrongWith_X7_shows : GoodIn wsX7_wrongWith (wsV RX7 50 RX7 yX7_shows wsX7_shows) := goodIn_app (goodIn_of _ (by decide +kernel)) ggX7_wrongWith_X7_shows
theorem dX7_wrongWith_0 : decode cX7_wrongWith 0 = .ok (.aload_n 0, 1) := by decide +kernel
theorem dX7_wrongWith_1 : decode cX7_wrongWith 1 = .ok (.sipush 356, 3) := by decide +kernel
theorem dX7_wrongWith_4 : decode cX7_wrongWith 4 = .ok (.invokevirtual 26, 3) := by decide +kernel
theorem dX7_wrongWith_7 : decode cX7_wrongWith 7 = .ok (.iconst 0, 1) := by decide +kernel
theorem dX7_wrongWith_8 : decode cX7_wrongWith 8 = .ok (.istore_n 2, 1) := by decide +kernel
theorem dX7_wrongWith_9 : decode cX7_wrongWith 9 = .ok (.iconst 0, 1) := by decide +kernel
theorem dX7_wrongWith_10 : decode cX7_wrongWith 10 = .ok (.istore_n 3, 1) := by decide +kernel
theorem dX7_wrongWith_11 : decode cX7_wrongWith 11 = .ok (.iload_n 3, 1) := by decide +kernel
theorem dX7_wrongWith_12 : decode cX7_wrongWith 12 = .ok (.iconst 1, 1) := by decide +kernel
theorem dX7_wrongWith_13 : decode cX7_wrongWith 13 = .ok (.aload_n 0, 1) := by decide +kernel
theorem dX7_wrongWith_14 : decode cX7_wrongWith 14 = .ok (.sipush 356, 3) := by decide +kernel
theorem dX7_wrongWith_17 : decode cX7_wrongWith 17 = .ok (.invokevirtual 34, 3) := by decide +kernel
theorem dX7_wrongWith_20 : decode cX7_wrongWith 20 = .ok (.ishl, 1) := by decide +kernel
theorem dX7_wrongWith_21 : decode cX7_wrongWith 21 = .ok (.if_icmp .ge 52, 3) := by decide +kernel
theorem dX7_wrongWith_24 : decode cX7_wrongWith 24 = .ok (.aload_n 0, 1) := by decide +kernel
theorem dX7_wrongWith_25 : decode cX7_wrongWith 25 = .ok (.sipush 356, 3) := by decide +kernel
theorem dX7_wrongWith_28 : decode cX7_wrongWith 28 = .ok (.invokevirtual 68, 3) := by decide +kernel
theorem dX7_wrongWith_31 : decode cX7_wrongWith 31 = .ok (.aload_n 0, 1) := by decide +kernel
theorem dX7_wrongWith_32 : decode cX7_wrongWith 32 = .ok (.sipush 356, 3) := by decide +kernel
theorem dX7_wrongWith_35 : decode cX7_wrongWith 35 = .ok (.iload_n 1, 1) := by decide +kernel
theorem dX7_wrongWith_36 : decode cX7_wrongWith 36 = .ok (.invokevirtual 91, 3) := by decide +kernel
theorem dX7_wrongWith_39 : decode cX7_wrongWith 39 = .ok (.istore 4, 2) := by decide +kernel
theorem dX7_wrongWith_41 : decode cX7_wrongWith 41 = .ok (.iload_n 2, 1) := by decide +kernel
theorem dX7_wrongWith_42 : decode cX7_wrongWith 42 = .ok (.aload_n 0, 1) := by decide +kernel
theorem dX7_wrongWith_43 : decode cX7_wrongWith 43 = .ok (.sipush 356, 3) := by decide +kernel
theorem dX7_wrongWith_46 : decode cX7_wrongWith 46 = .ok (.invokevirtual 50, 3) := by decide +kernel
theorem dX7_wrongWith_49 : decode cX7_wrongWith 49 = .ok (.aload_n 0, 1) := by decide +kernel
theorem dX7_wrongWith_50 : decode cX7_wrongWith 50 = .ok (.getfield 7, 3) := by decide +kernel
theorem dX7_wrongWith_53 : decode cX7_wrongWith 53 = .ok (.sipush 359, 3) := by decide +kernel
theorem dX7_wrongWith_56 : decode cX7_wrongWith 56 = .ok (.iaload, 1) := by decide +kernel
theorem dX7_wrongWith_57 : decode cX7_wrongWith 57 = .ok (.if_icmp .ne 7, 3) := by decide +kernel
theorem dX7_wrongWith_60 : decode cX7_wrongWith 60 = .ok (.iconst 0, 1) := by decide +kernel
theorem dX7_wrongWith_61 : decode cX7_wrongWith 61 = .ok (.goto 4, 3) := by decide +kernel
theorem dX7_wrongWith_64 : decode cX7_wrongWith 64 = .ok (.iconst 1, 1) := by decide +kernel
theorem dX7_wrongWith_65 : decode cX7_wrongWith 65 = .ok (.iadd, 1) := by decide +kernel
theorem dX7_wrongWith_66 : decode cX7_wrongWith 66 = .ok (.istore_n 2, 1) := by decide +kernel
theorem dX7_wrongWith_67 : decode cX7_wrongWith 67 = .ok (.iinc 3 1, 3) := by decide +kernel
theorem dX7_wrongWith_70 : decode cX7_wrongWith 70 = .ok (.goto (-59), 3) := by decide +kernel
theorem dX7_wrongWith_73 : decode cX7_wrongWith 73 = .ok (.iload_n 2, 1) := by decide +kernel
theorem dX7_wrongWith_74 : decode cX7_wrongWith 74 = .ok (.ireturn, 1) := by decide +kernel
set_option maxRecDepth 20000 in
theorem ggX7_wrong_X7_in : GoodIn wsX7_wrong wsX7_in := goodIn_r _ [4] (by decide +kernel) (by decide +kernel)
set_option maxRecDepth 20000 in
theorem gX7_wrong_X7_in : GoodIn wsX7_wrong (va_wsS RX7 71 yX7_in wsX7_in) := goodIn_app (goodIn_of _ (by decide +kernel)) ggX7_wrong_X7_in
set_option maxRecDepth 20000 in
theorem ggX7_wrong_X7_copies : GoodIn wsX7_wrong wsX7_copies := goodIn_r _ [8, 9, 65, 66, 67, 68, 69, 70, 71] (by decide +kernel) (by decide +kernel)
set_option maxRecDepth 20000 in
theorem gX7_wrong_X7_copies : GoodIn wsX7_wrong (wsV RX7 112 RX7 yX7_copies wsX7_copies) := goodIn_app (goodIn_of _ (by decide +kernel)) ggX7_wrong_X7_copies
set_option maxRecDepth 20000 in
theorem ggX7_wrong_X7_wrongWith : GoodIn wsX7_wrong wsX7_wrongWith := goodIn_r _ [13, 9, 14, 15, 16, 3, 17, 18, 19, 20, 21, 22, 23, 24, 25, 26, 27, 28, 29, 30, 31, 32, 33, 34, 35, 36, 37, 38, 39, 40, 41, 42, 43, 44, 45, 46, 47, 48, 49, 50, 51, 52, 53, 54, 55, 56, 57, 58, 59, 60, 61, 62, 63, 64, 65, 66, 67, 68, 69, 70, 71] (by decide +kernel) (by decide +kernel)
set_option maxRecDepth 20000 in
theorem gX7_wrong_X7_wrongWith : GoodIn wsX7_wrong (wsV RX7 115 RX7 yX7_wrongWith wsX7_wrongWith) := goodIn_app (goodIn_of _ (by decide +kernel)) ggX7_wrong_X7_wrongWith
theorem dX7_wrong_0 : decode cX7_wrong 0 = .ok (.iload_n 1, 1) := by decide +kernel
theorem dX7_wrong_1 : decode cX7_wrong 1 = .ok (.iconst 1, 1) := by decide +kernel
theorem dX7_wrong_2 : decode cX7_wrong 2 = .ok (.bipush 50, 2) := by decide +kernel
theorem dX7_wrong_4 : decode cX7_wrong 4 = .ok (.invokestatic 71, 3) := by decide +kernel
theorem dX7_wrong_7 : decode cX7_wrong 7 = .ok (.ifCond .ne 6, 3) := by decide +kernel
theorem dX7_wrong_10 : decode cX7_wrong 10 = .ok (.bipush (-2), 2) := by decide +kernel
theorem dX7_wrong_12 : decode cX7_wrong 12 = .ok (.ireturn, 1) := by decide +kernel
theorem dX7_wrong_13 : decode cX7_wrong 13 = .ok (.aload_n 0, 1) := by decide +kernel
theorem dX7_wrong_14 : decode cX7_wrong 14 = .ok (.invokevirtual 112, 3) := by decide +kernel
theorem dX7_wrong_17 : decode cX7_wrong 17 = .ok (.aload_n 0, 1) := by decide +kernel
theorem dX7_wrong_18 : decode cX7_wrong 18 = .ok (.iload_n 1, 1) := by decide +kernel
theorem dX7_wrong_19 : decode cX7_wrong 19 = .ok (.invokevirtual 115, 3) := by decide +kernel
theorem dX7_wrong_22 : decode cX7_wrong 22 = .ok (.ireturn, 1) := by decide +kernel
set_option maxRecDepth 20000 in
theorem ggX7_safe_X7_wrongWith : GoodIn wsX7_safe wsX7_wrongWith := goodIn_r _ [5, 6, 7, 8, 9, 4, 10, 11, 12, 13, 14, 15, 16, 17, 18, 19, 20, 21, 22, 23, 24, 25, 26, 27, 28, 29, 30, 31, 32, 33, 34, 35, 36, 37, 38, 39, 40, 41, 42, 43, 44, 45, 46, 47, 48, 49, 50, 51, 52, 53, 54, 55, 56, 57, 58, 59, 60, 61, 62, 63, 64] (by decide +kernel) (by decide +kernel)
set_option maxRecDepth 20000 in
theorem gX7_safe_X7_wrongWith : GoodIn wsX7_safe (wsV RX7 115 RX7 yX7_wrongWith wsX7_wrongWith) := goodIn_app (goodIn_of _ (by decide +kernel)) ggX7_safe_X7_wrongWith
theorem dX7_safe_0 : decode cX7_safe 0 = .ok (.bipush 51, 2) := by decide +kernel
theorem dX7_safe_2 : decode cX7_safe 2 = .ok (.istore_n 1, 1) := by decide +kernel
theorem dX7_safe_3 : decode cX7_safe 3 = .ok (.iload_n 1, 1) := by decide +kernel
theorem dX7_safe_4 : decode cX7_safe 4 = .ok (.iconst 1, 1) := by decide +kernel
theorem dX7_safe_5 : decode cX7_safe 5 = .ok (.if_icmp .le 19, 3) := by decide +kernel
theorem dX7_safe_8 : decode cX7_safe 8 = .ok (.aload_n 0, 1) := by decide +kernel
theorem dX7_safe_9 : decode cX7_safe 9 = .ok (.iload_n 1, 1) := by decide +kernel
theorem dX7_safe_10 : decode cX7_safe 10 = .ok (.iconst 1, 1) := by decide +kernel
theorem dX7_safe_11 : decode cX7_safe 11 = .ok (.isub, 1) := by decide +kernel
theorem dX7_safe_12 : decode cX7_safe 12 = .ok (.invokevirtual 115, 3) := by decide +kernel
theorem dX7_safe_15 : decode cX7_safe 15 = .ok (.ifCond .ne 9, 3) := by decide +kernel
theorem dX7_safe_18 : decode cX7_safe 18 = .ok (.iinc 1 (-1), 3) := by decide +kernel
theorem dX7_safe_21 : decode cX7_safe 21 = .ok (.goto (-18), 3) := by decide +kernel
theorem dX7_safe_24 : decode cX7_safe 24 = .ok (.iload_n 1, 1) := by decide +kernel
theorem dX7_safe_25 : decode cX7_safe 25 = .ok (.ireturn, 1) := by decide +kernel
set_option maxRecDepth 20000 in
theorem ggX7_safeGap_X7_copies : GoodIn wsX7_safeGap wsX7_copies := goodIn_r _ [5, 6, 66, 67, 68, 69, 70, 71, 72] (by decide +kernel) (by decide +kernel)
set_option maxRecDepth 20000 in
theorem gX7_safeGap_X7_copies : GoodIn wsX7_safeGap (wsV RX7 112 RX7 yX7_copies wsX7_copies) := goodIn_app (goodIn_of _ (by decide +kernel)) ggX7_safeGap_X7_copies
set_option maxRecDepth 20000 in
theorem ggX7_safeGap_X7_safe : GoodIn wsX7_safeGap wsX7_safe := goodIn_r _ [10, 11, 12, 13, 4, 14, 6, 15, 16, 17, 18, 19, 20, 21, 22, 23, 24, 25, 26, 27, 28, 29, 30, 31, 32, 33, 34, 35, 36, 37, 38, 39, 40, 41, 42, 43, 44, 45, 46, 47, 48, 49, 50, 51, 52, 53, 54, 55, 56, 57, 58, 59, 60, 61, 62, 63, 64, 65, 66, 67, 68, 69, 70, 71, 72] (by decide +kernel) (by decide +kernel)
set_option maxRecDepth 20000 in
theorem gX7_safeGap_X7_safe : GoodIn wsX7_safeGap (wsV RX7 118 RX7 yX7_safe wsX7_safe) := goodIn_app (goodIn_of _ (by decide +kernel)) ggX7_safeGap_X7_safe
theorem dX7_safeGap_0 : decode cX7_safeGap 0 = .ok (.aload_n 0, 1) := by decide +kernel
theorem dX7_safeGap_1 : decode cX7_safeGap 1 = .ok (.invokevirtual 112, 3) := by decide +kernel
theorem dX7_safeGap_4 : decode cX7_safeGap 4 = .ok (.aload_n 0, 1) := by decide +kernel
theorem dX7_safeGap_5 : decode cX7_safeGap 5 = .ok (.invokevirtual 118, 3) := by decide +kernel
theorem dX7_safeGap_8 : decode cX7_safeGap 8 = .ok (.istore_n 1, 1) := by decide +kernel
theorem dX7_safeGap_9 : decode cX7_safeGap 9 = .ok (.iload_n 1, 1) := by decide +kernel
theorem dX7_safeGap_10 : decode cX7_safeGap 10 = .ok (.bipush 50, 2) := by decide +kernel
theorem dX7_safeGap_12 : decode cX7_safeGap 12 = .ok (.if_icmp .le 8, 3) := by decide +kernel
theorem dX7_safeGap_15 : decode cX7_safeGap 15 = .ok (.bipush (-6), 2) := by decide +kernel
theorem dX7_safeGap_17 : decode cX7_safeGap 17 = .ok (.goto 4, 3) := by decide +kernel
theorem dX7_safeGap_20 : decode cX7_safeGap 20 = .ok (.iload_n 1, 1) := by decide +kernel
theorem dX7_safeGap_21 : decode cX7_safeGap 21 = .ok (.ireturn, 1) := by decide +kernel
set_option maxRecDepth 20000 in
theorem ggX7_toBlame_X7_in : GoodIn wsX7_toBlame wsX7_in := goodIn_r _ [5] (by decide +kernel) (by decide +kernel)
set_option maxRecDepth 20000 in
theorem gX7_toBlame_X7_in : GoodIn wsX7_toBlame (va_wsS RX7 71 yX7_in wsX7_in) := goodIn_app (goodIn_of _ (by decide +kernel)) ggX7_toBlame_X7_in
set_option maxRecDepth 20000 in
theorem ggX7_toBlame_X7_stages : GoodIn wsX7_toBlame wsX7_stages := goodIn_r _ [9, 1, 69, 70, 71, 72, 73, 74, 75] (by decide +kernel) (by decide +kernel)
set_option maxRecDepth 20000 in
theorem gX7_toBlame_X7_stages : GoodIn wsX7_toBlame (wsV RX7 34 RX7 yX7_stages wsX7_stages) := goodIn_app (goodIn_of _ (by decide +kernel)) ggX7_toBlame_X7_stages
set_option maxRecDepth 20000 in
theorem ggX7_toBlame_X7_copies : GoodIn wsX7_toBlame wsX7_copies := goodIn_r _ [13, 1, 69, 70, 71, 72, 73, 74, 75] (by decide +kernel) (by decide +kernel)
set_option maxRecDepth 20000 in
theorem gX7_toBlame_X7_copies : GoodIn wsX7_toBlame (wsV RX7 112 RX7 yX7_copies wsX7_copies) := goodIn_app (goodIn_of _ (by decide +kernel)) ggX7_toBlame_X7_copies
set_option maxRecDepth 20000 in
theorem ggX7_toBlame_X7_safe : GoodIn wsX7_toBlame wsX7_safe := goodIn_r _ [17, 18, 19, 20, 4, 21, 1, 22, 23, 24, 25, 6, 7, 8, 9, 26, 27, 28, 29, 30, 31, 32, 33, 34, 35, 36, 37, 38, 39, 40, 41, 42, 43, 44, 45, 46, 47, 48, 49, 50, 51, 52, 53, 54, 55, 56, 57, 58, 59, 60, 61, 62, 63, 64, 65, 66, 67, 68, 69, 70, 71, 72, 73, 74, 75] (by decide +kernel) (by decide +kernel)
set_option maxRecDepth 20000 in
theorem gX7_toBlame_X7_safe : GoodIn wsX7_toBlame (wsV RX7 118 RX7 yX7_safe wsX7_safe) := goodIn_app (goodIn_of _ (by decide +kernel)) ggX7_toBlame_X7_safe
theorem dX7_toBlame_0 : decode cX7_toBlame 0 = .ok (.iload_n 1, 1) := by decide +kernel
theorem dX7_toBlame_1 : decode cX7_toBlame 1 = .ok (.iconst 0, 1) := by decide +kernel
theorem dX7_toBlame_2 : decode cX7_toBlame 2 = .ok (.iconst 1, 1) := by decide +kernel
theorem dX7_toBlame_3 : decode cX7_toBlame 3 = .ok (.invokestatic 71, 3) := by decide +kernel
theorem dX7_toBlame_6 : decode cX7_toBlame 6 = .ok (.ifCond .ne 6, 3) := by decide +kernel
theorem dX7_toBlame_9 : decode cX7_toBlame 9 = .ok (.bipush (-2), 2) := by decide +kernel
theorem dX7_toBlame_11 : decode cX7_toBlame 11 = .ok (.ireturn, 1) := by decide +kernel
theorem dX7_toBlame_12 : decode cX7_toBlame 12 = .ok (.iconst 0, 1) := by decide +kernel
theorem dX7_toBlame_13 : decode cX7_toBlame 13 = .ok (.istore_n 2, 1) := by decide +kernel
theorem dX7_toBlame_14 : decode cX7_toBlame 14 = .ok (.bipush 52, 2) := by decide +kernel
theorem dX7_toBlame_16 : decode cX7_toBlame 16 = .ok (.istore_n 3, 1) := by decide +kernel
theorem dX7_toBlame_17 : decode cX7_toBlame 17 = .ok (.iconst 0, 1) := by decide +kernel
theorem dX7_toBlame_18 : decode cX7_toBlame 18 = .ok (.istore 4, 2) := by decide +kernel
theorem dX7_toBlame_20 : decode cX7_toBlame 20 = .ok (.iload 4, 2) := by decide +kernel
theorem dX7_toBlame_22 : decode cX7_toBlame 22 = .ok (.aload_n 0, 1) := by decide +kernel
theorem dX7_toBlame_23 : decode cX7_toBlame 23 = .ok (.iconst 0, 1) := by decide +kernel
theorem dX7_toBlame_24 : decode cX7_toBlame 24 = .ok (.invokevirtual 34, 3) := by decide +kernel
theorem dX7_toBlame_27 : decode cX7_toBlame 27 = .ok (.if_icmp .ge 57, 3) := by decide +kernel
theorem dX7_toBlame_30 : decode cX7_toBlame 30 = .ok (.aload_n 0, 1) := by decide +kernel
theorem dX7_toBlame_31 : decode cX7_toBlame 31 = .ok (.invokevirtual 112, 3) := by decide +kernel
theorem dX7_toBlame_34 : decode cX7_toBlame 34 = .ok (.aload_n 0, 1) := by decide +kernel
theorem dX7_toBlame_35 : decode cX7_toBlame 35 = .ok (.getfield 7, 3) := by decide +kernel
theorem dX7_toBlame_38 : decode cX7_toBlame 38 = .ok (.sipush 365, 3) := by decide +kernel
theorem dX7_toBlame_41 : decode cX7_toBlame 41 = .ok (.iload 4, 2) := by decide +kernel
theorem dX7_toBlame_43 : decode cX7_toBlame 43 = .ok (.iadd, 1) := by decide +kernel
theorem dX7_toBlame_44 : decode cX7_toBlame 44 = .ok (.iconst 1, 1) := by decide +kernel
theorem dX7_toBlame_45 : decode cX7_toBlame 45 = .ok (.iastore, 1) := by decide +kernel
theorem dX7_toBlame_46 : decode cX7_toBlame 46 = .ok (.aload_n 0, 1) := by decide +kernel
theorem dX7_toBlame_47 : decode cX7_toBlame 47 = .ok (.invokevirtual 118, 3) := by decide +kernel
theorem dX7_toBlame_50 : decode cX7_toBlame 50 = .ok (.istore 5, 2) := by decide +kernel
theorem dX7_toBlame_52 : decode cX7_toBlame 52 = .ok (.iload 5, 2) := by decide +kernel
theorem dX7_toBlame_54 : decode cX7_toBlame 54 = .ok (.iload_n 3, 1) := by decide +kernel
theorem dX7_toBlame_55 : decode cX7_toBlame 55 = .ok (.if_icmp .ge 8, 3) := by decide +kernel
theorem dX7_toBlame_58 : decode cX7_toBlame 58 = .ok (.iload 4, 2) := by decide +kernel
theorem dX7_toBlame_60 : decode cX7_toBlame 60 = .ok (.goto 4, 3) := by decide +kernel
theorem dX7_toBlame_63 : decode cX7_toBlame 63 = .ok (.iload_n 2, 1) := by decide +kernel
theorem dX7_toBlame_64 : decode cX7_toBlame 64 = .ok (.istore_n 2, 1) := by decide +kernel
theorem dX7_toBlame_65 : decode cX7_toBlame 65 = .ok (.iload 5, 2) := by decide +kernel
theorem dX7_toBlame_67 : decode cX7_toBlame 67 = .ok (.iload_n 3, 1) := by decide +kernel
theorem dX7_toBlame_68 : decode cX7_toBlame 68 = .ok (.if_icmp .ge 8, 3) := by decide +kernel
theorem dX7_toBlame_71 : decode cX7_toBlame 71 = .ok (.iload 5, 2) := by decide +kernel
theorem dX7_toBlame_73 : decode cX7_toBlame 73 = .ok (.goto 4, 3) := by decide +kernel
theorem dX7_toBlame_76 : decode cX7_toBlame 76 = .ok (.iload_n 3, 1) := by decide +kernel
theorem dX7_toBlame_77 : decode cX7_toBlame 77 = .ok (.istore_n 3, 1) := by decide +kernel
theorem dX7_toBlame_78 : decode cX7_toBlame 78 = .ok (.iinc 4 1, 3) := by decide +kernel
theorem dX7_toBlame_81 : decode cX7_toBlame 81 = .ok (.goto (-61), 3) := by decide +kernel
theorem dX7_toBlame_84 : decode cX7_toBlame 84 = .ok (.iload_n 1, 1) := by decide +kernel
theorem dX7_toBlame_85 : decode cX7_toBlame 85 = .ok (.ifCond .ne 7, 3) := by decide +kernel
theorem dX7_toBlame_88 : decode cX7_toBlame 88 = .ok (.iload_n 2, 1) := by decide +kernel
theorem dX7_toBlame_89 : decode cX7_toBlame 89 = .ok (.goto 4, 3) := by decide +kernel
theorem dX7_toBlame_92 : decode cX7_toBlame 92 = .ok (.iload_n 3, 1) := by decide +kernel
theorem dX7_toBlame_93 : decode cX7_toBlame 93 = .ok (.ireturn, 1) := by decide +kernel
set_option maxRecDepth 20000 in
theorem ggX7_put_X7_in : GoodIn wsX7_put wsX7_in := goodIn_r _ [7] (by decide +kernel) (by decide +kernel)
set_option maxRecDepth 20000 in
theorem gX7_put_X7_in : GoodIn wsX7_put (va_wsS RX7 71 yX7_in wsX7_in) := goodIn_app (goodIn_of _ (by decide +kernel)) ggX7_put_X7_in
theorem dX7_put_0 : decode cX7_put 0 = .ok (.iconst 0, 1) := by decide +kernel
theorem dX7_put_1 : decode cX7_put 1 = .ok (.istore_n 3, 1) := by decide +kernel
theorem dX7_put_2 : decode cX7_put 2 = .ok (.iconst 1, 1) := by decide +kernel
theorem dX7_put_3 : decode cX7_put 3 = .ok (.istore 4, 2) := by decide +kernel
theorem dX7_put_5 : decode cX7_put 5 = .ok (.iconst 0, 1) := by decide +kernel
theorem dX7_put_6 : decode cX7_put 6 = .ok (.istore 5, 2) := by decide +kernel
theorem dX7_put_8 : decode cX7_put 8 = .ok (.iconst 0, 1) := by decide +kernel
theorem dX7_put_9 : decode cX7_put 9 = .ok (.istore 6, 2) := by decide +kernel
theorem dX7_put_11 : decode cX7_put 11 = .ok (.iload 6, 2) := by decide +kernel
theorem dX7_put_13 : decode cX7_put 13 = .ok (.bipush 8, 2) := by decide +kernel
theorem dX7_put_15 : decode cX7_put 15 = .ok (.if_icmp .ge 90, 3) := by decide +kernel
theorem dX7_put_18 : decode cX7_put 18 = .ok (.lload_n 1, 1) := by decide +kernel
theorem dX7_put_19 : decode cX7_put 19 = .ok (.bipush 8, 2) := by decide +kernel
theorem dX7_put_21 : decode cX7_put 21 = .ok (.iload 6, 2) := by decide +kernel
theorem dX7_put_23 : decode cX7_put 23 = .ok (.imul, 1) := by decide +kernel
theorem dX7_put_24 : decode cX7_put 24 = .ok (.lshr, 1) := by decide +kernel
theorem dX7_put_25 : decode cX7_put 25 = .ok (.ldc2_w 121, 3) := by decide +kernel
theorem dX7_put_28 : decode cX7_put 28 = .ok (.land, 1) := by decide +kernel
theorem dX7_put_29 : decode cX7_put 29 = .ok (.l2i, 1) := by decide +kernel
theorem dX7_put_30 : decode cX7_put 30 = .ok (.istore 7, 2) := by decide +kernel
theorem dX7_put_32 : decode cX7_put 32 = .ok (.iload 5, 2) := by decide +kernel
theorem dX7_put_34 : decode cX7_put 34 = .ok (.ifCond .ne 8, 3) := by decide +kernel
theorem dX7_put_37 : decode cX7_put 37 = .ok (.iload 7, 2) := by decide +kernel
theorem dX7_put_39 : decode cX7_put 39 = .ok (.ifCond .ne 7, 3) := by decide +kernel
theorem dX7_put_42 : decode cX7_put 42 = .ok (.iconst 1, 1) := by decide +kernel
theorem dX7_put_43 : decode cX7_put 43 = .ok (.goto 4, 3) := by decide +kernel
theorem dX7_put_46 : decode cX7_put 46 = .ok (.iconst 0, 1) := by decide +kernel
theorem dX7_put_47 : decode cX7_put 47 = .ok (.istore 5, 2) := by decide +kernel
theorem dX7_put_49 : decode cX7_put 49 = .ok (.iload 4, 2) := by decide +kernel
theorem dX7_put_51 : decode cX7_put 51 = .ok (.ifCond .eq 32, 3) := by decide +kernel
theorem dX7_put_54 : decode cX7_put 54 = .ok (.iload 5, 2) := by decide +kernel
theorem dX7_put_56 : decode cX7_put 56 = .ok (.ifCond .eq 11, 3) := by decide +kernel
theorem dX7_put_59 : decode cX7_put 59 = .ok (.iload 7, 2) := by decide +kernel
theorem dX7_put_61 : decode cX7_put 61 = .ok (.ifCond .ne 22, 3) := by decide +kernel
theorem dX7_put_64 : decode cX7_put 64 = .ok (.goto 15, 3) := by decide +kernel
theorem dX7_put_67 : decode cX7_put 67 = .ok (.iload 7, 2) := by decide +kernel
theorem dX7_put_69 : decode cX7_put 69 = .ok (.bipush 33, 2) := by decide +kernel
theorem dX7_put_71 : decode cX7_put 71 = .ok (.bipush 126, 2) := by decide +kernel
theorem dX7_put_73 : decode cX7_put 73 = .ok (.invokestatic 71, 3) := by decide +kernel
theorem dX7_put_76 : decode cX7_put 76 = .ok (.ifCond .eq 7, 3) := by decide +kernel
theorem dX7_put_79 : decode cX7_put 79 = .ok (.iconst 1, 1) := by decide +kernel
theorem dX7_put_80 : decode cX7_put 80 = .ok (.goto 4, 3) := by decide +kernel
theorem dX7_put_83 : decode cX7_put 83 = .ok (.iconst 0, 1) := by decide +kernel
theorem dX7_put_84 : decode cX7_put 84 = .ok (.istore 4, 2) := by decide +kernel
theorem dX7_put_86 : decode cX7_put 86 = .ok (.iload_n 3, 1) := by decide +kernel
theorem dX7_put_87 : decode cX7_put 87 = .ok (.iload 5, 2) := by decide +kernel
theorem dX7_put_89 : decode cX7_put 89 = .ok (.ifCond .eq 7, 3) := by decide +kernel
theorem dX7_put_92 : decode cX7_put 92 = .ok (.iconst 0, 1) := by decide +kernel
theorem dX7_put_93 : decode cX7_put 93 = .ok (.goto 4, 3) := by decide +kernel
theorem dX7_put_96 : decode cX7_put 96 = .ok (.iconst 1, 1) := by decide +kernel
theorem dX7_put_97 : decode cX7_put 97 = .ok (.iadd, 1) := by decide +kernel
theorem dX7_put_98 : decode cX7_put 98 = .ok (.istore_n 3, 1) := by decide +kernel
theorem dX7_put_99 : decode cX7_put 99 = .ok (.iinc 6 1, 3) := by decide +kernel
theorem dX7_put_102 : decode cX7_put 102 = .ok (.goto (-91), 3) := by decide +kernel
theorem dX7_put_105 : decode cX7_put 105 = .ok (.iload 4, 2) := by decide +kernel
theorem dX7_put_107 : decode cX7_put 107 = .ok (.ifCond .eq 7, 3) := by decide +kernel
theorem dX7_put_110 : decode cX7_put 110 = .ok (.iload_n 3, 1) := by decide +kernel
theorem dX7_put_111 : decode cX7_put 111 = .ok (.ifCond .ne 6, 3) := by decide +kernel
theorem dX7_put_114 : decode cX7_put 114 = .ok (.bipush (-2), 2) := by decide +kernel
theorem dX7_put_116 : decode cX7_put 116 = .ok (.ireturn, 1) := by decide +kernel
theorem dX7_put_117 : decode cX7_put 117 = .ok (.aload_n 0, 1) := by decide +kernel
theorem dX7_put_118 : decode cX7_put 118 = .ok (.getfield 109, 3) := by decide +kernel
theorem dX7_put_121 : decode cX7_put 121 = .ok (.iload_n 3, 1) := by decide +kernel
theorem dX7_put_122 : decode cX7_put 122 = .ok (.iadd, 1) := by decide +kernel
theorem dX7_put_123 : decode cX7_put 123 = .ok (.bipush 80, 2) := by decide +kernel
theorem dX7_put_125 : decode cX7_put 125 = .ok (.if_icmp .le 6, 3) := by decide +kernel
theorem dX7_put_128 : decode cX7_put 128 = .ok (.bipush (-4), 2) := by decide +kernel
theorem dX7_put_130 : decode cX7_put 130 = .ok (.ireturn, 1) := by decide +kernel
theorem dX7_put_131 : decode cX7_put 131 = .ok (.iload_n 3, 1) := by decide +kernel
theorem dX7_put_132 : decode cX7_put 132 = .ok (.iconst 1, 1) := by decide +kernel
theorem dX7_put_133 : decode cX7_put 133 = .ok (.isub, 1) := by decide +kernel
theorem dX7_put_134 : decode cX7_put 134 = .ok (.istore 6, 2) := by decide +kernel
theorem dX7_put_136 : decode cX7_put 136 = .ok (.iload 6, 2) := by decide +kernel
theorem dX7_put_138 : decode cX7_put 138 = .ok (.ifCond .lt 40, 3) := by decide +kernel
theorem dX7_put_141 : decode cX7_put 141 = .ok (.aload_n 0, 1) := by decide +kernel
theorem dX7_put_142 : decode cX7_put 142 = .ok (.getfield 23, 3) := by decide +kernel
theorem dX7_put_145 : decode cX7_put 145 = .ok (.aload_n 0, 1) := by decide +kernel
theorem dX7_put_146 : decode cX7_put 146 = .ok (.getfield 109, 3) := by decide +kernel
theorem dX7_put_149 : decode cX7_put 149 = .ok (.lload_n 1, 1) := by decide +kernel
theorem dX7_put_150 : decode cX7_put 150 = .ok (.bipush 8, 2) := by decide +kernel
theorem dX7_put_152 : decode cX7_put 152 = .ok (.iload 6, 2) := by decide +kernel
theorem dX7_put_154 : decode cX7_put 154 = .ok (.imul, 1) := by decide +kernel
theorem dX7_put_155 : decode cX7_put 155 = .ok (.lshr, 1) := by decide +kernel
theorem dX7_put_156 : decode cX7_put 156 = .ok (.ldc2_w 121, 3) := by decide +kernel
theorem dX7_put_159 : decode cX7_put 159 = .ok (.land, 1) := by decide +kernel
theorem dX7_put_160 : decode cX7_put 160 = .ok (.l2i, 1) := by decide +kernel
theorem dX7_put_161 : decode cX7_put 161 = .ok (.iastore, 1) := by decide +kernel
theorem dX7_put_162 : decode cX7_put 162 = .ok (.aload_n 0, 1) := by decide +kernel
theorem dX7_put_163 : decode cX7_put 163 = .ok (.dup, 1) := by decide +kernel
theorem dX7_put_164 : decode cX7_put 164 = .ok (.getfield 109, 3) := by decide +kernel
theorem dX7_put_167 : decode cX7_put 167 = .ok (.iconst 1, 1) := by decide +kernel
theorem dX7_put_168 : decode cX7_put 168 = .ok (.iadd, 1) := by decide +kernel
theorem dX7_put_169 : decode cX7_put 169 = .ok (.putfield 109, 3) := by decide +kernel
theorem dX7_put_172 : decode cX7_put 172 = .ok (.iinc 6 (-1), 3) := by decide +kernel
theorem dX7_put_175 : decode cX7_put 175 = .ok (.goto (-39), 3) := by decide +kernel
theorem dX7_put_178 : decode cX7_put 178 = .ok (.aload_n 0, 1) := by decide +kernel
theorem dX7_put_179 : decode cX7_put 179 = .ok (.getfield 109, 3) := by decide +kernel
theorem dX7_put_182 : decode cX7_put 182 = .ok (.ireturn, 1) := by decide +kernel
theorem dX7_wipe_0 : decode cX7_wipe 0 = .ok (.aload_n 0, 1) := by decide +kernel
theorem dX7_wipe_1 : decode cX7_wipe 1 = .ok (.getfield 109, 3) := by decide +kernel
theorem dX7_wipe_4 : decode cX7_wipe 4 = .ok (.istore_n 1, 1) := by decide +kernel
theorem dX7_wipe_5 : decode cX7_wipe 5 = .ok (.aload_n 0, 1) := by decide +kernel
theorem dX7_wipe_6 : decode cX7_wipe 6 = .ok (.iconst 0, 1) := by decide +kernel
theorem dX7_wipe_7 : decode cX7_wipe 7 = .ok (.putfield 109, 3) := by decide +kernel
theorem dX7_wipe_10 : decode cX7_wipe 10 = .ok (.iload_n 1, 1) := by decide +kernel
theorem dX7_wipe_11 : decode cX7_wipe 11 = .ok (.ireturn, 1) := by decide +kernel
theorem dX7_sign_0 : decode cX7_sign 0 = .ok (.iload_n 1, 1) := by decide +kernel
theorem dX7_sign_1 : decode cX7_sign 1 = .ok (.aload_n 0, 1) := by decide +kernel
theorem dX7_sign_2 : decode cX7_sign 2 = .ok (.getfield 109, 3) := by decide +kernel
theorem dX7_sign_5 : decode cX7_sign 5 = .ok (.if_icmp .ge 12, 3) := by decide +kernel
theorem dX7_sign_8 : decode cX7_sign 8 = .ok (.aload_n 0, 1) := by decide +kernel
theorem dX7_sign_9 : decode cX7_sign 9 = .ok (.getfield 23, 3) := by decide +kernel
theorem dX7_sign_12 : decode cX7_sign 12 = .ok (.iload_n 1, 1) := by decide +kernel
theorem dX7_sign_13 : decode cX7_sign 13 = .ok (.iaload, 1) := by decide +kernel
theorem dX7_sign_14 : decode cX7_sign 14 = .ok (.goto 4, 3) := by decide +kernel
theorem dX7_sign_17 : decode cX7_sign 17 = .ok (.iconst (-1), 1) := by decide +kernel
theorem dX7_sign_18 : decode cX7_sign 18 = .ok (.ireturn, 1) := by decide +kernel
set_option maxRecDepth 20000 in
theorem ggX7_digit_X7_sign : GoodIn wsX7_digit wsX7_sign := goodIn_r _ [5, 6, 7, 11, 12, 13, 14, 15, 16, 17] (by decide +kernel) (by decide +kernel)
set_option maxRecDepth 20000 in
theorem gX7_digit_X7_sign : GoodIn wsX7_digit (wsV RX7 123 RX7 yX7_sign wsX7_sign) := goodIn_app (goodIn_of _ (by decide +kernel)) ggX7_digit_X7_sign
set_option maxRecDepth 20000 in
theorem ggX7_digit_X7_in : GoodIn wsX7_digit wsX7_in := goodIn_r _ [10] (by decide +kernel) (by decide +kernel)
set_option maxRecDepth 20000 in
theorem gX7_digit_X7_in : GoodIn wsX7_digit (va_wsS RX7 71 yX7_in wsX7_in) := goodIn_app (goodIn_of _ (by decide +kernel)) ggX7_digit_X7_in
theorem dX7_digit_0 : decode cX7_digit 0 = .ok (.aload_n 0, 1) := by decide +kernel
theorem dX7_digit_1 : decode cX7_digit 1 = .ok (.iload_n 1, 1) := by decide +kernel
theorem dX7_digit_2 : decode cX7_digit 2 = .ok (.invokevirtual 123, 3) := by decide +kernel
theorem dX7_digit_5 : decode cX7_digit 5 = .ok (.bipush 48, 2) := by decide +kernel
theorem dX7_digit_7 : decode cX7_digit 7 = .ok (.bipush 57, 2) := by decide +kernel
theorem dX7_digit_9 : decode cX7_digit 9 = .ok (.invokestatic 71, 3) := by decide +kernel
theorem dX7_digit_12 : decode cX7_digit 12 = .ok (.ifCond .eq 14, 3) := by decide +kernel
theorem dX7_digit_15 : decode cX7_digit 15 = .ok (.aload_n 0, 1) := by decide +kernel
theorem dX7_digit_16 : decode cX7_digit 16 = .ok (.iload_n 1, 1) := by decide +kernel
theorem dX7_digit_17 : decode cX7_digit 17 = .ok (.invokevirtual 123, 3) := by decide +kernel
theorem dX7_digit_20 : decode cX7_digit 20 = .ok (.bipush 48, 2) := by decide +kernel
theorem dX7_digit_22 : decode cX7_digit 22 = .ok (.isub, 1) := by decide +kernel
theorem dX7_digit_23 : decode cX7_digit 23 = .ok (.goto 4, 3) := by decide +kernel
theorem dX7_digit_26 : decode cX7_digit 26 = .ok (.iconst (-1), 1) := by decide +kernel
theorem dX7_digit_27 : decode cX7_digit 27 = .ok (.ireturn, 1) := by decide +kernel
set_option maxRecDepth 20000 in
theorem ggX7_numberEnd_X7_digit : GoodIn wsX7_numberEnd wsX7_digit := goodIn_r _ [5, 6, 7, 8, 4, 9, 10, 11, 12, 13, 14, 15, 16, 17, 18, 19, 20, 21] (by decide +kernel) (by decide +kernel)
set_option maxRecDepth 20000 in
theorem gX7_numberEnd_X7_digit : GoodIn wsX7_numberEnd (wsV RX7 126 RX7 yX7_digit wsX7_digit) := goodIn_app (goodIn_of _ (by decide +kernel)) ggX7_numberEnd_X7_digit
theorem dX7_numberEnd_0 : decode cX7_numberEnd 0 = .ok (.aload_n 0, 1) := by decide +kernel
theorem dX7_numberEnd_1 : decode cX7_numberEnd 1 = .ok (.iload_n 1, 1) := by decide +kernel
theorem dX7_numberEnd_2 : decode cX7_numberEnd 2 = .ok (.invokevirtual 126, 3) := by decide +kernel
theorem dX7_numberEnd_5 : decode cX7_numberEnd 5 = .ok (.ifCond .ge 7, 3) := by decide +kernel
theorem dX7_numberEnd_8 : decode cX7_numberEnd 8 = .ok (.iconst (-1), 1) := by decide +kernel
theorem dX7_numberEnd_9 : decode cX7_numberEnd 9 = .ok (.iload_n 1, 1) := by decide +kernel
theorem dX7_numberEnd_10 : decode cX7_numberEnd 10 = .ok (.isub, 1) := by decide +kernel
theorem dX7_numberEnd_11 : decode cX7_numberEnd 11 = .ok (.ireturn, 1) := by decide +kernel
theorem dX7_numberEnd_12 : decode cX7_numberEnd 12 = .ok (.aload_n 0, 1) := by decide +kernel
theorem dX7_numberEnd_13 : decode cX7_numberEnd 13 = .ok (.iload_n 1, 1) := by decide +kernel
theorem dX7_numberEnd_14 : decode cX7_numberEnd 14 = .ok (.invokevirtual 126, 3) := by decide +kernel
theorem dX7_numberEnd_17 : decode cX7_numberEnd 17 = .ok (.ifCond .le 19, 3) := by decide +kernel
theorem dX7_numberEnd_20 : decode cX7_numberEnd 20 = .ok (.aload_n 0, 1) := by decide +kernel
theorem dX7_numberEnd_21 : decode cX7_numberEnd 21 = .ok (.iload_n 1, 1) := by decide +kernel
theorem dX7_numberEnd_22 : decode cX7_numberEnd 22 = .ok (.iconst 1, 1) := by decide +kernel
theorem dX7_numberEnd_23 : decode cX7_numberEnd 23 = .ok (.iadd, 1) := by decide +kernel
theorem dX7_numberEnd_24 : decode cX7_numberEnd 24 = .ok (.invokevirtual 126, 3) := by decide +kernel
theorem dX7_numberEnd_27 : decode cX7_numberEnd 27 = .ok (.ifCond .lt 9, 3) := by decide +kernel
theorem dX7_numberEnd_30 : decode cX7_numberEnd 30 = .ok (.iload_n 1, 1) := by decide +kernel
theorem dX7_numberEnd_31 : decode cX7_numberEnd 31 = .ok (.iconst 2, 1) := by decide +kernel
theorem dX7_numberEnd_32 : decode cX7_numberEnd 32 = .ok (.iadd, 1) := by decide +kernel
theorem dX7_numberEnd_33 : decode cX7_numberEnd 33 = .ok (.goto 6, 3) := by decide +kernel
theorem dX7_numberEnd_36 : decode cX7_numberEnd 36 = .ok (.iload_n 1, 1) := by decide +kernel
theorem dX7_numberEnd_37 : decode cX7_numberEnd 37 = .ok (.iconst 1, 1) := by decide +kernel
theorem dX7_numberEnd_38 : decode cX7_numberEnd 38 = .ok (.iadd, 1) := by decide +kernel
theorem dX7_numberEnd_39 : decode cX7_numberEnd 39 = .ok (.ireturn, 1) := by decide +kernel
set_option maxRecDepth 20000 in
theorem ggX7_numberAt_X7_numberEnd : GoodIn wsX7_numberAt wsX7_numberEnd := goodIn_r _ [5, 6, 7, 8, 4, 9, 10, 11, 12, 13, 14, 15, 16, 17, 18, 19, 20, 21, 22, 23, 24, 25] (by decide +kernel) (by decide +kernel)
set_option maxRecDepth 20000 in
theorem gX7_numberAt_X7_numberEnd : GoodIn wsX7_numberAt (wsV RX7 129 RX7 yX7_numberEnd wsX7_numberEnd) := goodIn_app (goodIn_of _ (by decide +kernel)) ggX7_numberAt_X7_numberEnd
set_option maxRecDepth 20000 in
theorem ggX7_numberAt_X7_digit : GoodIn wsX7_numberAt wsX7_digit := goodIn_r _ [9, 10, 11, 12, 4, 13, 14, 15, 16, 17, 18, 19, 20, 21, 22, 23, 24, 25] (by decide +kernel) (by decide +kernel)
set_option maxRecDepth 20000 in
theorem gX7_numberAt_X7_digit : GoodIn wsX7_numberAt (wsV RX7 126 RX7 yX7_digit wsX7_digit) := goodIn_app (goodIn_of _ (by decide +kernel)) ggX7_numberAt_X7_digit
theorem dX7_numberAt_0 : decode cX7_numberAt 0 = .ok (.aload_n 0, 1) := by decide +kernel
theorem dX7_numberAt_1 : decode cX7_numberAt 1 = .ok (.iload_n 1, 1) := by decide +kernel
theorem dX7_numberAt_2 : decode cX7_numberAt 2 = .ok (.invokevirtual 129, 3) := by decide +kernel
theorem dX7_numberAt_5 : decode cX7_numberAt 5 = .ok (.iload_n 1, 1) := by decide +kernel
theorem dX7_numberAt_6 : decode cX7_numberAt 6 = .ok (.iconst 1, 1) := by decide +kernel
theorem dX7_numberAt_7 : decode cX7_numberAt 7 = .ok (.iadd, 1) := by decide +kernel
theorem dX7_numberAt_8 : decode cX7_numberAt 8 = .ok (.if_icmp .ne 11, 3) := by decide +kernel
theorem dX7_numberAt_11 : decode cX7_numberAt 11 = .ok (.aload_n 0, 1) := by decide +kernel
theorem dX7_numberAt_12 : decode cX7_numberAt 12 = .ok (.iload_n 1, 1) := by decide +kernel
theorem dX7_numberAt_13 : decode cX7_numberAt 13 = .ok (.invokevirtual 126, 3) := by decide +kernel
theorem dX7_numberAt_16 : decode cX7_numberAt 16 = .ok (.goto 19, 3) := by decide +kernel
theorem dX7_numberAt_19 : decode cX7_numberAt 19 = .ok (.bipush 10, 2) := by decide +kernel
theorem dX7_numberAt_21 : decode cX7_numberAt 21 = .ok (.aload_n 0, 1) := by decide +kernel
theorem dX7_numberAt_22 : decode cX7_numberAt 22 = .ok (.iload_n 1, 1) := by decide +kernel
theorem dX7_numberAt_23 : decode cX7_numberAt 23 = .ok (.invokevirtual 126, 3) := by decide +kernel
theorem dX7_numberAt_26 : decode cX7_numberAt 26 = .ok (.imul, 1) := by decide +kernel
theorem dX7_numberAt_27 : decode cX7_numberAt 27 = .ok (.aload_n 0, 1) := by decide +kernel
theorem dX7_numberAt_28 : decode cX7_numberAt 28 = .ok (.iload_n 1, 1) := by decide +kernel
theorem dX7_numberAt_29 : decode cX7_numberAt 29 = .ok (.iconst 1, 1) := by decide +kernel
theorem dX7_numberAt_30 : decode cX7_numberAt 30 = .ok (.iadd, 1) := by decide +kernel
theorem dX7_numberAt_31 : decode cX7_numberAt 31 = .ok (.invokevirtual 126, 3) := by decide +kernel
theorem dX7_numberAt_34 : decode cX7_numberAt 34 = .ok (.iadd, 1) := by decide +kernel
theorem dX7_numberAt_35 : decode cX7_numberAt 35 = .ok (.ireturn, 1) := by decide +kernel
set_option maxRecDepth 20000 in
theorem ggX7_orderEnd_X7_sign : GoodIn wsX7_orderEnd wsX7_sign := goodIn_r _ [5, 6, 7, 19, 20, 21, 22, 23, 24, 25] (by decide +kernel) (by decide +kernel)
set_option maxRecDepth 20000 in
theorem gX7_orderEnd_X7_sign : GoodIn wsX7_orderEnd (wsV RX7 123 RX7 yX7_sign wsX7_sign) := goodIn_app (goodIn_of _ (by decide +kernel)) ggX7_orderEnd_X7_sign
set_option maxRecDepth 20000 in
theorem ggX7_orderEnd_X7_digit : GoodIn wsX7_orderEnd wsX7_digit := goodIn_r _ [11, 1, 2, 3, 4, 5, 6, 7, 12, 13, 14, 19, 20, 21, 22, 23, 24, 25] (by decide +kernel) (by decide +kernel)
set_option maxRecDepth 20000 in
theorem gX7_orderEnd_X7_digit : GoodIn wsX7_orderEnd (wsV RX7 126 RX7 yX7_digit wsX7_digit) := goodIn_app (goodIn_of _ (by decide +kernel)) ggX7_orderEnd_X7_digit
set_option maxRecDepth 20000 in
theorem ggX7_orderEnd_X7_numberEnd : GoodIn wsX7_orderEnd wsX7_numberEnd := goodIn_r _ [18, 8, 9, 10, 4, 11, 1, 2, 3, 5, 6, 7, 12, 13, 14, 19, 20, 21, 22, 23, 24, 25] (by decide +kernel) (by decide +kernel)
set_option maxRecDepth 20000 in
theorem gX7_orderEnd_X7_numberEnd : GoodIn wsX7_orderEnd (wsV RX7 129 RX7 yX7_numberEnd wsX7_numberEnd) := goodIn_app (goodIn_of _ (by decide +kernel)) ggX7_orderEnd_X7_numberEnd
theorem dX7_orderEnd_0 : decode cX7_orderEnd 0 = .ok (.aload_n 0, 1) := by decide +kernel
theorem dX7_orderEnd_1 : decode cX7_orderEnd 1 = .ok (.iload_n 1, 1) := by decide +kernel
theorem dX7_orderEnd_2 : decode cX7_orderEnd 2 = .ok (.invokevirtual 123, 3) := by decide +kernel
theorem dX7_orderEnd_5 : decode cX7_orderEnd 5 = .ok (.lookupswitch 129 #[(99, 51), (100, 83), (114, 125), (116, 75), (119, 125)], 51) := by decide +kernel
theorem dX7_orderEnd_56 : decode cX7_orderEnd 56 = .ok (.aload_n 0, 1) := by decide +kernel
theorem dX7_orderEnd_57 : decode cX7_orderEnd 57 = .ok (.iload_n 1, 1) := by decide +kernel
theorem dX7_orderEnd_58 : decode cX7_orderEnd 58 = .ok (.iconst 1, 1) := by decide +kernel
theorem dX7_orderEnd_59 : decode cX7_orderEnd 59 = .ok (.iadd, 1) := by decide +kernel
theorem dX7_orderEnd_60 : decode cX7_orderEnd 60 = .ok (.invokevirtual 126, 3) := by decide +kernel
theorem dX7_orderEnd_63 : decode cX7_orderEnd 63 = .ok (.ifCond .ge 9, 3) := by decide +kernel
theorem dX7_orderEnd_66 : decode cX7_orderEnd 66 = .ok (.iload_n 1, 1) := by decide +kernel
theorem dX7_orderEnd_67 : decode cX7_orderEnd 67 = .ok (.iconst 1, 1) := by decide +kernel
theorem dX7_orderEnd_68 : decode cX7_orderEnd 68 = .ok (.iadd, 1) := by decide +kernel
theorem dX7_orderEnd_69 : decode cX7_orderEnd 69 = .ok (.goto 10, 3) := by decide +kernel
theorem dX7_orderEnd_72 : decode cX7_orderEnd 72 = .ok (.aload_n 0, 1) := by decide +kernel
theorem dX7_orderEnd_73 : decode cX7_orderEnd 73 = .ok (.iload_n 1, 1) := by decide +kernel
theorem dX7_orderEnd_74 : decode cX7_orderEnd 74 = .ok (.iconst 1, 1) := by decide +kernel
theorem dX7_orderEnd_75 : decode cX7_orderEnd 75 = .ok (.iadd, 1) := by decide +kernel
theorem dX7_orderEnd_76 : decode cX7_orderEnd 76 = .ok (.invokevirtual 129, 3) := by decide +kernel
theorem dX7_orderEnd_79 : decode cX7_orderEnd 79 = .ok (.ireturn, 1) := by decide +kernel
theorem dX7_orderEnd_80 : decode cX7_orderEnd 80 = .ok (.aload_n 0, 1) := by decide +kernel
theorem dX7_orderEnd_81 : decode cX7_orderEnd 81 = .ok (.iload_n 1, 1) := by decide +kernel
theorem dX7_orderEnd_82 : decode cX7_orderEnd 82 = .ok (.iconst 1, 1) := by decide +kernel
theorem dX7_orderEnd_83 : decode cX7_orderEnd 83 = .ok (.iadd, 1) := by decide +kernel
theorem dX7_orderEnd_84 : decode cX7_orderEnd 84 = .ok (.invokevirtual 129, 3) := by decide +kernel
theorem dX7_orderEnd_87 : decode cX7_orderEnd 87 = .ok (.ireturn, 1) := by decide +kernel
theorem dX7_orderEnd_88 : decode cX7_orderEnd 88 = .ok (.aload_n 0, 1) := by decide +kernel
theorem dX7_orderEnd_89 : decode cX7_orderEnd 89 = .ok (.iload_n 1, 1) := by decide +kernel
theorem dX7_orderEnd_90 : decode cX7_orderEnd 90 = .ok (.iconst 1, 1) := by decide +kernel
theorem dX7_orderEnd_91 : decode cX7_orderEnd 91 = .ok (.iadd, 1) := by decide +kernel
theorem dX7_orderEnd_92 : decode cX7_orderEnd 92 = .ok (.invokevirtual 126, 3) := by decide +kernel
theorem dX7_orderEnd_95 : decode cX7_orderEnd 95 = .ok (.ifCond .ge 8, 3) := by decide +kernel
theorem dX7_orderEnd_98 : decode cX7_orderEnd 98 = .ok (.bipush (-2), 2) := by decide +kernel
theorem dX7_orderEnd_100 : decode cX7_orderEnd 100 = .ok (.iload_n 1, 1) := by decide +kernel
theorem dX7_orderEnd_101 : decode cX7_orderEnd 101 = .ok (.isub, 1) := by decide +kernel
theorem dX7_orderEnd_102 : decode cX7_orderEnd 102 = .ok (.ireturn, 1) := by decide +kernel
theorem dX7_orderEnd_103 : decode cX7_orderEnd 103 = .ok (.aload_n 0, 1) := by decide +kernel
theorem dX7_orderEnd_104 : decode cX7_orderEnd 104 = .ok (.iload_n 1, 1) := by decide +kernel
