theorem dX7_delay_21 : decode cX7_delay 21 = .ok (.bipush 9, 2) := by decide +kernel
theorem dX7_delay_23 : decode cX7_delay 23 = .ok (.iload_n 1, 1) := by decide +kernel
theorem dX7_delay_24 : decode cX7_delay 24 = .ok (.iadd, 1) := by decide +kernel
theorem dX7_delay_25 : decode cX7_delay 25 = .ok (.iaload, 1) := by decide +kernel
theorem dX7_delay_26 : decode cX7_delay 26 = .ok (.istore 4, 2) := by decide +kernel
theorem dX7_delay_28 : decode cX7_delay 28 = .ok (.aload_n 0, 1) := by decide +kernel
theorem dX7_delay_29 : decode cX7_delay 29 = .ok (.getfield 7, 3) := by decide +kernel
theorem dX7_delay_32 : decode cX7_delay 32 = .ok (.bipush 9, 2) := by decide +kernel
theorem dX7_delay_34 : decode cX7_delay 34 = .ok (.iload_n 1, 1) := by decide +kernel
theorem dX7_delay_35 : decode cX7_delay 35 = .ok (.iadd, 1) := by decide +kernel
theorem dX7_delay_36 : decode cX7_delay 36 = .ok (.iload_n 2, 1) := by decide +kernel
theorem dX7_delay_37 : decode cX7_delay 37 = .ok (.iastore, 1) := by decide +kernel
theorem dX7_delay_38 : decode cX7_delay 38 = .ok (.iload 4, 2) := by decide +kernel
theorem dX7_delay_40 : decode cX7_delay 40 = .ok (.ireturn, 1) := by decide +kernel
set_option maxRecDepth 20000 in
theorem ggX7_clock_X7_remembers : GoodIn wsX7_clock wsX7_remembers := goodIn_r _ [6, 7, 8, 1, 28, 29, 30, 31, 32, 33, 34] (by decide +kernel) (by decide +kernel)
set_option maxRecDepth 20000 in
theorem gX7_clock_X7_remembers : GoodIn wsX7_clock (wsV RX7 79 RX7 yX7_remembers wsX7_remembers) := goodIn_app (goodIn_of _ (by decide +kernel)) ggX7_clock_X7_remembers
set_option maxRecDepth 20000 in
theorem ggX7_clock_X7_clockNow : GoodIn wsX7_clock wsX7_clockNow := goodIn_r _ [12, 1, 13, 14, 15, 5, 16, 17, 18, 19, 20, 21, 22, 23, 24, 25, 26, 27, 28, 29, 30, 31, 32, 33, 34] (by decide +kernel) (by decide +kernel)
set_option maxRecDepth 20000 in
theorem gX7_clock_X7_clockNow : GoodIn wsX7_clock (wsV RX7 85 RX7 yX7_clockNow wsX7_clockNow) := goodIn_app (goodIn_of _ (by decide +kernel)) ggX7_clock_X7_clockNow
theorem dX7_clock_0 : decode cX7_clock 0 = .ok (.aload_n 0, 1) := by decide +kernel
theorem dX7_clock_1 : decode cX7_clock 1 = .ok (.getfield 7, 3) := by decide +kernel
theorem dX7_clock_4 : decode cX7_clock 4 = .ok (.iconst 4, 1) := by decide +kernel
theorem dX7_clock_5 : decode cX7_clock 5 = .ok (.iaload, 1) := by decide +kernel
theorem dX7_clock_6 : decode cX7_clock 6 = .ok (.aload_n 0, 1) := by decide +kernel
theorem dX7_clock_7 : decode cX7_clock 7 = .ok (.getfield 7, 3) := by decide +kernel
theorem dX7_clock_10 : decode cX7_clock 10 = .ok (.iconst 2, 1) := by decide +kernel
theorem dX7_clock_11 : decode cX7_clock 11 = .ok (.iaload, 1) := by decide +kernel
theorem dX7_clock_12 : decode cX7_clock 12 = .ok (.if_icmp .ne 6, 3) := by decide +kernel
theorem dX7_clock_15 : decode cX7_clock 15 = .ok (.bipush (-5), 2) := by decide +kernel
theorem dX7_clock_17 : decode cX7_clock 17 = .ok (.ireturn, 1) := by decide +kernel
theorem dX7_clock_18 : decode cX7_clock 18 = .ok (.aload_n 0, 1) := by decide +kernel
theorem dX7_clock_19 : decode cX7_clock 19 = .ok (.invokevirtual 79, 3) := by decide +kernel
theorem dX7_clock_22 : decode cX7_clock 22 = .ok (.aload_n 0, 1) := by decide +kernel
theorem dX7_clock_23 : decode cX7_clock 23 = .ok (.invokevirtual 85, 3) := by decide +kernel
theorem dX7_clock_26 : decode cX7_clock 26 = .ok (.ireturn, 1) := by decide +kernel
set_option maxRecDepth 20000 in
theorem ggX7_pass_X7_whyNotPass : GoodIn wsX7_pass wsX7_whyNotPass := goodIn_r _ [5, 6, 7, 8, 4, 9, 59, 60, 61, 62, 63, 64, 65] (by decide +kernel) (by decide +kernel)
set_option maxRecDepth 20000 in
theorem gX7_pass_X7_whyNotPass : GoodIn wsX7_pass (wsV RX7 88 RX7 yX7_whyNotPass wsX7_whyNotPass) := goodIn_app (goodIn_of _ (by decide +kernel)) ggX7_pass_X7_whyNotPass
set_option maxRecDepth 20000 in
theorem ggX7_pass_X7_remembers : GoodIn wsX7_pass wsX7_remembers := goodIn_r _ [13, 14, 15, 6, 59, 60, 61, 62, 63, 64, 65] (by decide +kernel) (by decide +kernel)
set_option maxRecDepth 20000 in
theorem gX7_pass_X7_remembers : GoodIn wsX7_pass (wsV RX7 79 RX7 yX7_remembers wsX7_remembers) := goodIn_app (goodIn_of _ (by decide +kernel)) ggX7_pass_X7_remembers
set_option maxRecDepth 20000 in
theorem ggX7_pass_X7_passes : GoodIn wsX7_pass wsX7_passes := goodIn_r _ [19, 20, 21, 22, 4, 23, 6, 24, 25, 26, 27, 28, 29, 30, 31, 32, 33, 34, 35, 36, 37, 38, 39, 40, 41, 42, 43, 44, 45, 46, 47, 48, 49, 50, 51, 52, 53, 54, 55, 56, 57, 58, 59, 60, 61, 62, 63, 64, 65] (by decide +kernel) (by decide +kernel)
set_option maxRecDepth 20000 in
theorem gX7_pass_X7_passes : GoodIn wsX7_pass (wsV RX7 91 RX7 yX7_passes wsX7_passes) := goodIn_app (goodIn_of _ (by decide +kernel)) ggX7_pass_X7_passes
theorem dX7_pass_0 : decode cX7_pass 0 = .ok (.aload_n 0, 1) := by decide +kernel
theorem dX7_pass_1 : decode cX7_pass 1 = .ok (.iload_n 1, 1) := by decide +kernel
theorem dX7_pass_2 : decode cX7_pass 2 = .ok (.invokevirtual 88, 3) := by decide +kernel
theorem dX7_pass_5 : decode cX7_pass 5 = .ok (.istore_n 2, 1) := by decide +kernel
theorem dX7_pass_6 : decode cX7_pass 6 = .ok (.iload_n 2, 1) := by decide +kernel
theorem dX7_pass_7 : decode cX7_pass 7 = .ok (.ifCond .ge 5, 3) := by decide +kernel
theorem dX7_pass_10 : decode cX7_pass 10 = .ok (.iload_n 2, 1) := by decide +kernel
theorem dX7_pass_11 : decode cX7_pass 11 = .ok (.ireturn, 1) := by decide +kernel
theorem dX7_pass_12 : decode cX7_pass 12 = .ok (.aload_n 0, 1) := by decide +kernel
theorem dX7_pass_13 : decode cX7_pass 13 = .ok (.invokevirtual 79, 3) := by decide +kernel
theorem dX7_pass_16 : decode cX7_pass 16 = .ok (.aload_n 0, 1) := by decide +kernel
theorem dX7_pass_17 : decode cX7_pass 17 = .ok (.iconst 0, 1) := by decide +kernel
theorem dX7_pass_18 : decode cX7_pass 18 = .ok (.iload_n 1, 1) := by decide +kernel
theorem dX7_pass_19 : decode cX7_pass 19 = .ok (.invokevirtual 91, 3) := by decide +kernel
theorem dX7_pass_22 : decode cX7_pass 22 = .ok (.ireturn, 1) := by decide +kernel
set_option maxRecDepth 20000 in
theorem ggX7_read_X7_whyNotRead : GoodIn wsX7_read wsX7_whyNotRead := goodIn_r _ [5, 6, 25, 26, 27, 28, 29, 30, 31] (by decide +kernel) (by decide +kernel)
set_option maxRecDepth 20000 in
theorem gX7_read_X7_whyNotRead : GoodIn wsX7_read (wsV RX7 75 RX7 yX7_whyNotRead wsX7_whyNotRead) := goodIn_app (goodIn_of _ (by decide +kernel)) ggX7_read_X7_whyNotRead
set_option maxRecDepth 20000 in
theorem ggX7_read_X7_remembers : GoodIn wsX7_read wsX7_remembers := goodIn_r _ [10, 11, 12, 6, 25, 26, 27, 28, 29, 30, 31] (by decide +kernel) (by decide +kernel)
set_option maxRecDepth 20000 in
theorem gX7_read_X7_remembers : GoodIn wsX7_read (wsV RX7 79 RX7 yX7_remembers wsX7_remembers) := goodIn_app (goodIn_of _ (by decide +kernel)) ggX7_read_X7_remembers
set_option maxRecDepth 20000 in
theorem ggX7_read_X7_reads : GoodIn wsX7_read wsX7_reads := goodIn_r _ [16, 6, 17, 18, 19, 4, 20, 21, 22, 23, 24, 25, 26, 27, 28, 29, 30, 31] (by decide +kernel) (by decide +kernel)
set_option maxRecDepth 20000 in
theorem gX7_read_X7_reads : GoodIn wsX7_read (wsV RX7 62 RX7 yX7_reads wsX7_reads) := goodIn_app (goodIn_of _ (by decide +kernel)) ggX7_read_X7_reads
set_option maxRecDepth 20000 in
theorem ggX7_read_X7_shows : GoodIn wsX7_read wsX7_shows := goodIn_r _ [20, 6, 21, 22, 23, 4, 24, 25, 26, 27, 28, 29, 30, 31] (by decide +kernel) (by decide +kernel)
set_option maxRecDepth 20000 in
theorem gX7_read_X7_shows : GoodIn wsX7_read (wsV RX7 50 RX7 yX7_shows wsX7_shows) := goodIn_app (goodIn_of _ (by decide +kernel)) ggX7_read_X7_shows
theorem dX7_read_0 : decode cX7_read 0 = .ok (.aload_n 0, 1) := by decide +kernel
theorem dX7_read_1 : decode cX7_read 1 = .ok (.invokevirtual 75, 3) := by decide +kernel
theorem dX7_read_4 : decode cX7_read 4 = .ok (.ifCond .ge 6, 3) := by decide +kernel
theorem dX7_read_7 : decode cX7_read 7 = .ok (.bipush (-4), 2) := by decide +kernel
theorem dX7_read_9 : decode cX7_read 9 = .ok (.ireturn, 1) := by decide +kernel
theorem dX7_read_10 : decode cX7_read 10 = .ok (.aload_n 0, 1) := by decide +kernel
theorem dX7_read_11 : decode cX7_read 11 = .ok (.invokevirtual 79, 3) := by decide +kernel
theorem dX7_read_14 : decode cX7_read 14 = .ok (.aload_n 0, 1) := by decide +kernel
theorem dX7_read_15 : decode cX7_read 15 = .ok (.iconst 0, 1) := by decide +kernel
theorem dX7_read_16 : decode cX7_read 16 = .ok (.iconst 0, 1) := by decide +kernel
theorem dX7_read_17 : decode cX7_read 17 = .ok (.invokevirtual 62, 3) := by decide +kernel
theorem dX7_read_20 : decode cX7_read 20 = .ok (.aload_n 0, 1) := by decide +kernel
theorem dX7_read_21 : decode cX7_read 21 = .ok (.iconst 0, 1) := by decide +kernel
theorem dX7_read_22 : decode cX7_read 22 = .ok (.invokevirtual 50, 3) := by decide +kernel
theorem dX7_read_25 : decode cX7_read 25 = .ok (.ireturn, 1) := by decide +kernel
set_option maxRecDepth 20000 in
theorem ggX7_latch_X7_whyNotLatch : GoodIn wsX7_latch wsX7_whyNotLatch := goodIn_r _ [6, 1, 7, 8, 9, 5, 10, 17, 18, 19, 20, 21, 22, 23] (by decide +kernel) (by decide +kernel)
set_option maxRecDepth 20000 in
theorem gX7_latch_X7_whyNotLatch : GoodIn wsX7_latch (wsV RX7 94 RX7 yX7_whyNotLatch wsX7_whyNotLatch) := goodIn_app (goodIn_of _ (by decide +kernel)) ggX7_latch_X7_whyNotLatch
set_option maxRecDepth 20000 in
theorem ggX7_latch_X7_remembers : GoodIn wsX7_latch wsX7_remembers := goodIn_r _ [14, 15, 16, 1, 17, 18, 19, 20, 21, 22, 23] (by decide +kernel) (by decide +kernel)
set_option maxRecDepth 20000 in
theorem gX7_latch_X7_remembers : GoodIn wsX7_latch (wsV RX7 79 RX7 yX7_remembers wsX7_remembers) := goodIn_app (goodIn_of _ (by decide +kernel)) ggX7_latch_X7_remembers
theorem dX7_latch_0 : decode cX7_latch 0 = .ok (.aload_n 0, 1) := by decide +kernel
theorem dX7_latch_1 : decode cX7_latch 1 = .ok (.invokevirtual 94, 3) := by decide +kernel
theorem dX7_latch_4 : decode cX7_latch 4 = .ok (.istore_n 1, 1) := by decide +kernel
theorem dX7_latch_5 : decode cX7_latch 5 = .ok (.iload_n 1, 1) := by decide +kernel
theorem dX7_latch_6 : decode cX7_latch 6 = .ok (.ifCond .ge 5, 3) := by decide +kernel
theorem dX7_latch_9 : decode cX7_latch 9 = .ok (.iload_n 1, 1) := by decide +kernel
theorem dX7_latch_10 : decode cX7_latch 10 = .ok (.ireturn, 1) := by decide +kernel
theorem dX7_latch_11 : decode cX7_latch 11 = .ok (.aload_n 0, 1) := by decide +kernel
theorem dX7_latch_12 : decode cX7_latch 12 = .ok (.invokevirtual 79, 3) := by decide +kernel
theorem dX7_latch_15 : decode cX7_latch 15 = .ok (.aload_n 0, 1) := by decide +kernel
theorem dX7_latch_16 : decode cX7_latch 16 = .ok (.getfield 7, 3) := by decide +kernel
theorem dX7_latch_19 : decode cX7_latch 19 = .ok (.bipush 6, 2) := by decide +kernel
theorem dX7_latch_21 : decode cX7_latch 21 = .ok (.iconst 1, 1) := by decide +kernel
theorem dX7_latch_22 : decode cX7_latch 22 = .ok (.iastore, 1) := by decide +kernel
theorem dX7_latch_23 : decode cX7_latch 23 = .ok (.iconst 1, 1) := by decide +kernel
theorem dX7_latch_24 : decode cX7_latch 24 = .ok (.ireturn, 1) := by decide +kernel
set_option maxRecDepth 20000 in
theorem ggX7_nextDue_X7_due : GoodIn wsX7_nextDue wsX7_due := goodIn_r _ [5] (by decide +kernel) (by decide +kernel)
set_option maxRecDepth 20000 in
theorem gX7_nextDue_X7_due : GoodIn wsX7_nextDue (va_wsS RX7 38 yX7_due wsX7_due) := goodIn_app (goodIn_of _ (by decide +kernel)) ggX7_nextDue_X7_due
theorem dX7_nextDue_0 : decode cX7_nextDue 0 = .ok (.iconst 0, 1) := by decide +kernel
theorem dX7_nextDue_1 : decode cX7_nextDue 1 = .ok (.istore_n 2, 1) := by decide +kernel
theorem dX7_nextDue_2 : decode cX7_nextDue 2 = .ok (.iload_n 2, 1) := by decide +kernel
theorem dX7_nextDue_3 : decode cX7_nextDue 3 = .ok (.bipush 20, 2) := by decide +kernel
theorem dX7_nextDue_5 : decode cX7_nextDue 5 = .ok (.if_icmp .gt 25, 3) := by decide +kernel
theorem dX7_nextDue_8 : decode cX7_nextDue 8 = .ok (.aload_n 0, 1) := by decide +kernel
theorem dX7_nextDue_9 : decode cX7_nextDue 9 = .ok (.getfield 7, 3) := by decide +kernel
theorem dX7_nextDue_12 : decode cX7_nextDue 12 = .ok (.iconst 0, 1) := by decide +kernel
theorem dX7_nextDue_13 : decode cX7_nextDue 13 = .ok (.iload_n 1, 1) := by decide +kernel
theorem dX7_nextDue_14 : decode cX7_nextDue 14 = .ok (.iload_n 2, 1) := by decide +kernel
theorem dX7_nextDue_15 : decode cX7_nextDue 15 = .ok (.invokestatic 38, 3) := by decide +kernel
theorem dX7_nextDue_18 : decode cX7_nextDue 18 = .ok (.iaload, 1) := by decide +kernel
theorem dX7_nextDue_19 : decode cX7_nextDue 19 = .ok (.ifCond .le 5, 3) := by decide +kernel
theorem dX7_nextDue_22 : decode cX7_nextDue 22 = .ok (.iload_n 2, 1) := by decide +kernel
theorem dX7_nextDue_23 : decode cX7_nextDue 23 = .ok (.ireturn, 1) := by decide +kernel
theorem dX7_nextDue_24 : decode cX7_nextDue 24 = .ok (.iinc 2 1, 3) := by decide +kernel
theorem dX7_nextDue_27 : decode cX7_nextDue 27 = .ok (.goto (-25), 3) := by decide +kernel
theorem dX7_nextDue_30 : decode cX7_nextDue 30 = .ok (.bipush (-6), 2) := by decide +kernel
theorem dX7_nextDue_32 : decode cX7_nextDue 32 = .ok (.ireturn, 1) := by decide +kernel
set_option maxRecDepth 20000 in
theorem ggX7_of_X7_stages : GoodIn wsX7_of wsX7_stages := goodIn_r _ [6, 1, 21, 22, 23, 24, 25, 26, 27] (by decide +kernel) (by decide +kernel)
set_option maxRecDepth 20000 in
theorem gX7_of_X7_stages : GoodIn wsX7_of (wsV RX7 34 RX7 yX7_stages wsX7_stages) := goodIn_app (goodIn_of _ (by decide +kernel)) ggX7_of_X7_stages
set_option maxRecDepth 20000 in
theorem ggX7_of_X7_in : GoodIn wsX7_of wsX7_in := goodIn_r _ [9] (by decide +kernel) (by decide +kernel)
set_option maxRecDepth 20000 in
theorem gX7_of_X7_in : GoodIn wsX7_of (va_wsS RX7 71 yX7_in wsX7_in) := goodIn_app (goodIn_of _ (by decide +kernel)) ggX7_of_X7_in
set_option maxRecDepth 20000 in
theorem ggX7_of_X7_onWay : GoodIn wsX7_of wsX7_onWay := goodIn_r _ [13, 1, 14, 15, 5, 16, 21, 22, 23, 24, 25, 26, 27] (by decide +kernel) (by decide +kernel)
set_option maxRecDepth 20000 in
theorem gX7_of_X7_onWay : GoodIn wsX7_of (wsV RX7 42 RX7 yX7_onWay wsX7_onWay) := goodIn_app (goodIn_of _ (by decide +kernel)) ggX7_of_X7_onWay
set_option maxRecDepth 20000 in
theorem ggX7_of_X7_nextDue : GoodIn wsX7_of wsX7_nextDue := goodIn_r _ [20, 1, 14, 15, 5, 16, 21, 22, 23, 24, 25, 26, 27] (by decide +kernel) (by decide +kernel)
set_option maxRecDepth 20000 in
theorem gX7_of_X7_nextDue : GoodIn wsX7_of (wsV RX7 97 RX7 yX7_nextDue wsX7_nextDue) := goodIn_app (goodIn_of _ (by decide +kernel)) ggX7_of_X7_nextDue
theorem dX7_of_0 : decode cX7_of 0 = .ok (.iload_n 1, 1) := by decide +kernel
theorem dX7_of_1 : decode cX7_of 1 = .ok (.iconst 0, 1) := by decide +kernel
theorem dX7_of_2 : decode cX7_of 2 = .ok (.aload_n 0, 1) := by decide +kernel
theorem dX7_of_3 : decode cX7_of 3 = .ok (.iconst 0, 1) := by decide +kernel
theorem dX7_of_4 : decode cX7_of 4 = .ok (.invokevirtual 34, 3) := by decide +kernel
theorem dX7_of_7 : decode cX7_of 7 = .ok (.iconst 1, 1) := by decide +kernel
theorem dX7_of_8 : decode cX7_of 8 = .ok (.isub, 1) := by decide +kernel
theorem dX7_of_9 : decode cX7_of 9 = .ok (.invokestatic 71, 3) := by decide +kernel
theorem dX7_of_12 : decode cX7_of 12 = .ok (.ifCond .ne 5, 3) := by decide +kernel
theorem dX7_of_15 : decode cX7_of 15 = .ok (.iconst (-1), 1) := by decide +kernel
theorem dX7_of_16 : decode cX7_of 16 = .ok (.ireturn, 1) := by decide +kernel
theorem dX7_of_17 : decode cX7_of 17 = .ok (.iload_n 2, 1) := by decide +kernel
theorem dX7_of_18 : decode cX7_of 18 = .ok (.tableswitch 77 0 4 #[34, 44, 54, 61, 67], 34) := by decide +kernel
theorem dX7_of_52 : decode cX7_of 52 = .ok (.aload_n 0, 1) := by decide +kernel
theorem dX7_of_53 : decode cX7_of 53 = .ok (.getfield 7, 3) := by decide +kernel
theorem dX7_of_56 : decode cX7_of 56 = .ok (.bipush 9, 2) := by decide +kernel
theorem dX7_of_58 : decode cX7_of 58 = .ok (.iload_n 1, 1) := by decide +kernel
theorem dX7_of_59 : decode cX7_of 59 = .ok (.iadd, 1) := by decide +kernel
theorem dX7_of_60 : decode cX7_of 60 = .ok (.iaload, 1) := by decide +kernel
theorem dX7_of_61 : decode cX7_of 61 = .ok (.ireturn, 1) := by decide +kernel
theorem dX7_of_62 : decode cX7_of 62 = .ok (.aload_n 0, 1) := by decide +kernel
theorem dX7_of_63 : decode cX7_of 63 = .ok (.getfield 7, 3) := by decide +kernel
theorem dX7_of_66 : decode cX7_of 66 = .ok (.bipush 14, 2) := by decide +kernel
theorem dX7_of_68 : decode cX7_of 68 = .ok (.iload_n 1, 1) := by decide +kernel
theorem dX7_of_69 : decode cX7_of 69 = .ok (.iadd, 1) := by decide +kernel
theorem dX7_of_70 : decode cX7_of 70 = .ok (.iaload, 1) := by decide +kernel
theorem dX7_of_71 : decode cX7_of 71 = .ok (.ireturn, 1) := by decide +kernel
theorem dX7_of_72 : decode cX7_of 72 = .ok (.aload_n 0, 1) := by decide +kernel
theorem dX7_of_73 : decode cX7_of 73 = .ok (.iconst 0, 1) := by decide +kernel
theorem dX7_of_74 : decode cX7_of 74 = .ok (.iload_n 1, 1) := by decide +kernel
theorem dX7_of_75 : decode cX7_of 75 = .ok (.invokevirtual 42, 3) := by decide +kernel
theorem dX7_of_78 : decode cX7_of 78 = .ok (.ireturn, 1) := by decide +kernel
theorem dX7_of_79 : decode cX7_of 79 = .ok (.aload_n 0, 1) := by decide +kernel
theorem dX7_of_80 : decode cX7_of 80 = .ok (.iload_n 1, 1) := by decide +kernel
theorem dX7_of_81 : decode cX7_of 81 = .ok (.invokevirtual 97, 3) := by decide +kernel
theorem dX7_of_84 : decode cX7_of 84 = .ok (.ireturn, 1) := by decide +kernel
theorem dX7_of_85 : decode cX7_of 85 = .ok (.aload_n 0, 1) := by decide +kernel
theorem dX7_of_86 : decode cX7_of 86 = .ok (.getfield 7, 3) := by decide +kernel
theorem dX7_of_89 : decode cX7_of 89 = .ok (.bipush 19, 2) := by decide +kernel
theorem dX7_of_91 : decode cX7_of 91 = .ok (.iload_n 1, 1) := by decide +kernel
theorem dX7_of_92 : decode cX7_of 92 = .ok (.iadd, 1) := by decide +kernel
theorem dX7_of_93 : decode cX7_of 93 = .ok (.iaload, 1) := by decide +kernel
theorem dX7_of_94 : decode cX7_of 94 = .ok (.ireturn, 1) := by decide +kernel
theorem dX7_of_95 : decode cX7_of 95 = .ok (.bipush (-2), 2) := by decide +kernel
theorem dX7_of_97 : decode cX7_of 97 = .ok (.ireturn, 1) := by decide +kernel
theorem dX7_ofReading_0 : decode cX7_ofReading 0 = .ok (.aload_n 0, 1) := by decide +kernel
theorem dX7_ofReading_1 : decode cX7_ofReading 1 = .ok (.getfield 7, 3) := by decide +kernel
theorem dX7_ofReading_4 : decode cX7_ofReading 4 = .ok (.sipush 129, 3) := by decide +kernel
theorem dX7_ofReading_7 : decode cX7_ofReading 7 = .ok (.iload_n 1, 1) := by decide +kernel
theorem dX7_ofReading_8 : decode cX7_ofReading 8 = .ok (.iadd, 1) := by decide +kernel
theorem dX7_ofReading_9 : decode cX7_ofReading 9 = .ok (.iaload, 1) := by decide +kernel
theorem dX7_ofReading_10 : decode cX7_ofReading 10 = .ok (.istore_n 3, 1) := by decide +kernel
theorem dX7_ofReading_11 : decode cX7_ofReading 11 = .ok (.iload_n 3, 1) := by decide +kernel
theorem dX7_ofReading_12 : decode cX7_ofReading 12 = .ok (.bipush 64, 2) := by decide +kernel
theorem dX7_ofReading_14 : decode cX7_ofReading 14 = .ok (.idiv, 1) := by decide +kernel
theorem dX7_ofReading_15 : decode cX7_ofReading 15 = .ok (.bipush 32, 2) := by decide +kernel
theorem dX7_ofReading_17 : decode cX7_ofReading 17 = .ok (.irem, 1) := by decide +kernel
theorem dX7_ofReading_18 : decode cX7_ofReading 18 = .ok (.istore 4, 2) := by decide +kernel
theorem dX7_ofReading_20 : decode cX7_ofReading 20 = .ok (.iload_n 3, 1) := by decide +kernel
theorem dX7_ofReading_21 : decode cX7_ofReading 21 = .ok (.iconst 2, 1) := by decide +kernel
theorem dX7_ofReading_22 : decode cX7_ofReading 22 = .ok (.idiv, 1) := by decide +kernel
theorem dX7_ofReading_23 : decode cX7_ofReading 23 = .ok (.bipush 32, 2) := by decide +kernel
theorem dX7_ofReading_25 : decode cX7_ofReading 25 = .ok (.irem, 1) := by decide +kernel
theorem dX7_ofReading_26 : decode cX7_ofReading 26 = .ok (.istore 5, 2) := by decide +kernel
theorem dX7_ofReading_28 : decode cX7_ofReading 28 = .ok (.iload_n 2, 1) := by decide +kernel
theorem dX7_ofReading_29 : decode cX7_ofReading 29 = .ok (.tableswitch 47 0 3 #[31, 34, 40, 43], 31) := by decide +kernel
theorem dX7_ofReading_60 : decode cX7_ofReading 60 = .ok (.iload 4, 2) := by decide +kernel
theorem dX7_ofReading_62 : decode cX7_ofReading 62 = .ok (.ireturn, 1) := by decide +kernel
theorem dX7_ofReading_63 : decode cX7_ofReading 63 = .ok (.iload_n 3, 1) := by decide +kernel
theorem dX7_ofReading_64 : decode cX7_ofReading 64 = .ok (.sipush 2048, 3) := by decide +kernel
theorem dX7_ofReading_67 : decode cX7_ofReading 67 = .ok (.idiv, 1) := by decide +kernel
theorem dX7_ofReading_68 : decode cX7_ofReading 68 = .ok (.ireturn, 1) := by decide +kernel
theorem dX7_ofReading_69 : decode cX7_ofReading 69 = .ok (.iload 5, 2) := by decide +kernel
theorem dX7_ofReading_71 : decode cX7_ofReading 71 = .ok (.ireturn, 1) := by decide +kernel
theorem dX7_ofReading_72 : decode cX7_ofReading 72 = .ok (.iload_n 3, 1) := by decide +kernel
theorem dX7_ofReading_73 : decode cX7_ofReading 73 = .ok (.iconst 2, 1) := by decide +kernel
theorem dX7_ofReading_74 : decode cX7_ofReading 74 = .ok (.irem, 1) := by decide +kernel
theorem dX7_ofReading_75 : decode cX7_ofReading 75 = .ok (.ireturn, 1) := by decide +kernel
theorem dX7_ofReading_76 : decode cX7_ofReading 76 = .ok (.iload 4, 2) := by decide +kernel
theorem dX7_ofReading_78 : decode cX7_ofReading 78 = .ok (.iload 5, 2) := by decide +kernel
theorem dX7_ofReading_80 : decode cX7_ofReading 80 = .ok (.if_icmp .ne 7, 3) := by decide +kernel
theorem dX7_ofReading_83 : decode cX7_ofReading 83 = .ok (.iconst 1, 1) := by decide +kernel
theorem dX7_ofReading_84 : decode cX7_ofReading 84 = .ok (.goto 4, 3) := by decide +kernel
theorem dX7_ofReading_87 : decode cX7_ofReading 87 = .ok (.iconst 0, 1) := by decide +kernel
theorem dX7_ofReading_88 : decode cX7_ofReading 88 = .ok (.ireturn, 1) := by decide +kernel
set_option maxRecDepth 20000 in
theorem ggX7_reading_X7_in : GoodIn wsX7_reading wsX7_in := goodIn_r _ [5] (by decide +kernel) (by decide +kernel)
set_option maxRecDepth 20000 in
theorem gX7_reading_X7_in : GoodIn wsX7_reading (va_wsS RX7 71 yX7_in wsX7_in) := goodIn_app (goodIn_of _ (by decide +kernel)) ggX7_reading_X7_in
set_option maxRecDepth 20000 in
theorem ggX7_reading_X7_ofReading : GoodIn wsX7_reading wsX7_ofReading := goodIn_r _ [9, 1, 10, 11, 12, 13, 14, 15, 16] (by decide +kernel) (by decide +kernel)
set_option maxRecDepth 20000 in
theorem gX7_reading_X7_ofReading : GoodIn wsX7_reading (wsV RX7 100 RX7 yX7_ofReading wsX7_ofReading) := goodIn_app (goodIn_of _ (by decide +kernel)) ggX7_reading_X7_ofReading
theorem dX7_reading_0 : decode cX7_reading 0 = .ok (.iload_n 1, 1) := by decide +kernel
theorem dX7_reading_1 : decode cX7_reading 1 = .ok (.iconst 0, 1) := by decide +kernel
theorem dX7_reading_2 : decode cX7_reading 2 = .ok (.aload_n 0, 1) := by decide +kernel
theorem dX7_reading_3 : decode cX7_reading 3 = .ok (.getfield 7, 3) := by decide +kernel
theorem dX7_reading_6 : decode cX7_reading 6 = .ok (.bipush 7, 2) := by decide +kernel
theorem dX7_reading_8 : decode cX7_reading 8 = .ok (.iaload, 1) := by decide +kernel
theorem dX7_reading_9 : decode cX7_reading 9 = .ok (.iconst 1, 1) := by decide +kernel
theorem dX7_reading_10 : decode cX7_reading 10 = .ok (.isub, 1) := by decide +kernel
theorem dX7_reading_11 : decode cX7_reading 11 = .ok (.invokestatic 71, 3) := by decide +kernel
theorem dX7_reading_14 : decode cX7_reading 14 = .ok (.ifCond .ne 5, 3) := by decide +kernel
theorem dX7_reading_17 : decode cX7_reading 17 = .ok (.iconst (-1), 1) := by decide +kernel
theorem dX7_reading_18 : decode cX7_reading 18 = .ok (.ireturn, 1) := by decide +kernel
theorem dX7_reading_19 : decode cX7_reading 19 = .ok (.iload_n 2, 1) := by decide +kernel
theorem dX7_reading_20 : decode cX7_reading 20 = .ok (.iconst 0, 1) := by decide +kernel
theorem dX7_reading_21 : decode cX7_reading 21 = .ok (.iconst 4, 1) := by decide +kernel
theorem dX7_reading_22 : decode cX7_reading 22 = .ok (.invokestatic 71, 3) := by decide +kernel
theorem dX7_reading_25 : decode cX7_reading 25 = .ok (.ifCond .eq 12, 3) := by decide +kernel
theorem dX7_reading_28 : decode cX7_reading 28 = .ok (.aload_n 0, 1) := by decide +kernel
theorem dX7_reading_29 : decode cX7_reading 29 = .ok (.iload_n 1, 1) := by decide +kernel
theorem dX7_reading_30 : decode cX7_reading 30 = .ok (.iload_n 2, 1) := by decide +kernel
theorem dX7_reading_31 : decode cX7_reading 31 = .ok (.invokevirtual 100, 3) := by decide +kernel
theorem dX7_reading_34 : decode cX7_reading 34 = .ok (.goto 5, 3) := by decide +kernel
theorem dX7_reading_37 : decode cX7_reading 37 = .ok (.bipush (-2), 2) := by decide +kernel
theorem dX7_reading_39 : decode cX7_reading 39 = .ok (.ireturn, 1) := by decide +kernel
set_option maxRecDepth 20000 in
theorem ggX7_seen_X7_in : GoodIn wsX7_seen wsX7_in := goodIn_r _ [5] (by decide +kernel) (by decide +kernel)
set_option maxRecDepth 20000 in
theorem gX7_seen_X7_in : GoodIn wsX7_seen (va_wsS RX7 71 yX7_in wsX7_in) := goodIn_app (goodIn_of _ (by decide +kernel)) ggX7_seen_X7_in
theorem dX7_seen_0 : decode cX7_seen 0 = .ok (.iload_n 1, 1) := by decide +kernel
theorem dX7_seen_1 : decode cX7_seen 1 = .ok (.iconst 0, 1) := by decide +kernel
theorem dX7_seen_2 : decode cX7_seen 2 = .ok (.aload_n 0, 1) := by decide +kernel
theorem dX7_seen_3 : decode cX7_seen 3 = .ok (.getfield 7, 3) := by decide +kernel
theorem dX7_seen_6 : decode cX7_seen 6 = .ok (.bipush 8, 2) := by decide +kernel
theorem dX7_seen_8 : decode cX7_seen 8 = .ok (.iaload, 1) := by decide +kernel
theorem dX7_seen_9 : decode cX7_seen 9 = .ok (.iconst 1, 1) := by decide +kernel
theorem dX7_seen_10 : decode cX7_seen 10 = .ok (.isub, 1) := by decide +kernel
theorem dX7_seen_11 : decode cX7_seen 11 = .ok (.invokestatic 71, 3) := by decide +kernel
theorem dX7_seen_14 : decode cX7_seen 14 = .ok (.ifCond .ne 5, 3) := by decide +kernel
theorem dX7_seen_17 : decode cX7_seen 17 = .ok (.iconst (-1), 1) := by decide +kernel
theorem dX7_seen_18 : decode cX7_seen 18 = .ok (.ireturn, 1) := by decide +kernel
theorem dX7_seen_19 : decode cX7_seen 19 = .ok (.iload_n 2, 1) := by decide +kernel
theorem dX7_seen_20 : decode cX7_seen 20 = .ok (.iconst 0, 1) := by decide +kernel
theorem dX7_seen_21 : decode cX7_seen 21 = .ok (.iconst 3, 1) := by decide +kernel
theorem dX7_seen_22 : decode cX7_seen 22 = .ok (.invokestatic 71, 3) := by decide +kernel
theorem dX7_seen_25 : decode cX7_seen 25 = .ok (.ifCond .eq 20, 3) := by decide +kernel
theorem dX7_seen_28 : decode cX7_seen 28 = .ok (.aload_n 0, 1) := by decide +kernel
theorem dX7_seen_29 : decode cX7_seen 29 = .ok (.getfield 7, 3) := by decide +kernel
theorem dX7_seen_32 : decode cX7_seen 32 = .ok (.sipush 228, 3) := by decide +kernel
theorem dX7_seen_35 : decode cX7_seen 35 = .ok (.iconst 4, 1) := by decide +kernel
theorem dX7_seen_36 : decode cX7_seen 36 = .ok (.iload_n 1, 1) := by decide +kernel
theorem dX7_seen_37 : decode cX7_seen 37 = .ok (.imul, 1) := by decide +kernel
theorem dX7_seen_38 : decode cX7_seen 38 = .ok (.iadd, 1) := by decide +kernel
theorem dX7_seen_39 : decode cX7_seen 39 = .ok (.iload_n 2, 1) := by decide +kernel
theorem dX7_seen_40 : decode cX7_seen 40 = .ok (.iadd, 1) := by decide +kernel
theorem dX7_seen_41 : decode cX7_seen 41 = .ok (.iaload, 1) := by decide +kernel
theorem dX7_seen_42 : decode cX7_seen 42 = .ok (.goto 5, 3) := by decide +kernel
theorem dX7_seen_45 : decode cX7_seen 45 = .ok (.bipush (-2), 2) := by decide +kernel
theorem dX7_seen_47 : decode cX7_seen 47 = .ok (.ireturn, 1) := by decide +kernel
set_option maxRecDepth 20000 in
theorem ggX7_trueReadings_X7_ofReading : GoodIn wsX7_trueReadings wsX7_ofReading := goodIn_r _ [6, 1, 7, 8, 9, 10, 11, 12, 13] (by decide +kernel) (by decide +kernel)
set_option maxRecDepth 20000 in
theorem gX7_trueReadings_X7_ofReading : GoodIn wsX7_trueReadings (wsV RX7 100 RX7 yX7_ofReading wsX7_ofReading) := goodIn_app (goodIn_of _ (by decide +kernel)) ggX7_trueReadings_X7_ofReading
theorem dX7_trueReadings_0 : decode cX7_trueReadings 0 = .ok (.iconst 0, 1) := by decide +kernel
theorem dX7_trueReadings_1 : decode cX7_trueReadings 1 = .ok (.istore_n 1, 1) := by decide +kernel
theorem dX7_trueReadings_2 : decode cX7_trueReadings 2 = .ok (.iconst 0, 1) := by decide +kernel
theorem dX7_trueReadings_3 : decode cX7_trueReadings 3 = .ok (.istore_n 2, 1) := by decide +kernel
theorem dX7_trueReadings_4 : decode cX7_trueReadings 4 = .ok (.iload_n 2, 1) := by decide +kernel
theorem dX7_trueReadings_5 : decode cX7_trueReadings 5 = .ok (.aload_n 0, 1) := by decide +kernel
theorem dX7_trueReadings_6 : decode cX7_trueReadings 6 = .ok (.getfield 7, 3) := by decide +kernel
theorem dX7_trueReadings_9 : decode cX7_trueReadings 9 = .ok (.bipush 7, 2) := by decide +kernel
theorem dX7_trueReadings_11 : decode cX7_trueReadings 11 = .ok (.iaload, 1) := by decide +kernel
theorem dX7_trueReadings_12 : decode cX7_trueReadings 12 = .ok (.if_icmp .ge 18, 3) := by decide +kernel
theorem dX7_trueReadings_15 : decode cX7_trueReadings 15 = .ok (.iload_n 1, 1) := by decide +kernel
theorem dX7_trueReadings_16 : decode cX7_trueReadings 16 = .ok (.aload_n 0, 1) := by decide +kernel
theorem dX7_trueReadings_17 : decode cX7_trueReadings 17 = .ok (.iload_n 2, 1) := by decide +kernel
theorem dX7_trueReadings_18 : decode cX7_trueReadings 18 = .ok (.iconst 4, 1) := by decide +kernel
theorem dX7_trueReadings_19 : decode cX7_trueReadings 19 = .ok (.invokevirtual 100, 3) := by decide +kernel
theorem dX7_trueReadings_22 : decode cX7_trueReadings 22 = .ok (.iadd, 1) := by decide +kernel
theorem dX7_trueReadings_23 : decode cX7_trueReadings 23 = .ok (.istore_n 1, 1) := by decide +kernel
theorem dX7_trueReadings_24 : decode cX7_trueReadings 24 = .ok (.iinc 2 1, 3) := by decide +kernel
theorem dX7_trueReadings_27 : decode cX7_trueReadings 27 = .ok (.goto (-23), 3) := by decide +kernel
theorem dX7_trueReadings_30 : decode cX7_trueReadings 30 = .ok (.iload_n 1, 1) := by decide +kernel
theorem dX7_trueReadings_31 : decode cX7_trueReadings 31 = .ok (.ireturn, 1) := by decide +kernel
theorem dX7_numbers_0 : decode cX7_numbers 0 = .ok (.iconst 0, 1) := by decide +kernel
theorem dX7_numbers_1 : decode cX7_numbers 1 = .ok (.istore_n 2, 1) := by decide +kernel
theorem dX7_numbers_2 : decode cX7_numbers 2 = .ok (.iconst 0, 1) := by decide +kernel
theorem dX7_numbers_3 : decode cX7_numbers 3 = .ok (.istore_n 3, 1) := by decide +kernel
theorem dX7_numbers_4 : decode cX7_numbers 4 = .ok (.iload_n 3, 1) := by decide +kernel
theorem dX7_numbers_5 : decode cX7_numbers 5 = .ok (.aload_n 0, 1) := by decide +kernel
theorem dX7_numbers_6 : decode cX7_numbers 6 = .ok (.getfield 7, 3) := by decide +kernel
theorem dX7_numbers_9 : decode cX7_numbers 9 = .ok (.bipush 8, 2) := by decide +kernel
theorem dX7_numbers_11 : decode cX7_numbers 11 = .ok (.iaload, 1) := by decide +kernel
theorem dX7_numbers_12 : decode cX7_numbers 12 = .ok (.if_icmp .ge 47, 3) := by decide +kernel
theorem dX7_numbers_15 : decode cX7_numbers 15 = .ok (.iload_n 2, 1) := by decide +kernel
theorem dX7_numbers_16 : decode cX7_numbers 16 = .ok (.aload_n 0, 1) := by decide +kernel
theorem dX7_numbers_17 : decode cX7_numbers 17 = .ok (.getfield 7, 3) := by decide +kernel
theorem dX7_numbers_20 : decode cX7_numbers 20 = .ok (.sipush 228, 3) := by decide +kernel
theorem dX7_numbers_23 : decode cX7_numbers 23 = .ok (.iconst 4, 1) := by decide +kernel
theorem dX7_numbers_24 : decode cX7_numbers 24 = .ok (.iload_n 3, 1) := by decide +kernel
theorem dX7_numbers_25 : decode cX7_numbers 25 = .ok (.imul, 1) := by decide +kernel
theorem dX7_numbers_26 : decode cX7_numbers 26 = .ok (.iadd, 1) := by decide +kernel
theorem dX7_numbers_27 : decode cX7_numbers 27 = .ok (.iload_n 1, 1) := by decide +kernel
theorem dX7_numbers_28 : decode cX7_numbers 28 = .ok (.iadd, 1) := by decide +kernel
theorem dX7_numbers_29 : decode cX7_numbers 29 = .ok (.iaload, 1) := by decide +kernel
theorem dX7_numbers_30 : decode cX7_numbers 30 = .ok (.ifCond .le 20, 3) := by decide +kernel
theorem dX7_numbers_33 : decode cX7_numbers 33 = .ok (.iconst 1, 1) := by decide +kernel
theorem dX7_numbers_34 : decode cX7_numbers 34 = .ok (.aload_n 0, 1) := by decide +kernel
theorem dX7_numbers_35 : decode cX7_numbers 35 = .ok (.getfield 7, 3) := by decide +kernel
theorem dX7_numbers_38 : decode cX7_numbers 38 = .ok (.sipush 228, 3) := by decide +kernel
theorem dX7_numbers_41 : decode cX7_numbers 41 = .ok (.iconst 4, 1) := by decide +kernel
theorem dX7_numbers_42 : decode cX7_numbers 42 = .ok (.iload_n 3, 1) := by decide +kernel
theorem dX7_numbers_43 : decode cX7_numbers 43 = .ok (.imul, 1) := by decide +kernel
theorem dX7_numbers_44 : decode cX7_numbers 44 = .ok (.iadd, 1) := by decide +kernel
theorem dX7_numbers_45 : decode cX7_numbers 45 = .ok (.iaload, 1) := by decide +kernel
theorem dX7_numbers_46 : decode cX7_numbers 46 = .ok (.ishl, 1) := by decide +kernel
theorem dX7_numbers_47 : decode cX7_numbers 47 = .ok (.goto 4, 3) := by decide +kernel
theorem dX7_numbers_50 : decode cX7_numbers 50 = .ok (.iconst 0, 1) := by decide +kernel
theorem dX7_numbers_51 : decode cX7_numbers 51 = .ok (.ior, 1) := by decide +kernel
theorem dX7_numbers_52 : decode cX7_numbers 52 = .ok (.istore_n 2, 1) := by decide +kernel
theorem dX7_numbers_53 : decode cX7_numbers 53 = .ok (.iinc 3 1, 3) := by decide +kernel
theorem dX7_numbers_56 : decode cX7_numbers 56 = .ok (.goto (-52), 3) := by decide +kernel
theorem dX7_numbers_59 : decode cX7_numbers 59 = .ok (.iload_n 2, 1) := by decide +kernel
theorem dX7_numbers_60 : decode cX7_numbers 60 = .ok (.ireturn, 1) := by decide +kernel
set_option maxRecDepth 20000 in
theorem ggX7_count_X7_shows : GoodIn wsX7_count wsX7_shows := goodIn_r _ [8, 1, 9, 10, 11, 7, 12, 36, 37, 38, 39, 40, 41, 42] (by decide +kernel) (by decide +kernel)
set_option maxRecDepth 20000 in
theorem gX7_count_X7_shows : GoodIn wsX7_count (wsV RX7 50 RX7 yX7_shows wsX7_shows) := goodIn_app (goodIn_of _ (by decide +kernel)) ggX7_count_X7_shows
set_option maxRecDepth 20000 in
theorem ggX7_count_X7_allOnWay : GoodIn wsX7_count wsX7_allOnWay := goodIn_r _ [16, 9, 10, 11, 7, 12, 1, 17, 18, 19, 20, 21, 22, 23, 36, 37, 38, 39, 40, 41, 42] (by decide +kernel) (by decide +kernel)
set_option maxRecDepth 20000 in
theorem gX7_count_X7_allOnWay : GoodIn wsX7_count (wsV RX7 59 RX7 yX7_allOnWay wsX7_allOnWay) := goodIn_app (goodIn_of _ (by decide +kernel)) ggX7_count_X7_allOnWay
set_option maxRecDepth 20000 in
theorem ggX7_count_X7_trueReadings : GoodIn wsX7_count wsX7_trueReadings := goodIn_r _ [27, 1, 28, 29, 30, 7, 31, 36, 37, 38, 39, 40, 41, 42] (by decide +kernel) (by decide +kernel)
set_option maxRecDepth 20000 in
theorem gX7_count_X7_trueReadings : GoodIn wsX7_count (wsV RX7 103 RX7 yX7_trueReadings wsX7_trueReadings) := goodIn_app (goodIn_of _ (by decide +kernel)) ggX7_count_X7_trueReadings
set_option maxRecDepth 20000 in
theorem ggX7_count_X7_numbers : GoodIn wsX7_count wsX7_numbers := goodIn_r _ [35, 1, 36, 37, 38, 39, 40, 41, 42] (by decide +kernel) (by decide +kernel)
set_option maxRecDepth 20000 in
theorem gX7_count_X7_numbers : GoodIn wsX7_count (wsV RX7 106 RX7 yX7_numbers wsX7_numbers) := goodIn_app (goodIn_of _ (by decide +kernel)) ggX7_count_X7_numbers
theorem dX7_count_0 : decode cX7_count 0 = .ok (.iload_n 1, 1) := by decide +kernel
theorem dX7_count_1 : decode cX7_count 1 = .ok (.tableswitch 182 0 13 #[71, 78, 84, 91, 97, 105, 110, 110, 118, 152, 160, 160, 172, 177], 71) := by decide +kernel
theorem dX7_count_72 : decode cX7_count 72 = .ok (.aload_n 0, 1) := by decide +kernel
theorem dX7_count_73 : decode cX7_count 73 = .ok (.getfield 7, 3) := by decide +kernel
theorem dX7_count_76 : decode cX7_count 76 = .ok (.iconst 2, 1) := by decide +kernel
theorem dX7_count_77 : decode cX7_count 77 = .ok (.iaload, 1) := by decide +kernel
theorem dX7_count_78 : decode cX7_count 78 = .ok (.ireturn, 1) := by decide +kernel
theorem dX7_count_79 : decode cX7_count 79 = .ok (.aload_n 0, 1) := by decide +kernel
theorem dX7_count_80 : decode cX7_count 80 = .ok (.iconst 0, 1) := by decide +kernel
theorem dX7_count_81 : decode cX7_count 81 = .ok (.invokevirtual 50, 3) := by decide +kernel
theorem dX7_count_84 : decode cX7_count 84 = .ok (.ireturn, 1) := by decide +kernel
theorem dX7_count_85 : decode cX7_count 85 = .ok (.aload_n 0, 1) := by decide +kernel
theorem dX7_count_86 : decode cX7_count 86 = .ok (.getfield 7, 3) := by decide +kernel
theorem dX7_count_89 : decode cX7_count 89 = .ok (.iconst 3, 1) := by decide +kernel
theorem dX7_count_90 : decode cX7_count 90 = .ok (.iaload, 1) := by decide +kernel
theorem dX7_count_91 : decode cX7_count 91 = .ok (.ireturn, 1) := by decide +kernel
theorem dX7_count_92 : decode cX7_count 92 = .ok (.aload_n 0, 1) := by decide +kernel
theorem dX7_count_93 : decode cX7_count 93 = .ok (.iconst 0, 1) := by decide +kernel
theorem dX7_count_94 : decode cX7_count 94 = .ok (.invokevirtual 59, 3) := by decide +kernel
theorem dX7_count_97 : decode cX7_count 97 = .ok (.ireturn, 1) := by decide +kernel
theorem dX7_count_98 : decode cX7_count 98 = .ok (.aload_n 0, 1) := by decide +kernel
theorem dX7_count_99 : decode cX7_count 99 = .ok (.getfield 7, 3) := by decide +kernel
theorem dX7_count_102 : decode cX7_count 102 = .ok (.bipush 7, 2) := by decide +kernel
theorem dX7_count_104 : decode cX7_count 104 = .ok (.iaload, 1) := by decide +kernel
theorem dX7_count_105 : decode cX7_count 105 = .ok (.ireturn, 1) := by decide +kernel
theorem dX7_count_106 : decode cX7_count 106 = .ok (.aload_n 0, 1) := by decide +kernel
theorem dX7_count_107 : decode cX7_count 107 = .ok (.invokevirtual 103, 3) := by decide +kernel
theorem dX7_count_110 : decode cX7_count 110 = .ok (.ireturn, 1) := by decide +kernel
theorem dX7_count_111 : decode cX7_count 111 = .ok (.aload_n 0, 1) := by decide +kernel
theorem dX7_count_112 : decode cX7_count 112 = .ok (.iload_n 1, 1) := by decide +kernel
theorem dX7_count_113 : decode cX7_count 113 = .ok (.iconst 5, 1) := by decide +kernel
theorem dX7_count_114 : decode cX7_count 114 = .ok (.isub, 1) := by decide +kernel
theorem dX7_count_115 : decode cX7_count 115 = .ok (.invokevirtual 106, 3) := by decide +kernel
theorem dX7_count_118 : decode cX7_count 118 = .ok (.ireturn, 1) := by decide +kernel
theorem dX7_count_119 : decode cX7_count 119 = .ok (.aload_n 0, 1) := by decide +kernel
theorem dX7_count_120 : decode cX7_count 120 = .ok (.getfield 7, 3) := by decide +kernel
theorem dX7_count_123 : decode cX7_count 123 = .ok (.iconst 5, 1) := by decide +kernel
theorem dX7_count_124 : decode cX7_count 124 = .ok (.iaload, 1) := by decide +kernel
theorem dX7_count_125 : decode cX7_count 125 = .ok (.ifCond .ge 12, 3) := by decide +kernel
theorem dX7_count_128 : decode cX7_count 128 = .ok (.aload_n 0, 1) := by decide +kernel
theorem dX7_count_129 : decode cX7_count 129 = .ok (.getfield 7, 3) := by decide +kernel
theorem dX7_count_132 : decode cX7_count 132 = .ok (.iconst 2, 1) := by decide +kernel
theorem dX7_count_133 : decode cX7_count 133 = .ok (.iaload, 1) := by decide +kernel
theorem dX7_count_134 : decode cX7_count 134 = .ok (.goto 18, 3) := by decide +kernel
theorem dX7_count_137 : decode cX7_count 137 = .ok (.aload_n 0, 1) := by decide +kernel
theorem dX7_count_138 : decode cX7_count 138 = .ok (.getfield 7, 3) := by decide +kernel
theorem dX7_count_141 : decode cX7_count 141 = .ok (.iconst 2, 1) := by decide +kernel
theorem dX7_count_142 : decode cX7_count 142 = .ok (.iaload, 1) := by decide +kernel
theorem dX7_count_143 : decode cX7_count 143 = .ok (.aload_n 0, 1) := by decide +kernel
theorem dX7_count_144 : decode cX7_count 144 = .ok (.getfield 7, 3) := by decide +kernel
theorem dX7_count_147 : decode cX7_count 147 = .ok (.iconst 5, 1) := by decide +kernel
theorem dX7_count_148 : decode cX7_count 148 = .ok (.iaload, 1) := by decide +kernel
theorem dX7_count_149 : decode cX7_count 149 = .ok (.isub, 1) := by decide +kernel
theorem dX7_count_150 : decode cX7_count 150 = .ok (.iconst 1, 1) := by decide +kernel
theorem dX7_count_151 : decode cX7_count 151 = .ok (.isub, 1) := by decide +kernel
theorem dX7_count_152 : decode cX7_count 152 = .ok (.ireturn, 1) := by decide +kernel
theorem dX7_count_153 : decode cX7_count 153 = .ok (.aload_n 0, 1) := by decide +kernel
theorem dX7_count_154 : decode cX7_count 154 = .ok (.getfield 7, 3) := by decide +kernel
theorem dX7_count_157 : decode cX7_count 157 = .ok (.bipush 6, 2) := by decide +kernel
theorem dX7_count_159 : decode cX7_count 159 = .ok (.iaload, 1) := by decide +kernel
theorem dX7_count_160 : decode cX7_count 160 = .ok (.ireturn, 1) := by decide +kernel
theorem dX7_count_161 : decode cX7_count 161 = .ok (.aload_n 0, 1) := by decide +kernel
theorem dX7_count_162 : decode cX7_count 162 = .ok (.getfield 7, 3) := by decide +kernel
theorem dX7_count_165 : decode cX7_count 165 = .ok (.iconst 0, 1) := by decide +kernel
theorem dX7_count_166 : decode cX7_count 166 = .ok (.iload_n 1, 1) := by decide +kernel
theorem dX7_count_167 : decode cX7_count 167 = .ok (.iadd, 1) := by decide +kernel
theorem dX7_count_168 : decode cX7_count 168 = .ok (.bipush 10, 2) := by decide +kernel
theorem dX7_count_170 : decode cX7_count 170 = .ok (.isub, 1) := by decide +kernel
theorem dX7_count_171 : decode cX7_count 171 = .ok (.iaload, 1) := by decide +kernel
theorem dX7_count_172 : decode cX7_count 172 = .ok (.ireturn, 1) := by decide +kernel
theorem dX7_count_173 : decode cX7_count 173 = .ok (.aload_n 0, 1) := by decide +kernel
theorem dX7_count_174 : decode cX7_count 174 = .ok (.getfield 109, 3) := by decide +kernel
theorem dX7_count_177 : decode cX7_count 177 = .ok (.ireturn, 1) := by decide +kernel
theorem dX7_count_178 : decode cX7_count 178 = .ok (.aload_n 0, 1) := by decide +kernel
theorem dX7_count_179 : decode cX7_count 179 = .ok (.getfield 30, 3) := by decide +kernel
theorem dX7_count_182 : decode cX7_count 182 = .ok (.ireturn, 1) := by decide +kernel
theorem dX7_count_183 : decode cX7_count 183 = .ok (.bipush (-2), 2) := by decide +kernel
theorem dX7_count_185 : decode cX7_count 185 = .ok (.ireturn, 1) := by decide +kernel
set_option maxRecDepth 20000 in
theorem ggX7_stillIn_X7_copies : GoodIn wsX7_stillIn wsX7_copies := goodIn_r _ [5, 6, 46, 47, 48, 49, 50, 51, 52] (by decide +kernel) (by decide +kernel)
set_option maxRecDepth 20000 in
theorem gX7_stillIn_X7_copies : GoodIn wsX7_stillIn (wsV RX7 112 RX7 yX7_copies wsX7_copies) := goodIn_app (goodIn_of _ (by decide +kernel)) ggX7_stillIn_X7_copies
set_option maxRecDepth 20000 in
theorem ggX7_stillIn_X7_allOnWay : GoodIn wsX7_stillIn wsX7_allOnWay := goodIn_r _ [10, 11, 12, 13, 4, 14, 6, 15, 16, 17, 18, 19, 20, 21, 46, 47, 48, 49, 50, 51, 52] (by decide +kernel) (by decide +kernel)
set_option maxRecDepth 20000 in
theorem gX7_stillIn_X7_allOnWay : GoodIn wsX7_stillIn (wsV RX7 59 RX7 yX7_allOnWay wsX7_allOnWay) := goodIn_app (goodIn_of _ (by decide +kernel)) ggX7_stillIn_X7_allOnWay
set_option maxRecDepth 20000 in
theorem ggX7_stillIn_X7_passesOne : GoodIn wsX7_stillIn wsX7_passesOne := goodIn_r _ [25, 6, 11, 12, 13, 4, 14, 19, 20, 21, 26, 27, 28, 29, 30, 31, 32, 33, 34, 35, 36, 37, 38, 39, 40, 41, 7, 8, 9, 10, 15, 16, 17, 18, 42, 43, 44, 45, 46, 47, 48, 49, 50, 51, 52] (by decide +kernel) (by decide +kernel)
set_option maxRecDepth 20000 in
theorem gX7_stillIn_X7_passesOne : GoodIn wsX7_stillIn (wsV RX7 65 RX7 yX7_passesOne wsX7_passesOne) := goodIn_app (goodIn_of _ (by decide +kernel)) ggX7_stillIn_X7_passesOne
theorem dX7_stillIn_0 : decode cX7_stillIn 0 = .ok (.aload_n 0, 1) := by decide +kernel
theorem dX7_stillIn_1 : decode cX7_stillIn 1 = .ok (.invokevirtual 112, 3) := by decide +kernel
theorem dX7_stillIn_4 : decode cX7_stillIn 4 = .ok (.iconst 0, 1) := by decide +kernel
theorem dX7_stillIn_5 : decode cX7_stillIn 5 = .ok (.istore_n 1, 1) := by decide +kernel
theorem dX7_stillIn_6 : decode cX7_stillIn 6 = .ok (.aload_n 0, 1) := by decide +kernel
theorem dX7_stillIn_7 : decode cX7_stillIn 7 = .ok (.sipush 356, 3) := by decide +kernel
theorem dX7_stillIn_10 : decode cX7_stillIn 10 = .ok (.invokevirtual 59, 3) := by decide +kernel
theorem dX7_stillIn_13 : decode cX7_stillIn 13 = .ok (.ifCond .le 17, 3) := by decide +kernel
