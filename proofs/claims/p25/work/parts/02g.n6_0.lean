set_option maxRecDepth 20000 in
theorem ggX6_init_X0_init : GoodIn wsX6_init wsX0_init := goodIn_r _ [24, 25, 2, 3, 26, 16, 17, 27, 28, 29, 30, 31, 32, 33, 34, 35, 36, 37, 38, 39, 40, 41, 42, 43, 44, 45, 46, 47, 48, 49, 50, 51, 52, 53, 54, 55, 56, 57, 58, 59, 60, 61, 62, 63, 64, 65, 94, 95, 96, 97, 98, 99, 100, 77, 78, 79, 80, 81, 82, 83, 84, 103, 104, 105, 106, 107, 108, 109, 110, 111, 112] (by decide +kernel) (by decide +kernel)
set_option maxRecDepth 20000 in
theorem gX6_init_X0_init_n11 : GoodIn wsX6_init (wsX0_init) := ggX6_init_X0_init
set_option maxRecDepth 20000 in
theorem ggX6_init_X1_init : GoodIn wsX6_init wsX1_init := goodIn_r _ [68, 69, 2, 3, 70, 71, 5, 6, 23, 24, 25, 26, 16, 17, 27, 28, 29, 30, 31, 32, 33, 34, 35, 36, 37, 38, 39, 40, 41, 42, 43, 44, 45, 46, 47, 48, 49, 50, 51, 52, 53, 54, 55, 56, 57, 58, 59, 60, 61, 62, 63, 64, 65, 91, 92, 93, 77, 78, 79, 80, 81, 82, 83, 84, 94, 95, 96, 97, 98, 99, 100, 103, 104, 105, 106, 107, 108, 109, 110, 111, 112] (by decide +kernel) (by decide +kernel)
set_option maxRecDepth 20000 in
theorem gX6_init_X1_init : GoodIn wsX6_init (wsX1_init) := ggX6_init_X1_init
set_option maxRecDepth 20000 in
theorem ggX6_init_X5_init : GoodIn wsX6_init wsX5_init := goodIn_r _ [41, 42, 2, 3, 43, 44, 45, 46, 47, 48, 49, 50, 51, 94, 95, 96, 97, 98, 99, 100] (by decide +kernel) (by decide +kernel)
set_option maxRecDepth 20000 in
theorem gX6_init_X5_init : GoodIn wsX6_init (wsX5_init) := ggX6_init_X5_init
set_option maxRecDepth 20000 in
theorem ggX6_init_X2_init : GoodIn wsX6_init wsX2_init := goodIn_r _ [74, 75, 2, 3, 44, 76, 101, 102] (by decide +kernel) (by decide +kernel)
set_option maxRecDepth 20000 in
theorem gX6_init_X2_init_n40 : GoodIn wsX6_init (wsX2_init) := ggX6_init_X2_init
theorem dX6_init_0 : decode cX6_init 0 = .ok (.aload_n 0, 1) := by decide +kernel
theorem dX6_init_1 : decode cX6_init 1 = .ok (.invokespecial 3, 3) := by decide +kernel
theorem dX6_init_4 : decode cX6_init 4 = .ok (.aload_n 0, 1) := by decide +kernel
theorem dX6_init_5 : decode cX6_init 5 = .ok (.new 9, 3) := by decide +kernel
theorem dX6_init_8 : decode cX6_init 8 = .ok (.dup, 1) := by decide +kernel
theorem dX6_init_9 : decode cX6_init 9 = .ok (.invokespecial 11, 3) := by decide +kernel
theorem dX6_init_12 : decode cX6_init 12 = .ok (.putfield 12, 3) := by decide +kernel
theorem dX6_init_15 : decode cX6_init 15 = .ok (.aload_n 0, 1) := by decide +kernel
theorem dX6_init_16 : decode cX6_init 16 = .ok (.new 16, 3) := by decide +kernel
theorem dX6_init_19 : decode cX6_init 19 = .ok (.dup, 1) := by decide +kernel
theorem dX6_init_20 : decode cX6_init 20 = .ok (.invokespecial 18, 3) := by decide +kernel
theorem dX6_init_23 : decode cX6_init 23 = .ok (.putfield 19, 3) := by decide +kernel
theorem dX6_init_26 : decode cX6_init 26 = .ok (.aload_n 0, 1) := by decide +kernel
theorem dX6_init_27 : decode cX6_init 27 = .ok (.iconst 2, 1) := by decide +kernel
theorem dX6_init_28 : decode cX6_init 28 = .ok (.anewarray 9, 3) := by decide +kernel
theorem dX6_init_31 : decode cX6_init 31 = .ok (.putfield 23, 3) := by decide +kernel
theorem dX6_init_34 : decode cX6_init 34 = .ok (.aload_n 0, 1) := by decide +kernel
theorem dX6_init_35 : decode cX6_init 35 = .ok (.iconst 2, 1) := by decide +kernel
theorem dX6_init_36 : decode cX6_init 36 = .ok (.newarray .boolean, 2) := by decide +kernel
theorem dX6_init_38 : decode cX6_init 38 = .ok (.putfield 27, 3) := by decide +kernel
theorem dX6_init_41 : decode cX6_init 41 = .ok (.aload_n 0, 1) := by decide +kernel
theorem dX6_init_42 : decode cX6_init 42 = .ok (.new 31, 3) := by decide +kernel
theorem dX6_init_45 : decode cX6_init 45 = .ok (.dup, 1) := by decide +kernel
theorem dX6_init_46 : decode cX6_init 46 = .ok (.invokespecial 33, 3) := by decide +kernel
theorem dX6_init_49 : decode cX6_init 49 = .ok (.putfield 34, 3) := by decide +kernel
theorem dX6_init_52 : decode cX6_init 52 = .ok (.aload_n 0, 1) := by decide +kernel
theorem dX6_init_53 : decode cX6_init 53 = .ok (.new 38, 3) := by decide +kernel
theorem dX6_init_56 : decode cX6_init 56 = .ok (.dup, 1) := by decide +kernel
theorem dX6_init_57 : decode cX6_init 57 = .ok (.invokespecial 40, 3) := by decide +kernel
theorem dX6_init_60 : decode cX6_init 60 = .ok (.putfield 41, 3) := by decide +kernel
theorem dX6_init_63 : decode cX6_init 63 = .ok (.iconst 0, 1) := by decide +kernel
theorem dX6_init_64 : decode cX6_init 64 = .ok (.istore_n 1, 1) := by decide +kernel
theorem dX6_init_65 : decode cX6_init 65 = .ok (.iload_n 1, 1) := by decide +kernel
theorem dX6_init_66 : decode cX6_init 66 = .ok (.iconst 2, 1) := by decide +kernel
theorem dX6_init_67 : decode cX6_init 67 = .ok (.if_icmp .ge 22, 3) := by decide +kernel
theorem dX6_init_70 : decode cX6_init 70 = .ok (.aload_n 0, 1) := by decide +kernel
theorem dX6_init_71 : decode cX6_init 71 = .ok (.getfield 23, 3) := by decide +kernel
theorem dX6_init_74 : decode cX6_init 74 = .ok (.iload_n 1, 1) := by decide +kernel
theorem dX6_init_75 : decode cX6_init 75 = .ok (.new 9, 3) := by decide +kernel
theorem dX6_init_78 : decode cX6_init 78 = .ok (.dup, 1) := by decide +kernel
theorem dX6_init_79 : decode cX6_init 79 = .ok (.invokespecial 11, 3) := by decide +kernel
theorem dX6_init_82 : decode cX6_init 82 = .ok (.aastore, 1) := by decide +kernel
theorem dX6_init_83 : decode cX6_init 83 = .ok (.iinc 1 1, 3) := by decide +kernel
theorem dX6_init_86 : decode cX6_init 86 = .ok (.goto (-21), 3) := by decide +kernel
theorem dX6_init_89 : decode cX6_init 89 = .ok (.return_, 1) := by decide +kernel
set_option maxRecDepth 20000 in
theorem ggX6_set_X1_prepare : GoodIn wsX6_set wsX1_prepare := goodIn_r _ [7, 8, 9, 10, 11, 6, 12, 13, 14, 15, 16, 17, 18, 19, 20, 21, 22, 23, 24, 25, 26, 27, 28, 29, 30, 31, 32, 33, 34, 35, 36, 37, 38, 39, 40, 41, 42, 43, 44, 45, 46, 47, 48, 49, 50, 51, 52, 53, 54, 55, 56, 57, 58, 59, 60, 61, 62, 63, 64, 65, 106, 107, 108, 109, 110, 111, 112, 113, 114, 115, 116, 117, 118, 119, 120, 121, 122, 123, 124, 125, 126, 127, 128, 129, 130, 131, 132, 133] (by decide +kernel) (by decide +kernel)
set_option maxRecDepth 20000 in
theorem gX6_set_X1_prepare : GoodIn wsX6_set (wsV RX6 45 RX1 yX1_prepare wsX1_prepare) := goodIn_app (goodIn_of _ (by decide +kernel)) ggX6_set_X1_prepare
set_option maxRecDepth 20000 in
theorem ggX6_set_X0_change : GoodIn wsX6_set wsX0_change := goodIn_r _ [69, 70, 71, 72, 18, 73, 20, 74, 21, 22, 24, 25, 26, 27, 75, 76, 77, 31, 78, 34, 35, 36, 42, 43, 79, 80, 81, 82, 83, 84, 85, 47, 86, 49, 87, 88, 89, 58, 90, 60, 63, 64, 91, 92, 93, 94, 95, 23, 109, 110, 111, 112, 113, 114, 115, 116, 117, 118, 119, 120, 121, 122, 123, 124, 125, 126, 127, 128, 129, 130, 131, 132, 133] (by decide +kernel) (by decide +kernel)
set_option maxRecDepth 20000 in
theorem gX6_set_X0_change : GoodIn wsX6_set (wsV RX6 49 RX0 yX0_change wsX0_change) := goodIn_app (goodIn_of _ (by decide +kernel)) ggX6_set_X0_change
set_option maxRecDepth 20000 in
theorem ggX6_set_X1_settle : GoodIn wsX6_set wsX1_settle := goodIn_r _ [99, 14, 13, 106, 107, 108] (by decide +kernel) (by decide +kernel)
set_option maxRecDepth 20000 in
theorem gX6_set_X1_settle : GoodIn wsX6_set (wsV RX6 53 RX1 yX1_settle wsX1_settle) := goodIn_app (goodIn_of _ (by decide +kernel)) ggX6_set_X1_settle
theorem dX6_set_0 : decode cX6_set 0 = .ok (.aload_n 0, 1) := by decide +kernel
theorem dX6_set_1 : decode cX6_set 1 = .ok (.getfield 19, 3) := by decide +kernel
theorem dX6_set_4 : decode cX6_set 4 = .ok (.aload_n 0, 1) := by decide +kernel
theorem dX6_set_5 : decode cX6_set 5 = .ok (.getfield 12, 3) := by decide +kernel
theorem dX6_set_8 : decode cX6_set 8 = .ok (.invokevirtual 45, 3) := by decide +kernel
theorem dX6_set_11 : decode cX6_set 11 = .ok (.aload_n 0, 1) := by decide +kernel
theorem dX6_set_12 : decode cX6_set 12 = .ok (.getfield 19, 3) := by decide +kernel
theorem dX6_set_15 : decode cX6_set 15 = .ok (.aload_n 0, 1) := by decide +kernel
theorem dX6_set_16 : decode cX6_set 16 = .ok (.getfield 12, 3) := by decide +kernel
theorem dX6_set_19 : decode cX6_set 19 = .ok (.iload_n 1, 1) := by decide +kernel
theorem dX6_set_20 : decode cX6_set 20 = .ok (.iload_n 2, 1) := by decide +kernel
theorem dX6_set_21 : decode cX6_set 21 = .ok (.invokevirtual 49, 3) := by decide +kernel
theorem dX6_set_24 : decode cX6_set 24 = .ok (.invokevirtual 53, 3) := by decide +kernel
theorem dX6_set_27 : decode cX6_set 27 = .ok (.ireturn, 1) := by decide +kernel
set_option maxRecDepth 20000 in
theorem ggX6_delay_X1_prepare : GoodIn wsX6_delay wsX1_prepare := goodIn_r _ [7, 8, 9, 10, 11, 6, 12, 13, 14, 15, 16, 17, 18, 19, 20, 21, 22, 23, 24, 25, 26, 27, 28, 29, 30, 31, 32, 33, 34, 35, 36, 37, 38, 39, 40, 41, 42, 43, 44, 45, 46, 47, 48, 49, 50, 51, 52, 53, 54, 55, 56, 57, 58, 59, 60, 61, 62, 63, 64, 65, 85, 86, 87, 88, 89, 90, 91, 92, 93, 94, 95, 96, 97, 98, 99, 100, 101, 102, 103, 104, 105, 106, 107, 108, 109, 110, 111, 112] (by decide +kernel) (by decide +kernel)
set_option maxRecDepth 20000 in
theorem gX6_delay_X1_prepare : GoodIn wsX6_delay (wsV RX6 45 RX1 yX1_prepare wsX1_prepare) := goodIn_app (goodIn_of _ (by decide +kernel)) ggX6_delay_X1_prepare
set_option maxRecDepth 20000 in
theorem ggX6_delay_X0_changeDelay : GoodIn wsX6_delay wsX0_changeDelay := goodIn_r _ [69, 20, 70, 71, 72, 73, 31, 74, 34, 88, 89, 90, 91, 92, 93, 94, 95, 96, 97, 98, 99, 100, 101, 102] (by decide +kernel) (by decide +kernel)
set_option maxRecDepth 20000 in
theorem gX6_delay_X0_changeDelay : GoodIn wsX6_delay (wsV RX6 57 RX0 yX0_changeDelay wsX0_changeDelay) := goodIn_app (goodIn_of _ (by decide +kernel)) ggX6_delay_X0_changeDelay
set_option maxRecDepth 20000 in
theorem ggX6_delay_X1_settle : GoodIn wsX6_delay wsX1_settle := goodIn_r _ [78, 14, 13, 85, 86, 87] (by decide +kernel) (by decide +kernel)
set_option maxRecDepth 20000 in
theorem gX6_delay_X1_settle : GoodIn wsX6_delay (wsV RX6 53 RX1 yX1_settle wsX1_settle) := goodIn_app (goodIn_of _ (by decide +kernel)) ggX6_delay_X1_settle
theorem dX6_delay_0 : decode cX6_delay 0 = .ok (.aload_n 0, 1) := by decide +kernel
theorem dX6_delay_1 : decode cX6_delay 1 = .ok (.getfield 19, 3) := by decide +kernel
theorem dX6_delay_4 : decode cX6_delay 4 = .ok (.aload_n 0, 1) := by decide +kernel
theorem dX6_delay_5 : decode cX6_delay 5 = .ok (.getfield 12, 3) := by decide +kernel
theorem dX6_delay_8 : decode cX6_delay 8 = .ok (.invokevirtual 45, 3) := by decide +kernel
theorem dX6_delay_11 : decode cX6_delay 11 = .ok (.aload_n 0, 1) := by decide +kernel
theorem dX6_delay_12 : decode cX6_delay 12 = .ok (.getfield 19, 3) := by decide +kernel
theorem dX6_delay_15 : decode cX6_delay 15 = .ok (.aload_n 0, 1) := by decide +kernel
theorem dX6_delay_16 : decode cX6_delay 16 = .ok (.getfield 12, 3) := by decide +kernel
theorem dX6_delay_19 : decode cX6_delay 19 = .ok (.iload_n 1, 1) := by decide +kernel
theorem dX6_delay_20 : decode cX6_delay 20 = .ok (.iload_n 2, 1) := by decide +kernel
theorem dX6_delay_21 : decode cX6_delay 21 = .ok (.invokevirtual 57, 3) := by decide +kernel
theorem dX6_delay_24 : decode cX6_delay 24 = .ok (.invokevirtual 53, 3) := by decide +kernel
theorem dX6_delay_27 : decode cX6_delay 27 = .ok (.ireturn, 1) := by decide +kernel
set_option maxRecDepth 20000 in
theorem ggX6_clock_X1_prepare : GoodIn wsX6_clock wsX1_prepare := goodIn_r _ [7, 8, 9, 10, 11, 6, 12, 13, 14, 15, 16, 17, 18, 19, 20, 21, 22, 23, 24, 25, 26, 27, 28, 29, 30, 31, 32, 33, 34, 35, 36, 37, 38, 39, 40, 41, 42, 43, 44, 45, 46, 47, 48, 49, 50, 51, 52, 53, 54, 55, 56, 57, 58, 59, 60, 61, 62, 63, 64, 65, 86, 87, 88, 89, 90, 91, 92, 93, 94, 95, 96, 97, 98, 99, 100, 101, 102, 103, 104, 105, 106, 107, 108, 109, 110, 111, 112, 113] (by decide +kernel) (by decide +kernel)
set_option maxRecDepth 20000 in
theorem gX6_clock_X1_prepare : GoodIn wsX6_clock (wsV RX6 45 RX1 yX1_prepare wsX1_prepare) := goodIn_app (goodIn_of _ (by decide +kernel)) ggX6_clock_X1_prepare
set_option maxRecDepth 20000 in
theorem ggX6_clock_X0_takeClock : GoodIn wsX6_clock wsX0_takeClock := goodIn_r _ [69, 25, 20, 70, 24, 71, 72, 73, 74, 31, 75, 43, 33, 37, 36, 89, 90, 91, 92, 93, 94, 95, 96, 97, 98, 99, 100, 101, 102, 103] (by decide +kernel) (by decide +kernel)
set_option maxRecDepth 20000 in
theorem gX6_clock_X0_takeClock : GoodIn wsX6_clock (wsV RX6 60 RX0 yX0_takeClock wsX0_takeClock) := goodIn_app (goodIn_of _ (by decide +kernel)) ggX6_clock_X0_takeClock
set_option maxRecDepth 20000 in
theorem ggX6_clock_X1_settle : GoodIn wsX6_clock wsX1_settle := goodIn_r _ [79, 14, 13, 86, 87, 88] (by decide +kernel) (by decide +kernel)
set_option maxRecDepth 20000 in
theorem gX6_clock_X1_settle : GoodIn wsX6_clock (wsV RX6 53 RX1 yX1_settle wsX1_settle) := goodIn_app (goodIn_of _ (by decide +kernel)) ggX6_clock_X1_settle
theorem dX6_clock_0 : decode cX6_clock 0 = .ok (.aload_n 0, 1) := by decide +kernel
theorem dX6_clock_1 : decode cX6_clock 1 = .ok (.getfield 19, 3) := by decide +kernel
theorem dX6_clock_4 : decode cX6_clock 4 = .ok (.aload_n 0, 1) := by decide +kernel
theorem dX6_clock_5 : decode cX6_clock 5 = .ok (.getfield 12, 3) := by decide +kernel
theorem dX6_clock_8 : decode cX6_clock 8 = .ok (.invokevirtual 45, 3) := by decide +kernel
theorem dX6_clock_11 : decode cX6_clock 11 = .ok (.aload_n 0, 1) := by decide +kernel
theorem dX6_clock_12 : decode cX6_clock 12 = .ok (.getfield 19, 3) := by decide +kernel
theorem dX6_clock_15 : decode cX6_clock 15 = .ok (.aload_n 0, 1) := by decide +kernel
theorem dX6_clock_16 : decode cX6_clock 16 = .ok (.getfield 12, 3) := by decide +kernel
theorem dX6_clock_19 : decode cX6_clock 19 = .ok (.invokevirtual 60, 3) := by decide +kernel
theorem dX6_clock_22 : decode cX6_clock 22 = .ok (.invokevirtual 53, 3) := by decide +kernel
theorem dX6_clock_25 : decode cX6_clock 25 = .ok (.ireturn, 1) := by decide +kernel
set_option maxRecDepth 20000 in
theorem ggX6_pass_X1_prepare : GoodIn wsX6_pass wsX1_prepare := goodIn_r _ [7, 8, 9, 10, 11, 6, 12, 13, 14, 15, 16, 17, 18, 19, 20, 21, 22, 23, 24, 25, 26, 27, 28, 29, 30, 31, 32, 33, 34, 35, 36, 37, 38, 39, 40, 41, 42, 43, 44, 45, 46, 47, 48, 49, 50, 51, 52, 53, 54, 55, 56, 57, 58, 59, 60, 61, 62, 63, 64, 65, 111, 112, 113, 114, 115, 116, 117, 118, 119, 120, 121, 122, 123, 124, 125, 126, 127, 128, 129, 130, 131, 132, 133, 134, 135, 136, 137, 138] (by decide +kernel) (by decide +kernel)
set_option maxRecDepth 20000 in
theorem gX6_pass_X1_prepare : GoodIn wsX6_pass (wsV RX6 45 RX1 yX1_prepare wsX1_prepare) := goodIn_app (goodIn_of _ (by decide +kernel)) ggX6_pass_X1_prepare
set_option maxRecDepth 20000 in
theorem ggX6_pass_X0_letPass : GoodIn wsX6_pass wsX0_letPass := goodIn_r _ [69, 20, 70, 71, 72, 73, 18, 74, 26, 22, 75, 24, 27, 21, 76, 77, 78, 31, 79, 34, 33, 43, 36, 80, 81, 82, 83, 35, 42, 84, 85, 86, 87, 37, 88, 89, 90, 58, 91, 63, 60, 61, 65, 64, 92, 93, 94, 95, 96, 23, 97, 98, 99, 47, 100, 49, 50, 52, 53, 54, 114, 115, 116, 117, 118, 119, 120, 121, 122, 123, 124, 125, 126, 127, 128, 134, 135, 136, 137, 138, 129, 130, 131, 132, 133] (by decide +kernel) (by decide +kernel)
set_option maxRecDepth 20000 in
theorem gX6_pass_X0_letPass : GoodIn wsX6_pass (wsV RX6 64 RX0 yX0_letPass wsX0_letPass) := goodIn_app (goodIn_of _ (by decide +kernel)) ggX6_pass_X0_letPass
set_option maxRecDepth 20000 in
theorem ggX6_pass_X1_settle : GoodIn wsX6_pass wsX1_settle := goodIn_r _ [104, 14, 13, 111, 112, 113] (by decide +kernel) (by decide +kernel)
set_option maxRecDepth 20000 in
theorem gX6_pass_X1_settle : GoodIn wsX6_pass (wsV RX6 53 RX1 yX1_settle wsX1_settle) := goodIn_app (goodIn_of _ (by decide +kernel)) ggX6_pass_X1_settle
theorem dX6_pass_0 : decode cX6_pass 0 = .ok (.aload_n 0, 1) := by decide +kernel
theorem dX6_pass_1 : decode cX6_pass 1 = .ok (.getfield 19, 3) := by decide +kernel
theorem dX6_pass_4 : decode cX6_pass 4 = .ok (.aload_n 0, 1) := by decide +kernel
theorem dX6_pass_5 : decode cX6_pass 5 = .ok (.getfield 12, 3) := by decide +kernel
theorem dX6_pass_8 : decode cX6_pass 8 = .ok (.invokevirtual 45, 3) := by decide +kernel
theorem dX6_pass_11 : decode cX6_pass 11 = .ok (.aload_n 0, 1) := by decide +kernel
theorem dX6_pass_12 : decode cX6_pass 12 = .ok (.getfield 19, 3) := by decide +kernel
theorem dX6_pass_15 : decode cX6_pass 15 = .ok (.aload_n 0, 1) := by decide +kernel
theorem dX6_pass_16 : decode cX6_pass 16 = .ok (.getfield 12, 3) := by decide +kernel
theorem dX6_pass_19 : decode cX6_pass 19 = .ok (.iload_n 1, 1) := by decide +kernel
theorem dX6_pass_20 : decode cX6_pass 20 = .ok (.invokevirtual 64, 3) := by decide +kernel
theorem dX6_pass_23 : decode cX6_pass 23 = .ok (.invokevirtual 53, 3) := by decide +kernel
theorem dX6_pass_26 : decode cX6_pass 26 = .ok (.ireturn, 1) := by decide +kernel
set_option maxRecDepth 20000 in
theorem ggX6_read_X1_prepare : GoodIn wsX6_read wsX1_prepare := goodIn_r _ [7, 8, 9, 10, 11, 6, 12, 13, 14, 15, 16, 17, 18, 19, 20, 21, 22, 23, 24, 25, 26, 27, 28, 29, 30, 31, 32, 33, 34, 35, 36, 37, 38, 39, 40, 41, 42, 43, 44, 45, 46, 47, 48, 49, 50, 51, 52, 53, 54, 55, 56, 57, 58, 59, 60, 61, 62, 63, 64, 65, 87, 88, 89, 90, 91, 92, 93, 94, 95, 96, 97, 98, 99, 100, 101, 102, 103, 104, 105, 106, 107, 108, 109, 110, 111, 112, 113, 114] (by decide +kernel) (by decide +kernel)
set_option maxRecDepth 20000 in
theorem gX6_read_X1_prepare : GoodIn wsX6_read (wsV RX6 45 RX1 yX1_prepare wsX1_prepare) := goodIn_app (goodIn_of _ (by decide +kernel)) ggX6_read_X1_prepare
set_option maxRecDepth 20000 in
theorem ggX6_read_X0_readGate : GoodIn wsX6_read wsX0_readGate := goodIn_r _ [69, 21, 70, 27, 20, 71, 72, 24, 73, 74, 75, 47, 76, 49, 50, 52, 53, 54, 90, 91, 92, 93, 94, 95, 96, 97, 105, 106, 107, 108, 109, 98, 99, 100, 101, 102, 103, 104] (by decide +kernel) (by decide +kernel)
set_option maxRecDepth 20000 in
theorem gX6_read_X0_readGate : GoodIn wsX6_read (wsV RX6 67 RX0 yX0_readGate wsX0_readGate) := goodIn_app (goodIn_of _ (by decide +kernel)) ggX6_read_X0_readGate
set_option maxRecDepth 20000 in
theorem ggX6_read_X1_settle : GoodIn wsX6_read wsX1_settle := goodIn_r _ [80, 14, 13, 87, 88, 89] (by decide +kernel) (by decide +kernel)
set_option maxRecDepth 20000 in
theorem gX6_read_X1_settle : GoodIn wsX6_read (wsV RX6 53 RX1 yX1_settle wsX1_settle) := goodIn_app (goodIn_of _ (by decide +kernel)) ggX6_read_X1_settle
theorem dX6_read_0 : decode cX6_read 0 = .ok (.aload_n 0, 1) := by decide +kernel
theorem dX6_read_1 : decode cX6_read 1 = .ok (.getfield 19, 3) := by decide +kernel
theorem dX6_read_4 : decode cX6_read 4 = .ok (.aload_n 0, 1) := by decide +kernel
theorem dX6_read_5 : decode cX6_read 5 = .ok (.getfield 12, 3) := by decide +kernel
theorem dX6_read_8 : decode cX6_read 8 = .ok (.invokevirtual 45, 3) := by decide +kernel
theorem dX6_read_11 : decode cX6_read 11 = .ok (.aload_n 0, 1) := by decide +kernel
theorem dX6_read_12 : decode cX6_read 12 = .ok (.getfield 19, 3) := by decide +kernel
theorem dX6_read_15 : decode cX6_read 15 = .ok (.aload_n 0, 1) := by decide +kernel
theorem dX6_read_16 : decode cX6_read 16 = .ok (.getfield 12, 3) := by decide +kernel
theorem dX6_read_19 : decode cX6_read 19 = .ok (.invokevirtual 67, 3) := by decide +kernel
theorem dX6_read_22 : decode cX6_read 22 = .ok (.invokevirtual 53, 3) := by decide +kernel
theorem dX6_read_25 : decode cX6_read 25 = .ok (.ireturn, 1) := by decide +kernel
set_option maxRecDepth 20000 in
theorem ggX6_latch_X1_prepare : GoodIn wsX6_latch wsX1_prepare := goodIn_r _ [7, 8, 9, 10, 11, 6, 12, 13, 14, 15, 16, 17, 18, 19, 20, 21, 22, 23, 24, 25, 26, 27, 28, 29, 30, 31, 32, 33, 34, 35, 36, 37, 38, 39, 40, 41, 42, 43, 44, 45, 46, 47, 48, 49, 50, 51, 52, 53, 54, 55, 56, 57, 58, 59, 60, 61, 62, 63, 64, 65, 81, 82, 83, 84, 85, 86, 87, 88, 89, 90, 91, 92, 93, 94, 95, 96, 97, 98, 99, 100, 101, 102, 103, 104, 105, 106, 107, 108] (by decide +kernel) (by decide +kernel)
set_option maxRecDepth 20000 in
theorem gX6_latch_X1_prepare : GoodIn wsX6_latch (wsV RX6 45 RX1 yX1_prepare wsX1_prepare) := goodIn_app (goodIn_of _ (by decide +kernel)) ggX6_latch_X1_prepare
set_option maxRecDepth 20000 in
theorem ggX6_latch_X0_startLatch : GoodIn wsX6_latch wsX0_startLatch := goodIn_r _ [69, 27, 21, 70, 84, 85, 86, 87, 88, 89, 90, 91, 99, 100, 101, 102, 103] (by decide +kernel) (by decide +kernel)
set_option maxRecDepth 20000 in
theorem gX6_latch_X0_startLatch : GoodIn wsX6_latch (wsV RX6 70 RX0 yX0_startLatch wsX0_startLatch) := goodIn_app (goodIn_of _ (by decide +kernel)) ggX6_latch_X0_startLatch
set_option maxRecDepth 20000 in
theorem ggX6_latch_X1_settle : GoodIn wsX6_latch wsX1_settle := goodIn_r _ [74, 14, 13, 81, 82, 83] (by decide +kernel) (by decide +kernel)
set_option maxRecDepth 20000 in
theorem gX6_latch_X1_settle : GoodIn wsX6_latch (wsV RX6 53 RX1 yX1_settle wsX1_settle) := goodIn_app (goodIn_of _ (by decide +kernel)) ggX6_latch_X1_settle
theorem dX6_latch_0 : decode cX6_latch 0 = .ok (.aload_n 0, 1) := by decide +kernel
theorem dX6_latch_1 : decode cX6_latch 1 = .ok (.getfield 19, 3) := by decide +kernel
theorem dX6_latch_4 : decode cX6_latch 4 = .ok (.aload_n 0, 1) := by decide +kernel
