set_option maxRecDepth 20000 in
theorem ggX0_init_X5_init : GoodIn wsX0_init wsX5_init := goodIn_r _ [21, 22, 2, 3, 23, 24, 25, 26, 27, 28, 29, 30, 31, 46, 47, 48, 49, 50, 51, 52] (by decide +kernel) (by decide +kernel)
set_option maxRecDepth 20000 in
theorem gX0_init_X5_init : GoodIn wsX0_init (wsX5_init) := ggX0_init_X5_init
set_option maxRecDepth 20000 in
theorem ggX0_init_X3_init : GoodIn wsX0_init wsX3_init := goodIn_r _ [33, 34, 2, 3, 24, 35, 36, 37, 38, 61, 62, 63, 64, 65] (by decide +kernel) (by decide +kernel)
set_option maxRecDepth 20000 in
theorem gX0_init_X3_init_n20 : GoodIn wsX0_init (wsX3_init) := ggX0_init_X3_init
set_option maxRecDepth 20000 in
theorem ggX0_init_X4_init : GoodIn wsX0_init wsX4_init := goodIn_r _ [40, 41, 2, 3, 24, 42, 43, 44, 45, 66, 67, 68, 69, 70] (by decide +kernel) (by decide +kernel)
set_option maxRecDepth 20000 in
theorem gX0_init_X4_init_n27 : GoodIn wsX0_init (wsX4_init) := ggX0_init_X4_init
theorem dX0_init_0 : decode cX0_init 0 = .ok (.aload_n 0, 1) := by decide +kernel
theorem dX0_init_1 : decode cX0_init 1 = .ok (.invokespecial 3, 3) := by decide +kernel
theorem dX0_init_4 : decode cX0_init 4 = .ok (.aload_n 0, 1) := by decide +kernel
theorem dX0_init_5 : decode cX0_init 5 = .ok (.new 9, 3) := by decide +kernel
theorem dX0_init_8 : decode cX0_init 8 = .ok (.dup, 1) := by decide +kernel
theorem dX0_init_9 : decode cX0_init 9 = .ok (.invokespecial 11, 3) := by decide +kernel
theorem dX0_init_12 : decode cX0_init 12 = .ok (.putfield 12, 3) := by decide +kernel
theorem dX0_init_15 : decode cX0_init 15 = .ok (.aload_n 0, 1) := by decide +kernel
theorem dX0_init_16 : decode cX0_init 16 = .ok (.new 18, 3) := by decide +kernel
theorem dX0_init_19 : decode cX0_init 19 = .ok (.dup, 1) := by decide +kernel
theorem dX0_init_20 : decode cX0_init 20 = .ok (.invokespecial 20, 3) := by decide +kernel
theorem dX0_init_23 : decode cX0_init 23 = .ok (.putfield 21, 3) := by decide +kernel
theorem dX0_init_26 : decode cX0_init 26 = .ok (.aload_n 0, 1) := by decide +kernel
theorem dX0_init_27 : decode cX0_init 27 = .ok (.new 25, 3) := by decide +kernel
theorem dX0_init_30 : decode cX0_init 30 = .ok (.dup, 1) := by decide +kernel
theorem dX0_init_31 : decode cX0_init 31 = .ok (.invokespecial 27, 3) := by decide +kernel
theorem dX0_init_34 : decode cX0_init 34 = .ok (.putfield 28, 3) := by decide +kernel
theorem dX0_init_37 : decode cX0_init 37 = .ok (.aload_n 0, 1) := by decide +kernel
theorem dX0_init_38 : decode cX0_init 38 = .ok (.iconst 2, 1) := by decide +kernel
theorem dX0_init_39 : decode cX0_init 39 = .ok (.putfield 32, 3) := by decide +kernel
theorem dX0_init_42 : decode cX0_init 42 = .ok (.aload_n 0, 1) := by decide +kernel
theorem dX0_init_43 : decode cX0_init 43 = .ok (.iconst (-1), 1) := by decide +kernel
theorem dX0_init_44 : decode cX0_init 44 = .ok (.putfield 36, 3) := by decide +kernel
theorem dX0_init_47 : decode cX0_init 47 = .ok (.aload_n 0, 1) := by decide +kernel
theorem dX0_init_48 : decode cX0_init 48 = .ok (.iconst (-1), 1) := by decide +kernel
theorem dX0_init_49 : decode cX0_init 49 = .ok (.putfield 39, 3) := by decide +kernel
theorem dX0_init_52 : decode cX0_init 52 = .ok (.return_, 1) := by decide +kernel
set_option maxRecDepth 20000 in
theorem ggX0_copyFrom_X5_copyFrom : GoodIn wsX0_copyFrom wsX5_copyFrom := goodIn_r _ [13, 14, 15, 16, 17, 18, 19, 20, 21, 22, 23, 24, 55, 56, 57, 58, 59, 60, 61] (by decide +kernel) (by decide +kernel)
set_option maxRecDepth 20000 in
theorem gX0_copyFrom_X5_copyFrom : GoodIn wsX0_copyFrom (wsV RX0 42 RX5 yX5_copyFrom wsX5_copyFrom) := goodIn_app (goodIn_of _ (by decide +kernel)) ggX0_copyFrom_X5_copyFrom
set_option maxRecDepth 20000 in
theorem ggX0_copyFrom_X3_copyFrom : GoodIn wsX0_copyFrom wsX3_copyFrom := goodIn_r _ [29, 30, 31, 32, 20, 21, 22, 33, 34, 35, 62, 63, 64, 65, 66] (by decide +kernel) (by decide +kernel)
set_option maxRecDepth 20000 in
theorem gX0_copyFrom_X3_copyFrom : GoodIn wsX0_copyFrom (wsV RX0 46 RX3 yX3_copyFrom wsX3_copyFrom) := goodIn_app (goodIn_of _ (by decide +kernel)) ggX0_copyFrom_X3_copyFrom
set_option maxRecDepth 20000 in
theorem ggX0_copyFrom_X4_copyFrom : GoodIn wsX0_copyFrom wsX4_copyFrom := goodIn_r _ [40, 41, 42, 43, 20, 21, 22, 44, 45, 46, 67, 68, 69, 70, 71] (by decide +kernel) (by decide +kernel)
set_option maxRecDepth 20000 in
theorem gX0_copyFrom_X4_copyFrom : GoodIn wsX0_copyFrom (wsV RX0 49 RX4 yX4_copyFrom wsX4_copyFrom) := goodIn_app (goodIn_of _ (by decide +kernel)) ggX0_copyFrom_X4_copyFrom
theorem dX0_copyFrom_0 : decode cX0_copyFrom 0 = .ok (.aload_n 0, 1) := by decide +kernel
theorem dX0_copyFrom_1 : decode cX0_copyFrom 1 = .ok (.getfield 12, 3) := by decide +kernel
theorem dX0_copyFrom_4 : decode cX0_copyFrom 4 = .ok (.aload_n 1, 1) := by decide +kernel
theorem dX0_copyFrom_5 : decode cX0_copyFrom 5 = .ok (.getfield 12, 3) := by decide +kernel
theorem dX0_copyFrom_8 : decode cX0_copyFrom 8 = .ok (.invokevirtual 42, 3) := by decide +kernel
theorem dX0_copyFrom_11 : decode cX0_copyFrom 11 = .ok (.aload_n 0, 1) := by decide +kernel
theorem dX0_copyFrom_12 : decode cX0_copyFrom 12 = .ok (.getfield 21, 3) := by decide +kernel
theorem dX0_copyFrom_15 : decode cX0_copyFrom 15 = .ok (.aload_n 1, 1) := by decide +kernel
theorem dX0_copyFrom_16 : decode cX0_copyFrom 16 = .ok (.getfield 21, 3) := by decide +kernel
theorem dX0_copyFrom_19 : decode cX0_copyFrom 19 = .ok (.invokevirtual 46, 3) := by decide +kernel
theorem dX0_copyFrom_22 : decode cX0_copyFrom 22 = .ok (.aload_n 0, 1) := by decide +kernel
theorem dX0_copyFrom_23 : decode cX0_copyFrom 23 = .ok (.getfield 28, 3) := by decide +kernel
theorem dX0_copyFrom_26 : decode cX0_copyFrom 26 = .ok (.aload_n 1, 1) := by decide +kernel
theorem dX0_copyFrom_27 : decode cX0_copyFrom 27 = .ok (.getfield 28, 3) := by decide +kernel
theorem dX0_copyFrom_30 : decode cX0_copyFrom 30 = .ok (.invokevirtual 49, 3) := by decide +kernel
theorem dX0_copyFrom_33 : decode cX0_copyFrom 33 = .ok (.aload_n 0, 1) := by decide +kernel
theorem dX0_copyFrom_34 : decode cX0_copyFrom 34 = .ok (.aload_n 1, 1) := by decide +kernel
theorem dX0_copyFrom_35 : decode cX0_copyFrom 35 = .ok (.getfield 32, 3) := by decide +kernel
theorem dX0_copyFrom_38 : decode cX0_copyFrom 38 = .ok (.putfield 32, 3) := by decide +kernel
theorem dX0_copyFrom_41 : decode cX0_copyFrom 41 = .ok (.aload_n 0, 1) := by decide +kernel
theorem dX0_copyFrom_42 : decode cX0_copyFrom 42 = .ok (.aload_n 1, 1) := by decide +kernel
theorem dX0_copyFrom_43 : decode cX0_copyFrom 43 = .ok (.getfield 52, 3) := by decide +kernel
theorem dX0_copyFrom_46 : decode cX0_copyFrom 46 = .ok (.putfield 52, 3) := by decide +kernel
theorem dX0_copyFrom_49 : decode cX0_copyFrom 49 = .ok (.aload_n 0, 1) := by decide +kernel
theorem dX0_copyFrom_50 : decode cX0_copyFrom 50 = .ok (.aload_n 1, 1) := by decide +kernel
theorem dX0_copyFrom_51 : decode cX0_copyFrom 51 = .ok (.getfield 36, 3) := by decide +kernel
theorem dX0_copyFrom_54 : decode cX0_copyFrom 54 = .ok (.putfield 36, 3) := by decide +kernel
theorem dX0_copyFrom_57 : decode cX0_copyFrom 57 = .ok (.aload_n 0, 1) := by decide +kernel
theorem dX0_copyFrom_58 : decode cX0_copyFrom 58 = .ok (.aload_n 1, 1) := by decide +kernel
theorem dX0_copyFrom_59 : decode cX0_copyFrom 59 = .ok (.getfield 39, 3) := by decide +kernel
theorem dX0_copyFrom_62 : decode cX0_copyFrom 62 = .ok (.putfield 39, 3) := by decide +kernel
theorem dX0_copyFrom_65 : decode cX0_copyFrom 65 = .ok (.aload_n 0, 1) := by decide +kernel
theorem dX0_copyFrom_66 : decode cX0_copyFrom 66 = .ok (.aload_n 1, 1) := by decide +kernel
theorem dX0_copyFrom_67 : decode cX0_copyFrom 67 = .ok (.getfield 55, 3) := by decide +kernel
theorem dX0_copyFrom_70 : decode cX0_copyFrom 70 = .ok (.putfield 55, 3) := by decide +kernel
theorem dX0_copyFrom_73 : decode cX0_copyFrom 73 = .ok (.return_, 1) := by decide +kernel
set_option maxRecDepth 20000 in
theorem ggX0_change_X0_changeStages : GoodIn wsX0_change wsX0_changeStages := goodIn_r _ [5, 6, 7, 8, 9, 10, 11, 12, 13, 14, 15, 16, 17, 18, 19, 20, 21, 22, 23, 24, 25, 26, 27, 28, 29, 30, 31, 32, 33, 34, 35, 36, 37, 38, 39, 40, 41, 42, 48, 49, 50, 51, 52, 53, 54, 55, 56, 57, 58, 59, 60, 61, 62, 63, 64, 65, 66, 67, 68, 69, 70, 71, 72] (by decide +kernel) (by decide +kernel)
set_option maxRecDepth 20000 in
theorem gX0_change_X0_changeStages : GoodIn wsX0_change (wsV RX0 59 RX0 yX0_changeStages wsX0_changeStages) := goodIn_app (goodIn_of _ (by decide +kernel)) ggX0_change_X0_changeStages
set_option maxRecDepth 20000 in
theorem ggX0_change_X0_changeHold : GoodIn wsX0_change wsX0_changeHold := goodIn_r _ [46, 47, 48, 49, 50, 51, 52, 53, 54, 55] (by decide +kernel) (by decide +kernel)
set_option maxRecDepth 20000 in
theorem gX0_change_X0_changeHold : GoodIn wsX0_change (wsV RX0 63 RX0 yX0_changeHold wsX0_changeHold) := goodIn_app (goodIn_of _ (by decide +kernel)) ggX0_change_X0_changeHold
theorem dX0_change_0 : decode cX0_change 0 = .ok (.iload_n 1, 1) := by decide +kernel
theorem dX0_change_1 : decode cX0_change 1 = .ok (.ifCond .ne 9, 3) := by decide +kernel
theorem dX0_change_4 : decode cX0_change 4 = .ok (.aload_n 0, 1) := by decide +kernel
theorem dX0_change_5 : decode cX0_change 5 = .ok (.iload_n 2, 1) := by decide +kernel
theorem dX0_change_6 : decode cX0_change 6 = .ok (.invokevirtual 59, 3) := by decide +kernel
theorem dX0_change_9 : decode cX0_change 9 = .ok (.ireturn, 1) := by decide +kernel
theorem dX0_change_10 : decode cX0_change 10 = .ok (.iload_n 1, 1) := by decide +kernel
theorem dX0_change_11 : decode cX0_change 11 = .ok (.iconst 1, 1) := by decide +kernel
theorem dX0_change_12 : decode cX0_change 12 = .ok (.if_icmp .ne 11, 3) := by decide +kernel
theorem dX0_change_15 : decode cX0_change 15 = .ok (.aload_n 0, 1) := by decide +kernel
theorem dX0_change_16 : decode cX0_change 16 = .ok (.iload_n 2, 1) := by decide +kernel
theorem dX0_change_17 : decode cX0_change 17 = .ok (.invokevirtual 63, 3) := by decide +kernel
theorem dX0_change_20 : decode cX0_change 20 = .ok (.goto 5, 3) := by decide +kernel
theorem dX0_change_23 : decode cX0_change 23 = .ok (.bipush (-2), 2) := by decide +kernel
theorem dX0_change_25 : decode cX0_change 25 = .ok (.ireturn, 1) := by decide +kernel
set_option maxRecDepth 20000 in
theorem ggX0_changeDelay_X5_hasStage : GoodIn wsX0_changeDelay wsX5_hasStage := goodIn_r _ [7, 8, 17, 18, 19, 20, 21, 22, 23] (by decide +kernel) (by decide +kernel)
set_option maxRecDepth 20000 in
theorem gX0_changeDelay_X5_hasStage : GoodIn wsX0_changeDelay (wsV RX0 66 RX5 yX5_hasStage wsX5_hasStage) := goodIn_app (goodIn_of _ (by decide +kernel)) ggX0_changeDelay_X5_hasStage
theorem dX0_changeDelay_0 : decode cX0_changeDelay 0 = .ok (.aload_n 0, 1) := by decide +kernel
theorem dX0_changeDelay_1 : decode cX0_changeDelay 1 = .ok (.getfield 12, 3) := by decide +kernel
theorem dX0_changeDelay_4 : decode cX0_changeDelay 4 = .ok (.iload_n 1, 1) := by decide +kernel
theorem dX0_changeDelay_5 : decode cX0_changeDelay 5 = .ok (.invokevirtual 66, 3) := by decide +kernel
theorem dX0_changeDelay_8 : decode cX0_changeDelay 8 = .ok (.ifCond .ne 5, 3) := by decide +kernel
theorem dX0_changeDelay_11 : decode cX0_changeDelay 11 = .ok (.iconst (-1), 1) := by decide +kernel
theorem dX0_changeDelay_12 : decode cX0_changeDelay 12 = .ok (.ireturn, 1) := by decide +kernel
theorem dX0_changeDelay_13 : decode cX0_changeDelay 13 = .ok (.iload_n 2, 1) := by decide +kernel
theorem dX0_changeDelay_14 : decode cX0_changeDelay 14 = .ok (.iconst 1, 1) := by decide +kernel
theorem dX0_changeDelay_15 : decode cX0_changeDelay 15 = .ok (.if_icmp .lt 9, 3) := by decide +kernel
theorem dX0_changeDelay_18 : decode cX0_changeDelay 18 = .ok (.iload_n 2, 1) := by decide +kernel
theorem dX0_changeDelay_19 : decode cX0_changeDelay 19 = .ok (.bipush 20, 2) := by decide +kernel
theorem dX0_changeDelay_21 : decode cX0_changeDelay 21 = .ok (.if_icmp .le 6, 3) := by decide +kernel
theorem dX0_changeDelay_24 : decode cX0_changeDelay 24 = .ok (.bipush (-2), 2) := by decide +kernel
theorem dX0_changeDelay_26 : decode cX0_changeDelay 26 = .ok (.ireturn, 1) := by decide +kernel
theorem dX0_changeDelay_27 : decode cX0_changeDelay 27 = .ok (.aload_n 0, 1) := by decide +kernel
theorem dX0_changeDelay_28 : decode cX0_changeDelay 28 = .ok (.getfield 12, 3) := by decide +kernel
theorem dX0_changeDelay_31 : decode cX0_changeDelay 31 = .ok (.getfield 70, 3) := by decide +kernel
theorem dX0_changeDelay_34 : decode cX0_changeDelay 34 = .ok (.iload_n 1, 1) := by decide +kernel
theorem dX0_changeDelay_35 : decode cX0_changeDelay 35 = .ok (.iaload, 1) := by decide +kernel
theorem dX0_changeDelay_36 : decode cX0_changeDelay 36 = .ok (.istore_n 3, 1) := by decide +kernel
theorem dX0_changeDelay_37 : decode cX0_changeDelay 37 = .ok (.aload_n 0, 1) := by decide +kernel
theorem dX0_changeDelay_38 : decode cX0_changeDelay 38 = .ok (.getfield 12, 3) := by decide +kernel
theorem dX0_changeDelay_41 : decode cX0_changeDelay 41 = .ok (.getfield 70, 3) := by decide +kernel
theorem dX0_changeDelay_44 : decode cX0_changeDelay 44 = .ok (.iload_n 1, 1) := by decide +kernel
theorem dX0_changeDelay_45 : decode cX0_changeDelay 45 = .ok (.iload_n 2, 1) := by decide +kernel
theorem dX0_changeDelay_46 : decode cX0_changeDelay 46 = .ok (.iastore, 1) := by decide +kernel
theorem dX0_changeDelay_47 : decode cX0_changeDelay 47 = .ok (.iload_n 3, 1) := by decide +kernel
theorem dX0_changeDelay_48 : decode cX0_changeDelay 48 = .ok (.ireturn, 1) := by decide +kernel
set_option maxRecDepth 20000 in
theorem ggX0_takeClock_X5_begin : GoodIn wsX0_takeClock wsX5_begin := goodIn_r _ [10, 11, 12, 13, 14, 23, 24, 25, 26, 27, 28, 29] (by decide +kernel) (by decide +kernel)
set_option maxRecDepth 20000 in
theorem gX0_takeClock_X5_begin : GoodIn wsX0_takeClock (wsV RX0 80 RX5 yX5_begin wsX5_begin) := goodIn_app (goodIn_of _ (by decide +kernel)) ggX0_takeClock_X5_begin
theorem dX0_takeClock_0 : decode cX0_takeClock 0 = .ok (.aload_n 0, 1) := by decide +kernel
theorem dX0_takeClock_1 : decode cX0_takeClock 1 = .ok (.getfield 36, 3) := by decide +kernel
theorem dX0_takeClock_4 : decode cX0_takeClock 4 = .ok (.aload_n 0, 1) := by decide +kernel
theorem dX0_takeClock_5 : decode cX0_takeClock 5 = .ok (.getfield 12, 3) := by decide +kernel
theorem dX0_takeClock_8 : decode cX0_takeClock 8 = .ok (.getfield 74, 3) := by decide +kernel
theorem dX0_takeClock_11 : decode cX0_takeClock 11 = .ok (.if_icmp .ne 6, 3) := by decide +kernel
theorem dX0_takeClock_14 : decode cX0_takeClock 14 = .ok (.bipush (-5), 2) := by decide +kernel
theorem dX0_takeClock_16 : decode cX0_takeClock 16 = .ok (.ireturn, 1) := by decide +kernel
theorem dX0_takeClock_17 : decode cX0_takeClock 17 = .ok (.aload_n 0, 1) := by decide +kernel
theorem dX0_takeClock_18 : decode cX0_takeClock 18 = .ok (.aload_n 0, 1) := by decide +kernel
theorem dX0_takeClock_19 : decode cX0_takeClock 19 = .ok (.getfield 12, 3) := by decide +kernel
theorem dX0_takeClock_22 : decode cX0_takeClock 22 = .ok (.getfield 74, 3) := by decide +kernel
theorem dX0_takeClock_25 : decode cX0_takeClock 25 = .ok (.putfield 36, 3) := by decide +kernel
theorem dX0_takeClock_28 : decode cX0_takeClock 28 = .ok (.aload_n 0, 1) := by decide +kernel
theorem dX0_takeClock_29 : decode cX0_takeClock 29 = .ok (.aload_n 0, 1) := by decide +kernel
theorem dX0_takeClock_30 : decode cX0_takeClock 30 = .ok (.getfield 52, 3) := by decide +kernel
theorem dX0_takeClock_33 : decode cX0_takeClock 33 = .ok (.iconst 1, 1) := by decide +kernel
theorem dX0_takeClock_34 : decode cX0_takeClock 34 = .ok (.iadd, 1) := by decide +kernel
theorem dX0_takeClock_35 : decode cX0_takeClock 35 = .ok (.iconst 1, 1) := by decide +kernel
theorem dX0_takeClock_36 : decode cX0_takeClock 36 = .ok (.aload_n 0, 1) := by decide +kernel
theorem dX0_takeClock_37 : decode cX0_takeClock 37 = .ok (.getfield 12, 3) := by decide +kernel
theorem dX0_takeClock_40 : decode cX0_takeClock 40 = .ok (.getfield 77, 3) := by decide +kernel
theorem dX0_takeClock_43 : decode cX0_takeClock 43 = .ok (.ishl, 1) := by decide +kernel
theorem dX0_takeClock_44 : decode cX0_takeClock 44 = .ok (.iconst 1, 1) := by decide +kernel
theorem dX0_takeClock_45 : decode cX0_takeClock 45 = .ok (.isub, 1) := by decide +kernel
theorem dX0_takeClock_46 : decode cX0_takeClock 46 = .ok (.iand, 1) := by decide +kernel
theorem dX0_takeClock_47 : decode cX0_takeClock 47 = .ok (.putfield 52, 3) := by decide +kernel
theorem dX0_takeClock_50 : decode cX0_takeClock 50 = .ok (.aload_n 0, 1) := by decide +kernel
theorem dX0_takeClock_51 : decode cX0_takeClock 51 = .ok (.getfield 12, 3) := by decide +kernel
theorem dX0_takeClock_54 : decode cX0_takeClock 54 = .ok (.iconst 0, 1) := by decide +kernel
theorem dX0_takeClock_55 : decode cX0_takeClock 55 = .ok (.iconst 1, 1) := by decide +kernel
theorem dX0_takeClock_56 : decode cX0_takeClock 56 = .ok (.invokevirtual 80, 3) := by decide +kernel
theorem dX0_takeClock_59 : decode cX0_takeClock 59 = .ok (.aload_n 0, 1) := by decide +kernel
theorem dX0_takeClock_60 : decode cX0_takeClock 60 = .ok (.getfield 52, 3) := by decide +kernel
theorem dX0_takeClock_63 : decode cX0_takeClock 63 = .ok (.ireturn, 1) := by decide +kernel
set_option maxRecDepth 20000 in
theorem ggX0_letPass_X0_nanosecond : GoodIn wsX0_letPass wsX0_nanosecond := goodIn_r _ [7, 1, 2, 8, 9, 10, 11, 12, 13, 14, 15, 16, 17, 18, 19, 20, 21, 22, 23, 24, 25, 26, 27, 28, 29, 30, 31, 32, 33, 34, 35, 36, 37, 38, 39, 40, 41, 42, 43, 44, 45, 46, 6, 47, 48, 49, 50, 51, 52, 53, 54, 55, 56, 57, 58, 59, 60, 61, 62, 63, 64, 65, 66, 67, 68, 69, 70, 71, 72, 73, 74, 75, 76, 77, 78, 79, 80, 81, 82, 83, 84] (by decide +kernel) (by decide +kernel)
set_option maxRecDepth 20000 in
theorem gX0_letPass_X0_nanosecond : GoodIn wsX0_letPass (wsV RX0 84 RX0 yX0_nanosecond wsX0_nanosecond) := goodIn_app (goodIn_of _ (by decide +kernel)) ggX0_letPass_X0_nanosecond
theorem dX0_letPass_0 : decode cX0_letPass 0 = .ok (.iload_n 1, 1) := by decide +kernel
theorem dX0_letPass_1 : decode cX0_letPass 1 = .ok (.iconst 1, 1) := by decide +kernel
theorem dX0_letPass_2 : decode cX0_letPass 2 = .ok (.if_icmp .lt 9, 3) := by decide +kernel
theorem dX0_letPass_5 : decode cX0_letPass 5 = .ok (.iload_n 1, 1) := by decide +kernel
theorem dX0_letPass_6 : decode cX0_letPass 6 = .ok (.bipush 99, 2) := by decide +kernel
theorem dX0_letPass_8 : decode cX0_letPass 8 = .ok (.if_icmp .le 6, 3) := by decide +kernel
theorem dX0_letPass_11 : decode cX0_letPass 11 = .ok (.bipush (-2), 2) := by decide +kernel
theorem dX0_letPass_13 : decode cX0_letPass 13 = .ok (.ireturn, 1) := by decide +kernel
theorem dX0_letPass_14 : decode cX0_letPass 14 = .ok (.aload_n 0, 1) := by decide +kernel
theorem dX0_letPass_15 : decode cX0_letPass 15 = .ok (.getfield 12, 3) := by decide +kernel
theorem dX0_letPass_18 : decode cX0_letPass 18 = .ok (.getfield 74, 3) := by decide +kernel
theorem dX0_letPass_21 : decode cX0_letPass 21 = .ok (.iload_n 1, 1) := by decide +kernel
theorem dX0_letPass_22 : decode cX0_letPass 22 = .ok (.iadd, 1) := by decide +kernel
theorem dX0_letPass_23 : decode cX0_letPass 23 = .ok (.sipush 9999, 3) := by decide +kernel
theorem dX0_letPass_26 : decode cX0_letPass 26 = .ok (.if_icmp .le 6, 3) := by decide +kernel
theorem dX0_letPass_29 : decode cX0_letPass 29 = .ok (.bipush (-5), 2) := by decide +kernel
theorem dX0_letPass_31 : decode cX0_letPass 31 = .ok (.ireturn, 1) := by decide +kernel
theorem dX0_letPass_32 : decode cX0_letPass 32 = .ok (.iconst 0, 1) := by decide +kernel
theorem dX0_letPass_33 : decode cX0_letPass 33 = .ok (.istore_n 2, 1) := by decide +kernel
theorem dX0_letPass_34 : decode cX0_letPass 34 = .ok (.iconst 0, 1) := by decide +kernel
theorem dX0_letPass_35 : decode cX0_letPass 35 = .ok (.istore_n 3, 1) := by decide +kernel
theorem dX0_letPass_36 : decode cX0_letPass 36 = .ok (.iload_n 3, 1) := by decide +kernel
theorem dX0_letPass_37 : decode cX0_letPass 37 = .ok (.iload_n 1, 1) := by decide +kernel
theorem dX0_letPass_38 : decode cX0_letPass 38 = .ok (.if_icmp .ge 16, 3) := by decide +kernel
theorem dX0_letPass_41 : decode cX0_letPass 41 = .ok (.iload_n 2, 1) := by decide +kernel
theorem dX0_letPass_42 : decode cX0_letPass 42 = .ok (.aload_n 0, 1) := by decide +kernel
theorem dX0_letPass_43 : decode cX0_letPass 43 = .ok (.invokevirtual 84, 3) := by decide +kernel
theorem dX0_letPass_46 : decode cX0_letPass 46 = .ok (.iadd, 1) := by decide +kernel
theorem dX0_letPass_47 : decode cX0_letPass 47 = .ok (.istore_n 2, 1) := by decide +kernel
theorem dX0_letPass_48 : decode cX0_letPass 48 = .ok (.iinc 3 1, 3) := by decide +kernel
theorem dX0_letPass_51 : decode cX0_letPass 51 = .ok (.goto (-15), 3) := by decide +kernel
theorem dX0_letPass_54 : decode cX0_letPass 54 = .ok (.iload_n 2, 1) := by decide +kernel
theorem dX0_letPass_55 : decode cX0_letPass 55 = .ok (.ireturn, 1) := by decide +kernel
set_option maxRecDepth 20000 in
theorem ggX0_readGate_X3_add : GoodIn wsX0_readGate wsX3_add := goodIn_r _ [12, 13, 14, 15, 16, 17, 26, 27, 28, 29, 30] (by decide +kernel) (by decide +kernel)
set_option maxRecDepth 20000 in
theorem gX0_readGate_X3_add : GoodIn wsX0_readGate (wsV RX0 97 RX3 yX3_add wsX3_add) := goodIn_app (goodIn_of _ (by decide +kernel)) ggX0_readGate_X3_add
theorem dX0_readGate_0 : decode cX0_readGate 0 = .ok (.aload_n 0, 1) := by decide +kernel
theorem dX0_readGate_1 : decode cX0_readGate 1 = .ok (.getfield 21, 3) := by decide +kernel
theorem dX0_readGate_4 : decode cX0_readGate 4 = .ok (.getfield 91, 3) := by decide +kernel
theorem dX0_readGate_7 : decode cX0_readGate 7 = .ok (.aload_n 0, 1) := by decide +kernel
theorem dX0_readGate_8 : decode cX0_readGate 8 = .ok (.getfield 55, 3) := by decide +kernel
theorem dX0_readGate_11 : decode cX0_readGate 11 = .ok (.ifCond .eq 7, 3) := by decide +kernel
theorem dX0_readGate_14 : decode cX0_readGate 14 = .ok (.iconst 1, 1) := by decide +kernel
theorem dX0_readGate_15 : decode cX0_readGate 15 = .ok (.goto 4, 3) := by decide +kernel
theorem dX0_readGate_18 : decode cX0_readGate 18 = .ok (.iconst 0, 1) := by decide +kernel
theorem dX0_readGate_19 : decode cX0_readGate 19 = .ok (.iadd, 1) := by decide +kernel
theorem dX0_readGate_20 : decode cX0_readGate 20 = .ok (.bipush 99, 2) := by decide +kernel
theorem dX0_readGate_22 : decode cX0_readGate 22 = .ok (.if_icmp .lt 6, 3) := by decide +kernel
theorem dX0_readGate_25 : decode cX0_readGate 25 = .ok (.bipush (-4), 2) := by decide +kernel
theorem dX0_readGate_27 : decode cX0_readGate 27 = .ok (.ireturn, 1) := by decide +kernel
theorem dX0_readGate_28 : decode cX0_readGate 28 = .ok (.aload_n 0, 1) := by decide +kernel
theorem dX0_readGate_29 : decode cX0_readGate 29 = .ok (.getfield 21, 3) := by decide +kernel
theorem dX0_readGate_32 : decode cX0_readGate 32 = .ok (.aload_n 0, 1) := by decide +kernel
theorem dX0_readGate_33 : decode cX0_readGate 33 = .ok (.getfield 12, 3) := by decide +kernel
theorem dX0_readGate_36 : decode cX0_readGate 36 = .ok (.getfield 94, 3) := by decide +kernel
theorem dX0_readGate_39 : decode cX0_readGate 39 = .ok (.aload_n 0, 1) := by decide +kernel
theorem dX0_readGate_40 : decode cX0_readGate 40 = .ok (.getfield 12, 3) := by decide +kernel
theorem dX0_readGate_43 : decode cX0_readGate 43 = .ok (.getfield 74, 3) := by decide +kernel
theorem dX0_readGate_46 : decode cX0_readGate 46 = .ok (.aload_n 0, 1) := by decide +kernel
theorem dX0_readGate_47 : decode cX0_readGate 47 = .ok (.getfield 52, 3) := by decide +kernel
theorem dX0_readGate_50 : decode cX0_readGate 50 = .ok (.iconst 0, 1) := by decide +kernel
theorem dX0_readGate_51 : decode cX0_readGate 51 = .ok (.invokevirtual 97, 3) := by decide +kernel
theorem dX0_readGate_54 : decode cX0_readGate 54 = .ok (.aload_n 0, 1) := by decide +kernel
theorem dX0_readGate_55 : decode cX0_readGate 55 = .ok (.getfield 12, 3) := by decide +kernel
theorem dX0_readGate_58 : decode cX0_readGate 58 = .ok (.getfield 94, 3) := by decide +kernel
theorem dX0_readGate_61 : decode cX0_readGate 61 = .ok (.ireturn, 1) := by decide +kernel
theorem dX0_startLatch_0 : decode cX0_startLatch 0 = .ok (.aload_n 0, 1) := by decide +kernel
theorem dX0_startLatch_1 : decode cX0_startLatch 1 = .ok (.getfield 55, 3) := by decide +kernel
theorem dX0_startLatch_4 : decode cX0_startLatch 4 = .ok (.ifCond .eq 6, 3) := by decide +kernel
theorem dX0_startLatch_7 : decode cX0_startLatch 7 = .ok (.bipush (-5), 2) := by decide +kernel
theorem dX0_startLatch_9 : decode cX0_startLatch 9 = .ok (.ireturn, 1) := by decide +kernel
theorem dX0_startLatch_10 : decode cX0_startLatch 10 = .ok (.aload_n 0, 1) := by decide +kernel
theorem dX0_startLatch_11 : decode cX0_startLatch 11 = .ok (.getfield 21, 3) := by decide +kernel
theorem dX0_startLatch_14 : decode cX0_startLatch 14 = .ok (.getfield 91, 3) := by decide +kernel
theorem dX0_startLatch_17 : decode cX0_startLatch 17 = .ok (.bipush 99, 2) := by decide +kernel
theorem dX0_startLatch_19 : decode cX0_startLatch 19 = .ok (.if_icmp .lt 6, 3) := by decide +kernel
theorem dX0_startLatch_22 : decode cX0_startLatch 22 = .ok (.bipush (-4), 2) := by decide +kernel
theorem dX0_startLatch_24 : decode cX0_startLatch 24 = .ok (.ireturn, 1) := by decide +kernel
theorem dX0_startLatch_25 : decode cX0_startLatch 25 = .ok (.aload_n 0, 1) := by decide +kernel
theorem dX0_startLatch_26 : decode cX0_startLatch 26 = .ok (.iconst 1, 1) := by decide +kernel
theorem dX0_startLatch_27 : decode cX0_startLatch 27 = .ok (.putfield 55, 3) := by decide +kernel
theorem dX0_startLatch_30 : decode cX0_startLatch 30 = .ok (.iconst 1, 1) := by decide +kernel
theorem dX0_startLatch_31 : decode cX0_startLatch 31 = .ok (.ireturn, 1) := by decide +kernel
theorem dX0_stillFor_0 : decode cX0_stillFor 0 = .ok (.aload_n 0, 1) := by decide +kernel
theorem dX0_stillFor_1 : decode cX0_stillFor 1 = .ok (.getfield 39, 3) := by decide +kernel
theorem dX0_stillFor_4 : decode cX0_stillFor 4 = .ok (.iconst (-1), 1) := by decide +kernel
theorem dX0_stillFor_5 : decode cX0_stillFor 5 = .ok (.if_icmp .ne 13, 3) := by decide +kernel
theorem dX0_stillFor_8 : decode cX0_stillFor 8 = .ok (.aload_n 0, 1) := by decide +kernel
theorem dX0_stillFor_9 : decode cX0_stillFor 9 = .ok (.getfield 12, 3) := by decide +kernel
theorem dX0_stillFor_12 : decode cX0_stillFor 12 = .ok (.getfield 74, 3) := by decide +kernel
theorem dX0_stillFor_15 : decode cX0_stillFor 15 = .ok (.goto 17, 3) := by decide +kernel
theorem dX0_stillFor_18 : decode cX0_stillFor 18 = .ok (.aload_n 0, 1) := by decide +kernel
theorem dX0_stillFor_19 : decode cX0_stillFor 19 = .ok (.getfield 12, 3) := by decide +kernel
theorem dX0_stillFor_22 : decode cX0_stillFor 22 = .ok (.getfield 74, 3) := by decide +kernel
theorem dX0_stillFor_25 : decode cX0_stillFor 25 = .ok (.aload_n 0, 1) := by decide +kernel
theorem dX0_stillFor_26 : decode cX0_stillFor 26 = .ok (.getfield 39, 3) := by decide +kernel
theorem dX0_stillFor_29 : decode cX0_stillFor 29 = .ok (.isub, 1) := by decide +kernel
theorem dX0_stillFor_30 : decode cX0_stillFor 30 = .ok (.iconst 1, 1) := by decide +kernel
theorem dX0_stillFor_31 : decode cX0_stillFor 31 = .ok (.isub, 1) := by decide +kernel
theorem dX0_stillFor_32 : decode cX0_stillFor 32 = .ok (.ireturn, 1) := by decide +kernel
set_option maxRecDepth 20000 in
theorem ggX0_changeStages_X5_beginAnew : GoodIn wsX0_changeStages wsX5_beginAnew := goodIn_r _ [13, 14, 15, 16, 17, 18, 19, 20, 21, 22, 46, 47, 48, 49, 50, 51, 52] (by decide +kernel) (by decide +kernel)
set_option maxRecDepth 20000 in
theorem gX0_changeStages_X5_beginAnew : GoodIn wsX0_changeStages (wsV RX0 101 RX5 yX5_beginAnew wsX5_beginAnew) := goodIn_app (goodIn_of _ (by decide +kernel)) ggX0_changeStages_X5_beginAnew
set_option maxRecDepth 20000 in
theorem ggX0_changeStages_X3_clear : GoodIn wsX0_changeStages wsX3_clear := goodIn_r _ [27, 28, 53, 54, 55, 56, 57] (by decide +kernel) (by decide +kernel)
set_option maxRecDepth 20000 in
theorem gX0_changeStages_X3_clear : GoodIn wsX0_changeStages (wsV RX0 105 RX3 yX3_clear wsX3_clear) := goodIn_app (goodIn_of _ (by decide +kernel)) ggX0_changeStages_X3_clear
set_option maxRecDepth 20000 in
theorem ggX0_changeStages_X4_clear : GoodIn wsX0_changeStages wsX4_clear := goodIn_r _ [33, 34, 35, 36, 37, 20, 21, 22, 58, 59, 60, 61, 62] (by decide +kernel) (by decide +kernel)
set_option maxRecDepth 20000 in
theorem gX0_changeStages_X4_clear : GoodIn wsX0_changeStages (wsV RX0 108 RX4 yX4_clear wsX4_clear) := goodIn_app (goodIn_of _ (by decide +kernel)) ggX0_changeStages_X4_clear
theorem dX0_changeStages_0 : decode cX0_changeStages 0 = .ok (.iload_n 1, 1) := by decide +kernel
theorem dX0_changeStages_1 : decode cX0_changeStages 1 = .ok (.iconst 1, 1) := by decide +kernel
theorem dX0_changeStages_2 : decode cX0_changeStages 2 = .ok (.if_icmp .lt 8, 3) := by decide +kernel
theorem dX0_changeStages_5 : decode cX0_changeStages 5 = .ok (.iload_n 1, 1) := by decide +kernel
theorem dX0_changeStages_6 : decode cX0_changeStages 6 = .ok (.iconst 5, 1) := by decide +kernel
theorem dX0_changeStages_7 : decode cX0_changeStages 7 = .ok (.if_icmp .le 6, 3) := by decide +kernel
theorem dX0_changeStages_10 : decode cX0_changeStages 10 = .ok (.bipush (-2), 2) := by decide +kernel
theorem dX0_changeStages_12 : decode cX0_changeStages 12 = .ok (.ireturn, 1) := by decide +kernel
theorem dX0_changeStages_13 : decode cX0_changeStages 13 = .ok (.aload_n 0, 1) := by decide +kernel
theorem dX0_changeStages_14 : decode cX0_changeStages 14 = .ok (.getfield 12, 3) := by decide +kernel
theorem dX0_changeStages_17 : decode cX0_changeStages 17 = .ok (.getfield 77, 3) := by decide +kernel
theorem dX0_changeStages_20 : decode cX0_changeStages 20 = .ok (.istore_n 2, 1) := by decide +kernel
theorem dX0_changeStages_21 : decode cX0_changeStages 21 = .ok (.aload_n 0, 1) := by decide +kernel
theorem dX0_changeStages_22 : decode cX0_changeStages 22 = .ok (.getfield 12, 3) := by decide +kernel
theorem dX0_changeStages_25 : decode cX0_changeStages 25 = .ok (.iload_n 1, 1) := by decide +kernel
theorem dX0_changeStages_26 : decode cX0_changeStages 26 = .ok (.invokevirtual 101, 3) := by decide +kernel
theorem dX0_changeStages_29 : decode cX0_changeStages 29 = .ok (.aload_n 0, 1) := by decide +kernel
theorem dX0_changeStages_30 : decode cX0_changeStages 30 = .ok (.getfield 21, 3) := by decide +kernel
theorem dX0_changeStages_33 : decode cX0_changeStages 33 = .ok (.invokevirtual 105, 3) := by decide +kernel
theorem dX0_changeStages_36 : decode cX0_changeStages 36 = .ok (.aload_n 0, 1) := by decide +kernel
theorem dX0_changeStages_37 : decode cX0_changeStages 37 = .ok (.getfield 28, 3) := by decide +kernel
theorem dX0_changeStages_40 : decode cX0_changeStages 40 = .ok (.invokevirtual 108, 3) := by decide +kernel
theorem dX0_changeStages_43 : decode cX0_changeStages 43 = .ok (.aload_n 0, 1) := by decide +kernel
theorem dX0_changeStages_44 : decode cX0_changeStages 44 = .ok (.iconst 0, 1) := by decide +kernel
theorem dX0_changeStages_45 : decode cX0_changeStages 45 = .ok (.putfield 52, 3) := by decide +kernel
theorem dX0_changeStages_48 : decode cX0_changeStages 48 = .ok (.aload_n 0, 1) := by decide +kernel
theorem dX0_changeStages_49 : decode cX0_changeStages 49 = .ok (.iconst (-1), 1) := by decide +kernel
theorem dX0_changeStages_50 : decode cX0_changeStages 50 = .ok (.putfield 36, 3) := by decide +kernel
theorem dX0_changeStages_53 : decode cX0_changeStages 53 = .ok (.aload_n 0, 1) := by decide +kernel
theorem dX0_changeStages_54 : decode cX0_changeStages 54 = .ok (.iconst (-1), 1) := by decide +kernel
theorem dX0_changeStages_55 : decode cX0_changeStages 55 = .ok (.putfield 39, 3) := by decide +kernel
theorem dX0_changeStages_58 : decode cX0_changeStages 58 = .ok (.aload_n 0, 1) := by decide +kernel
theorem dX0_changeStages_59 : decode cX0_changeStages 59 = .ok (.iconst 0, 1) := by decide +kernel
theorem dX0_changeStages_60 : decode cX0_changeStages 60 = .ok (.putfield 55, 3) := by decide +kernel
theorem dX0_changeStages_63 : decode cX0_changeStages 63 = .ok (.iload_n 2, 1) := by decide +kernel
theorem dX0_changeStages_64 : decode cX0_changeStages 64 = .ok (.ireturn, 1) := by decide +kernel
theorem dX0_changeHold_0 : decode cX0_changeHold 0 = .ok (.iload_n 1, 1) := by decide +kernel
theorem dX0_changeHold_1 : decode cX0_changeHold 1 = .ok (.ifCond .lt 9, 3) := by decide +kernel
theorem dX0_changeHold_4 : decode cX0_changeHold 4 = .ok (.iload_n 1, 1) := by decide +kernel
theorem dX0_changeHold_5 : decode cX0_changeHold 5 = .ok (.bipush 20, 2) := by decide +kernel
theorem dX0_changeHold_7 : decode cX0_changeHold 7 = .ok (.if_icmp .le 6, 3) := by decide +kernel
theorem dX0_changeHold_10 : decode cX0_changeHold 10 = .ok (.bipush (-2), 2) := by decide +kernel
theorem dX0_changeHold_12 : decode cX0_changeHold 12 = .ok (.ireturn, 1) := by decide +kernel
theorem dX0_changeHold_13 : decode cX0_changeHold 13 = .ok (.aload_n 0, 1) := by decide +kernel
theorem dX0_changeHold_14 : decode cX0_changeHold 14 = .ok (.getfield 32, 3) := by decide +kernel
theorem dX0_changeHold_17 : decode cX0_changeHold 17 = .ok (.istore_n 2, 1) := by decide +kernel
theorem dX0_changeHold_18 : decode cX0_changeHold 18 = .ok (.aload_n 0, 1) := by decide +kernel
theorem dX0_changeHold_19 : decode cX0_changeHold 19 = .ok (.iload_n 1, 1) := by decide +kernel
theorem dX0_changeHold_20 : decode cX0_changeHold 20 = .ok (.putfield 32, 3) := by decide +kernel
theorem dX0_changeHold_23 : decode cX0_changeHold 23 = .ok (.iload_n 2, 1) := by decide +kernel
theorem dX0_changeHold_24 : decode cX0_changeHold 24 = .ok (.ireturn, 1) := by decide +kernel
set_option maxRecDepth 20000 in
theorem ggX0_nanosecond_X5_turnDue : GoodIn wsX0_nanosecond wsX5_turnDue := goodIn_r _ [13, 14, 15, 16, 17, 18, 19, 20, 12, 21, 22, 23, 24, 25, 26, 27, 28, 64, 65, 66, 67, 68, 69, 70] (by decide +kernel) (by decide +kernel)
set_option maxRecDepth 20000 in
theorem gX0_nanosecond_X5_turnDue : GoodIn wsX0_nanosecond (wsV RX0 109 RX5 yX5_turnDue wsX5_turnDue) := goodIn_app (goodIn_of _ (by decide +kernel)) ggX0_nanosecond_X5_turnDue
set_option maxRecDepth 20000 in
theorem ggX0_nanosecond_X4_add : GoodIn wsX0_nanosecond wsX4_add := goodIn_r _ [33, 34, 35, 36, 37, 38, 71, 72, 73, 74, 75] (by decide +kernel) (by decide +kernel)
set_option maxRecDepth 20000 in
theorem gX0_nanosecond_X4_add : GoodIn wsX0_nanosecond (wsV RX0 112 RX4 yX4_add wsX4_add) := goodIn_app (goodIn_of _ (by decide +kernel)) ggX0_nanosecond_X4_add
set_option maxRecDepth 20000 in
theorem ggX0_nanosecond_X0_isStill : GoodIn wsX0_nanosecond wsX0_isStill := goodIn_r _ [43, 1, 44, 3, 2, 45, 56, 57, 58, 59, 60, 61, 62, 63, 64, 65, 66, 67, 68, 69, 70] (by decide +kernel) (by decide +kernel)
set_option maxRecDepth 20000 in
theorem gX0_nanosecond_X0_isStill : GoodIn wsX0_nanosecond (wsV RX0 115 RX0 yX0_isStill wsX0_isStill) := goodIn_app (goodIn_of _ (by decide +kernel)) ggX0_nanosecond_X0_isStill
set_option maxRecDepth 20000 in
theorem ggX0_nanosecond_X3_add : GoodIn wsX0_nanosecond wsX3_add := goodIn_r _ [50, 51, 52, 53, 54, 55, 76, 77, 78, 79, 80] (by decide +kernel) (by decide +kernel)
set_option maxRecDepth 20000 in
theorem gX0_nanosecond_X3_add : GoodIn wsX0_nanosecond (wsV RX0 97 RX3 yX3_add wsX3_add) := goodIn_app (goodIn_of _ (by decide +kernel)) ggX0_nanosecond_X3_add
theorem dX0_nanosecond_0 : decode cX0_nanosecond 0 = .ok (.aload_n 0, 1) := by decide +kernel
theorem dX0_nanosecond_1 : decode cX0_nanosecond 1 = .ok (.getfield 12, 3) := by decide +kernel
theorem dX0_nanosecond_4 : decode cX0_nanosecond 4 = .ok (.invokevirtual 109, 3) := by decide +kernel
theorem dX0_nanosecond_7 : decode cX0_nanosecond 7 = .ok (.istore_n 1, 1) := by decide +kernel
theorem dX0_nanosecond_8 : decode cX0_nanosecond 8 = .ok (.iload_n 1, 1) := by decide +kernel
theorem dX0_nanosecond_9 : decode cX0_nanosecond 9 = .ok (.ifCond .le 54, 3) := by decide +kernel
theorem dX0_nanosecond_12 : decode cX0_nanosecond 12 = .ok (.aload_n 0, 1) := by decide +kernel
theorem dX0_nanosecond_13 : decode cX0_nanosecond 13 = .ok (.aload_n 0, 1) := by decide +kernel
theorem dX0_nanosecond_14 : decode cX0_nanosecond 14 = .ok (.getfield 12, 3) := by decide +kernel
theorem dX0_nanosecond_17 : decode cX0_nanosecond 17 = .ok (.getfield 74, 3) := by decide +kernel
theorem dX0_nanosecond_20 : decode cX0_nanosecond 20 = .ok (.putfield 39, 3) := by decide +kernel
theorem dX0_nanosecond_23 : decode cX0_nanosecond 23 = .ok (.aload_n 0, 1) := by decide +kernel
theorem dX0_nanosecond_24 : decode cX0_nanosecond 24 = .ok (.getfield 28, 3) := by decide +kernel
theorem dX0_nanosecond_27 : decode cX0_nanosecond 27 = .ok (.aload_n 0, 1) := by decide +kernel
theorem dX0_nanosecond_28 : decode cX0_nanosecond 28 = .ok (.getfield 12, 3) := by decide +kernel
theorem dX0_nanosecond_31 : decode cX0_nanosecond 31 = .ok (.getfield 94, 3) := by decide +kernel
theorem dX0_nanosecond_34 : decode cX0_nanosecond 34 = .ok (.aload_n 0, 1) := by decide +kernel
theorem dX0_nanosecond_35 : decode cX0_nanosecond 35 = .ok (.getfield 12, 3) := by decide +kernel
theorem dX0_nanosecond_38 : decode cX0_nanosecond 38 = .ok (.getfield 74, 3) := by decide +kernel
theorem dX0_nanosecond_41 : decode cX0_nanosecond 41 = .ok (.aload_n 0, 1) := by decide +kernel
theorem dX0_nanosecond_42 : decode cX0_nanosecond 42 = .ok (.getfield 12, 3) := by decide +kernel
theorem dX0_nanosecond_45 : decode cX0_nanosecond 45 = .ok (.getfield 94, 3) := by decide +kernel
theorem dX0_nanosecond_48 : decode cX0_nanosecond 48 = .ok (.aload_n 0, 1) := by decide +kernel
theorem dX0_nanosecond_49 : decode cX0_nanosecond 49 = .ok (.getfield 52, 3) := by decide +kernel
theorem dX0_nanosecond_52 : decode cX0_nanosecond 52 = .ok (.if_icmp .eq 7, 3) := by decide +kernel
theorem dX0_nanosecond_55 : decode cX0_nanosecond 55 = .ok (.iconst 1, 1) := by decide +kernel
theorem dX0_nanosecond_56 : decode cX0_nanosecond 56 = .ok (.goto 4, 3) := by decide +kernel
theorem dX0_nanosecond_59 : decode cX0_nanosecond 59 = .ok (.iconst 0, 1) := by decide +kernel
theorem dX0_nanosecond_60 : decode cX0_nanosecond 60 = .ok (.invokevirtual 112, 3) := by decide +kernel
theorem dX0_nanosecond_63 : decode cX0_nanosecond 63 = .ok (.aload_n 0, 1) := by decide +kernel
theorem dX0_nanosecond_64 : decode cX0_nanosecond 64 = .ok (.getfield 55, 3) := by decide +kernel
theorem dX0_nanosecond_67 : decode cX0_nanosecond 67 = .ok (.ifCond .eq 41, 3) := by decide +kernel
theorem dX0_nanosecond_70 : decode cX0_nanosecond 70 = .ok (.aload_n 0, 1) := by decide +kernel
theorem dX0_nanosecond_71 : decode cX0_nanosecond 71 = .ok (.invokevirtual 115, 3) := by decide +kernel
theorem dX0_nanosecond_74 : decode cX0_nanosecond 74 = .ok (.ifCond .eq 34, 3) := by decide +kernel
theorem dX0_nanosecond_77 : decode cX0_nanosecond 77 = .ok (.aload_n 0, 1) := by decide +kernel
theorem dX0_nanosecond_78 : decode cX0_nanosecond 78 = .ok (.iconst 0, 1) := by decide +kernel
theorem dX0_nanosecond_79 : decode cX0_nanosecond 79 = .ok (.putfield 55, 3) := by decide +kernel
theorem dX0_nanosecond_82 : decode cX0_nanosecond 82 = .ok (.aload_n 0, 1) := by decide +kernel
theorem dX0_nanosecond_83 : decode cX0_nanosecond 83 = .ok (.getfield 21, 3) := by decide +kernel
theorem dX0_nanosecond_86 : decode cX0_nanosecond 86 = .ok (.aload_n 0, 1) := by decide +kernel
theorem dX0_nanosecond_87 : decode cX0_nanosecond 87 = .ok (.getfield 12, 3) := by decide +kernel
theorem dX0_nanosecond_90 : decode cX0_nanosecond 90 = .ok (.getfield 94, 3) := by decide +kernel
theorem dX0_nanosecond_93 : decode cX0_nanosecond 93 = .ok (.aload_n 0, 1) := by decide +kernel
theorem dX0_nanosecond_94 : decode cX0_nanosecond 94 = .ok (.getfield 12, 3) := by decide +kernel
theorem dX0_nanosecond_97 : decode cX0_nanosecond 97 = .ok (.getfield 74, 3) := by decide +kernel
theorem dX0_nanosecond_100 : decode cX0_nanosecond 100 = .ok (.aload_n 0, 1) := by decide +kernel
theorem dX0_nanosecond_101 : decode cX0_nanosecond 101 = .ok (.getfield 52, 3) := by decide +kernel
theorem dX0_nanosecond_104 : decode cX0_nanosecond 104 = .ok (.iconst 1, 1) := by decide +kernel
theorem dX0_nanosecond_105 : decode cX0_nanosecond 105 = .ok (.invokevirtual 97, 3) := by decide +kernel
theorem dX0_nanosecond_108 : decode cX0_nanosecond 108 = .ok (.aload_n 0, 1) := by decide +kernel
theorem dX0_nanosecond_109 : decode cX0_nanosecond 109 = .ok (.getfield 12, 3) := by decide +kernel
theorem dX0_nanosecond_112 : decode cX0_nanosecond 112 = .ok (.dup, 1) := by decide +kernel
theorem dX0_nanosecond_113 : decode cX0_nanosecond 113 = .ok (.getfield 74, 3) := by decide +kernel
theorem dX0_nanosecond_116 : decode cX0_nanosecond 116 = .ok (.iconst 1, 1) := by decide +kernel
theorem dX0_nanosecond_117 : decode cX0_nanosecond 117 = .ok (.iadd, 1) := by decide +kernel
theorem dX0_nanosecond_118 : decode cX0_nanosecond 118 = .ok (.putfield 74, 3) := by decide +kernel
theorem dX0_nanosecond_121 : decode cX0_nanosecond 121 = .ok (.iload_n 1, 1) := by decide +kernel
theorem dX0_nanosecond_122 : decode cX0_nanosecond 122 = .ok (.ireturn, 1) := by decide +kernel
theorem dX0_isStill_0 : decode cX0_isStill 0 = .ok (.aload_n 0, 1) := by decide +kernel
theorem dX0_isStill_1 : decode cX0_isStill 1 = .ok (.getfield 12, 3) := by decide +kernel
theorem dX0_isStill_4 : decode cX0_isStill 4 = .ok (.getfield 119, 3) := by decide +kernel
theorem dX0_isStill_7 : decode cX0_isStill 7 = .ok (.ifCond .ne 34, 3) := by decide +kernel
theorem dX0_isStill_10 : decode cX0_isStill 10 = .ok (.aload_n 0, 1) := by decide +kernel
theorem dX0_isStill_11 : decode cX0_isStill 11 = .ok (.getfield 39, 3) := by decide +kernel
theorem dX0_isStill_14 : decode cX0_isStill 14 = .ok (.iconst (-1), 1) := by decide +kernel
theorem dX0_isStill_15 : decode cX0_isStill 15 = .ok (.if_icmp .eq 22, 3) := by decide +kernel
theorem dX0_isStill_18 : decode cX0_isStill 18 = .ok (.aload_n 0, 1) := by decide +kernel
theorem dX0_isStill_19 : decode cX0_isStill 19 = .ok (.getfield 12, 3) := by decide +kernel
theorem dX0_isStill_22 : decode cX0_isStill 22 = .ok (.getfield 74, 3) := by decide +kernel
theorem dX0_isStill_25 : decode cX0_isStill 25 = .ok (.aload_n 0, 1) := by decide +kernel
theorem dX0_isStill_26 : decode cX0_isStill 26 = .ok (.getfield 39, 3) := by decide +kernel
theorem dX0_isStill_29 : decode cX0_isStill 29 = .ok (.isub, 1) := by decide +kernel
theorem dX0_isStill_30 : decode cX0_isStill 30 = .ok (.aload_n 0, 1) := by decide +kernel
theorem dX0_isStill_31 : decode cX0_isStill 31 = .ok (.getfield 32, 3) := by decide +kernel
theorem dX0_isStill_34 : decode cX0_isStill 34 = .ok (.if_icmp .lt 7, 3) := by decide +kernel
theorem dX0_isStill_37 : decode cX0_isStill 37 = .ok (.iconst 1, 1) := by decide +kernel
theorem dX0_isStill_38 : decode cX0_isStill 38 = .ok (.goto 4, 3) := by decide +kernel
theorem dX0_isStill_41 : decode cX0_isStill 41 = .ok (.iconst 0, 1) := by decide +kernel
theorem dX0_isStill_42 : decode cX0_isStill 42 = .ok (.ireturn, 1) := by decide +kernel
