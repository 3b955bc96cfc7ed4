theorem dJ7_fill_53178_0 : decode cJ7_fill_53178 0 = .ok (.iconst 0, 1) := by decide +kernel
theorem dJ7_fill_53178_1 : decode cJ7_fill_53178 1 = .ok (.istore_n 2, 1) := by decide +kernel
theorem dJ7_fill_53178_2 : decode cJ7_fill_53178 2 = .ok (.aload_n 0, 1) := by decide +kernel
theorem dJ7_fill_53178_3 : decode cJ7_fill_53178 3 = .ok (.arraylength, 1) := by decide +kernel
theorem dJ7_fill_53178_4 : decode cJ7_fill_53178 4 = .ok (.istore_n 3, 1) := by decide +kernel
theorem dJ7_fill_53178_5 : decode cJ7_fill_53178 5 = .ok (.iload_n 2, 1) := by decide +kernel
theorem dJ7_fill_53178_6 : decode cJ7_fill_53178 6 = .ok (.iload_n 3, 1) := by decide +kernel
theorem dJ7_fill_53178_7 : decode cJ7_fill_53178 7 = .ok (.if_icmp .ge 13, 3) := by decide +kernel
theorem dJ7_fill_53178_10 : decode cJ7_fill_53178 10 = .ok (.aload_n 0, 1) := by decide +kernel
theorem dJ7_fill_53178_11 : decode cJ7_fill_53178 11 = .ok (.iload_n 2, 1) := by decide +kernel
theorem dJ7_fill_53178_12 : decode cJ7_fill_53178 12 = .ok (.iload_n 1, 1) := by decide +kernel
theorem dJ7_fill_53178_13 : decode cJ7_fill_53178 13 = .ok (.iastore, 1) := by decide +kernel
theorem dJ7_fill_53178_14 : decode cJ7_fill_53178 14 = .ok (.iinc 2 1, 3) := by decide +kernel
theorem dJ7_fill_53178_17 : decode cJ7_fill_53178 17 = .ok (.goto (-12), 3) := by decide +kernel
theorem dJ7_fill_53178_20 : decode cJ7_fill_53178 20 = .ok (.return_, 1) := by decide +kernel
theorem dJ9_max_7cf53_0 : decode cJ9_max_7cf53 0 = .ok (.iload_n 0, 1) := by decide +kernel
theorem dJ9_max_7cf53_1 : decode cJ9_max_7cf53 1 = .ok (.iload_n 1, 1) := by decide +kernel
theorem dJ9_max_7cf53_2 : decode cJ9_max_7cf53 2 = .ok (.if_icmp .lt 7, 3) := by decide +kernel
theorem dJ9_max_7cf53_5 : decode cJ9_max_7cf53 5 = .ok (.iload_n 0, 1) := by decide +kernel
theorem dJ9_max_7cf53_6 : decode cJ9_max_7cf53 6 = .ok (.goto 4, 3) := by decide +kernel
theorem dJ9_max_7cf53_9 : decode cJ9_max_7cf53 9 = .ok (.iload_n 1, 1) := by decide +kernel
theorem dJ9_max_7cf53_10 : decode cJ9_max_7cf53 10 = .ok (.ireturn, 1) := by decide +kernel
theorem dJ9_min_7cf53_0 : decode cJ9_min_7cf53 0 = .ok (.iload_n 0, 1) := by decide +kernel
theorem dJ9_min_7cf53_1 : decode cJ9_min_7cf53 1 = .ok (.iload_n 1, 1) := by decide +kernel
theorem dJ9_min_7cf53_2 : decode cJ9_min_7cf53 2 = .ok (.if_icmp .gt 7, 3) := by decide +kernel
theorem dJ9_min_7cf53_5 : decode cJ9_min_7cf53 5 = .ok (.iload_n 0, 1) := by decide +kernel
theorem dJ9_min_7cf53_6 : decode cJ9_min_7cf53 6 = .ok (.goto 4, 3) := by decide +kernel
theorem dJ9_min_7cf53_9 : decode cJ9_min_7cf53 9 = .ok (.iload_n 1, 1) := by decide +kernel
theorem dJ9_min_7cf53_10 : decode cJ9_min_7cf53 10 = .ok (.ireturn, 1) := by decide +kernel
set_option maxRecDepth 20000 in
theorem ggX5_init_J7_fill_53178 : GoodIn wsX5_init wsJ7_fill_53178 := goodIn_r _ [12] (by decide +kernel) (by decide +kernel)
set_option maxRecDepth 20000 in
theorem gX5_init_J7_fill_53178 : GoodIn wsX5_init (va_wsS RX5 25 yJ7_fill_53178 wsJ7_fill_53178) := goodIn_app (goodIn_of _ (by decide +kernel)) ggX5_init_J7_fill_53178
theorem dX5_init_0 : decode cX5_init 0 = .ok (.aload_n 0, 1) := by decide +kernel
theorem dX5_init_1 : decode cX5_init 1 = .ok (.invokespecial 3, 3) := by decide +kernel
theorem dX5_init_4 : decode cX5_init 4 = .ok (.aload_n 0, 1) := by decide +kernel
theorem dX5_init_5 : decode cX5_init 5 = .ok (.iconst 4, 1) := by decide +kernel
theorem dX5_init_6 : decode cX5_init 6 = .ok (.putfield 9, 3) := by decide +kernel
theorem dX5_init_9 : decode cX5_init 9 = .ok (.aload_n 0, 1) := by decide +kernel
theorem dX5_init_10 : decode cX5_init 10 = .ok (.iconst 5, 1) := by decide +kernel
theorem dX5_init_11 : decode cX5_init 11 = .ok (.newarray .int, 2) := by decide +kernel
theorem dX5_init_13 : decode cX5_init 13 = .ok (.putfield 15, 3) := by decide +kernel
theorem dX5_init_16 : decode cX5_init 16 = .ok (.aload_n 0, 1) := by decide +kernel
theorem dX5_init_17 : decode cX5_init 17 = .ok (.iconst 5, 1) := by decide +kernel
theorem dX5_init_18 : decode cX5_init 18 = .ok (.newarray .int, 2) := by decide +kernel
theorem dX5_init_20 : decode cX5_init 20 = .ok (.putfield 19, 3) := by decide +kernel
theorem dX5_init_23 : decode cX5_init 23 = .ok (.aload_n 0, 1) := by decide +kernel
theorem dX5_init_24 : decode cX5_init 24 = .ok (.bipush 105, 2) := by decide +kernel
theorem dX5_init_26 : decode cX5_init 26 = .ok (.newarray .int, 2) := by decide +kernel
theorem dX5_init_28 : decode cX5_init 28 = .ok (.putfield 22, 3) := by decide +kernel
theorem dX5_init_31 : decode cX5_init 31 = .ok (.aload_n 0, 1) := by decide +kernel
theorem dX5_init_32 : decode cX5_init 32 = .ok (.getfield 15, 3) := by decide +kernel
theorem dX5_init_35 : decode cX5_init 35 = .ok (.iconst 3, 1) := by decide +kernel
theorem dX5_init_36 : decode cX5_init 36 = .ok (.invokestatic 25, 3) := by decide +kernel
theorem dX5_init_39 : decode cX5_init 39 = .ok (.return_, 1) := by decide +kernel
theorem dX5_copyFrom_0 : decode cX5_copyFrom 0 = .ok (.aload_n 0, 1) := by decide +kernel
theorem dX5_copyFrom_1 : decode cX5_copyFrom 1 = .ok (.aload_n 1, 1) := by decide +kernel
theorem dX5_copyFrom_2 : decode cX5_copyFrom 2 = .ok (.getfield 31, 3) := by decide +kernel
theorem dX5_copyFrom_5 : decode cX5_copyFrom 5 = .ok (.putfield 31, 3) := by decide +kernel
theorem dX5_copyFrom_8 : decode cX5_copyFrom 8 = .ok (.aload_n 0, 1) := by decide +kernel
theorem dX5_copyFrom_9 : decode cX5_copyFrom 9 = .ok (.aload_n 1, 1) := by decide +kernel
theorem dX5_copyFrom_10 : decode cX5_copyFrom 10 = .ok (.getfield 9, 3) := by decide +kernel
theorem dX5_copyFrom_13 : decode cX5_copyFrom 13 = .ok (.putfield 9, 3) := by decide +kernel
theorem dX5_copyFrom_16 : decode cX5_copyFrom 16 = .ok (.aload_n 0, 1) := by decide +kernel
theorem dX5_copyFrom_17 : decode cX5_copyFrom 17 = .ok (.aload_n 1, 1) := by decide +kernel
theorem dX5_copyFrom_18 : decode cX5_copyFrom 18 = .ok (.getfield 34, 3) := by decide +kernel
theorem dX5_copyFrom_21 : decode cX5_copyFrom 21 = .ok (.putfield 34, 3) := by decide +kernel
theorem dX5_copyFrom_24 : decode cX5_copyFrom 24 = .ok (.aload_n 0, 1) := by decide +kernel
theorem dX5_copyFrom_25 : decode cX5_copyFrom 25 = .ok (.aload_n 1, 1) := by decide +kernel
theorem dX5_copyFrom_26 : decode cX5_copyFrom 26 = .ok (.getfield 37, 3) := by decide +kernel
theorem dX5_copyFrom_29 : decode cX5_copyFrom 29 = .ok (.putfield 37, 3) := by decide +kernel
theorem dX5_copyFrom_32 : decode cX5_copyFrom 32 = .ok (.aload_n 1, 1) := by decide +kernel
theorem dX5_copyFrom_33 : decode cX5_copyFrom 33 = .ok (.getfield 15, 3) := by decide +kernel
theorem dX5_copyFrom_36 : decode cX5_copyFrom 36 = .ok (.iconst 0, 1) := by decide +kernel
theorem dX5_copyFrom_37 : decode cX5_copyFrom 37 = .ok (.aload_n 0, 1) := by decide +kernel
theorem dX5_copyFrom_38 : decode cX5_copyFrom 38 = .ok (.getfield 15, 3) := by decide +kernel
theorem dX5_copyFrom_41 : decode cX5_copyFrom 41 = .ok (.iconst 0, 1) := by decide +kernel
theorem dX5_copyFrom_42 : decode cX5_copyFrom 42 = .ok (.iconst 5, 1) := by decide +kernel
theorem dX5_copyFrom_43 : decode cX5_copyFrom 43 = .ok (.invokestatic 40, 3) := by decide +kernel
theorem dX5_copyFrom_46 : decode cX5_copyFrom 46 = .ok (.aload_n 1, 1) := by decide +kernel
theorem dX5_copyFrom_47 : decode cX5_copyFrom 47 = .ok (.getfield 19, 3) := by decide +kernel
theorem dX5_copyFrom_50 : decode cX5_copyFrom 50 = .ok (.iconst 0, 1) := by decide +kernel
theorem dX5_copyFrom_51 : decode cX5_copyFrom 51 = .ok (.aload_n 0, 1) := by decide +kernel
theorem dX5_copyFrom_52 : decode cX5_copyFrom 52 = .ok (.getfield 19, 3) := by decide +kernel
theorem dX5_copyFrom_55 : decode cX5_copyFrom 55 = .ok (.iconst 0, 1) := by decide +kernel
theorem dX5_copyFrom_56 : decode cX5_copyFrom 56 = .ok (.iconst 5, 1) := by decide +kernel
theorem dX5_copyFrom_57 : decode cX5_copyFrom 57 = .ok (.invokestatic 40, 3) := by decide +kernel
theorem dX5_copyFrom_60 : decode cX5_copyFrom 60 = .ok (.aload_n 1, 1) := by decide +kernel
theorem dX5_copyFrom_61 : decode cX5_copyFrom 61 = .ok (.getfield 22, 3) := by decide +kernel
theorem dX5_copyFrom_64 : decode cX5_copyFrom 64 = .ok (.iconst 0, 1) := by decide +kernel
theorem dX5_copyFrom_65 : decode cX5_copyFrom 65 = .ok (.aload_n 0, 1) := by decide +kernel
theorem dX5_copyFrom_66 : decode cX5_copyFrom 66 = .ok (.getfield 22, 3) := by decide +kernel
theorem dX5_copyFrom_69 : decode cX5_copyFrom 69 = .ok (.iconst 0, 1) := by decide +kernel
theorem dX5_copyFrom_70 : decode cX5_copyFrom 70 = .ok (.bipush 105, 2) := by decide +kernel
theorem dX5_copyFrom_72 : decode cX5_copyFrom 72 = .ok (.invokestatic 40, 3) := by decide +kernel
theorem dX5_copyFrom_75 : decode cX5_copyFrom 75 = .ok (.return_, 1) := by decide +kernel
set_option maxRecDepth 20000 in
theorem ggX5_beginAnew_J7_fill_53178 : GoodIn wsX5_beginAnew wsJ7_fill_53178 := goodIn_r _ [9] (by decide +kernel) (by decide +kernel)
set_option maxRecDepth 20000 in
theorem gX5_beginAnew_J7_fill_53178 : GoodIn wsX5_beginAnew (va_wsS RX5 25 yJ7_fill_53178 wsJ7_fill_53178) := goodIn_app (goodIn_of _ (by decide +kernel)) ggX5_beginAnew_J7_fill_53178
theorem dX5_beginAnew_0 : decode cX5_beginAnew 0 = .ok (.aload_n 0, 1) := by decide +kernel
theorem dX5_beginAnew_1 : decode cX5_beginAnew 1 = .ok (.iload_n 1, 1) := by decide +kernel
theorem dX5_beginAnew_2 : decode cX5_beginAnew 2 = .ok (.putfield 9, 3) := by decide +kernel
theorem dX5_beginAnew_5 : decode cX5_beginAnew 5 = .ok (.aload_n 0, 1) := by decide +kernel
theorem dX5_beginAnew_6 : decode cX5_beginAnew 6 = .ok (.iconst 0, 1) := by decide +kernel
theorem dX5_beginAnew_7 : decode cX5_beginAnew 7 = .ok (.putfield 34, 3) := by decide +kernel
theorem dX5_beginAnew_10 : decode cX5_beginAnew 10 = .ok (.aload_n 0, 1) := by decide +kernel
theorem dX5_beginAnew_11 : decode cX5_beginAnew 11 = .ok (.iconst 0, 1) := by decide +kernel
theorem dX5_beginAnew_12 : decode cX5_beginAnew 12 = .ok (.putfield 37, 3) := by decide +kernel
theorem dX5_beginAnew_15 : decode cX5_beginAnew 15 = .ok (.aload_n 0, 1) := by decide +kernel
theorem dX5_beginAnew_16 : decode cX5_beginAnew 16 = .ok (.getfield 19, 3) := by decide +kernel
theorem dX5_beginAnew_19 : decode cX5_beginAnew 19 = .ok (.iconst 0, 1) := by decide +kernel
theorem dX5_beginAnew_20 : decode cX5_beginAnew 20 = .ok (.invokestatic 25, 3) := by decide +kernel
theorem dX5_beginAnew_23 : decode cX5_beginAnew 23 = .ok (.aload_n 0, 1) := by decide +kernel
theorem dX5_beginAnew_24 : decode cX5_beginAnew 24 = .ok (.getfield 22, 3) := by decide +kernel
theorem dX5_beginAnew_27 : decode cX5_beginAnew 27 = .ok (.iconst 0, 1) := by decide +kernel
theorem dX5_beginAnew_28 : decode cX5_beginAnew 28 = .ok (.invokestatic 25, 3) := by decide +kernel
theorem dX5_beginAnew_31 : decode cX5_beginAnew 31 = .ok (.return_, 1) := by decide +kernel
theorem dX5_hasStage_0 : decode cX5_hasStage 0 = .ok (.iload_n 1, 1) := by decide +kernel
theorem dX5_hasStage_1 : decode cX5_hasStage 1 = .ok (.ifCond .lt 15, 3) := by decide +kernel
theorem dX5_hasStage_4 : decode cX5_hasStage 4 = .ok (.iload_n 1, 1) := by decide +kernel
theorem dX5_hasStage_5 : decode cX5_hasStage 5 = .ok (.aload_n 0, 1) := by decide +kernel
theorem dX5_hasStage_6 : decode cX5_hasStage 6 = .ok (.getfield 9, 3) := by decide +kernel
theorem dX5_hasStage_9 : decode cX5_hasStage 9 = .ok (.if_icmp .ge 7, 3) := by decide +kernel
theorem dX5_hasStage_12 : decode cX5_hasStage 12 = .ok (.iconst 1, 1) := by decide +kernel
theorem dX5_hasStage_13 : decode cX5_hasStage 13 = .ok (.goto 4, 3) := by decide +kernel
theorem dX5_hasStage_16 : decode cX5_hasStage 16 = .ok (.iconst 0, 1) := by decide +kernel
theorem dX5_hasStage_17 : decode cX5_hasStage 17 = .ok (.ireturn, 1) := by decide +kernel
theorem dX5_output_0 : decode cX5_output 0 = .ok (.aload_n 0, 1) := by decide +kernel
theorem dX5_output_1 : decode cX5_output 1 = .ok (.getfield 34, 3) := by decide +kernel
theorem dX5_output_4 : decode cX5_output 4 = .ok (.iload_n 1, 1) := by decide +kernel
theorem dX5_output_5 : decode cX5_output 5 = .ok (.ishr, 1) := by decide +kernel
theorem dX5_output_6 : decode cX5_output 6 = .ok (.iconst 1, 1) := by decide +kernel
theorem dX5_output_7 : decode cX5_output 7 = .ok (.iand, 1) := by decide +kernel
theorem dX5_output_8 : decode cX5_output 8 = .ok (.ireturn, 1) := by decide +kernel
theorem dX5_begin_0 : decode cX5_begin 0 = .ok (.aload_n 0, 1) := by decide +kernel
theorem dX5_begin_1 : decode cX5_begin 1 = .ok (.getfield 22, 3) := by decide +kernel
theorem dX5_begin_4 : decode cX5_begin 4 = .ok (.iload_n 1, 1) := by decide +kernel
theorem dX5_begin_5 : decode cX5_begin 5 = .ok (.bipush 21, 2) := by decide +kernel
theorem dX5_begin_7 : decode cX5_begin 7 = .ok (.imul, 1) := by decide +kernel
theorem dX5_begin_8 : decode cX5_begin 8 = .ok (.aload_n 0, 1) := by decide +kernel
theorem dX5_begin_9 : decode cX5_begin 9 = .ok (.getfield 31, 3) := by decide +kernel
theorem dX5_begin_12 : decode cX5_begin 12 = .ok (.aload_n 0, 1) := by decide +kernel
theorem dX5_begin_13 : decode cX5_begin 13 = .ok (.getfield 15, 3) := by decide +kernel
theorem dX5_begin_16 : decode cX5_begin 16 = .ok (.iload_n 1, 1) := by decide +kernel
theorem dX5_begin_17 : decode cX5_begin 17 = .ok (.iaload, 1) := by decide +kernel
theorem dX5_begin_18 : decode cX5_begin 18 = .ok (.iadd, 1) := by decide +kernel
theorem dX5_begin_19 : decode cX5_begin 19 = .ok (.bipush 21, 2) := by decide +kernel
theorem dX5_begin_21 : decode cX5_begin 21 = .ok (.irem, 1) := by decide +kernel
theorem dX5_begin_22 : decode cX5_begin 22 = .ok (.iadd, 1) := by decide +kernel
theorem dX5_begin_23 : decode cX5_begin 23 = .ok (.dup2, 1) := by decide +kernel
theorem dX5_begin_24 : decode cX5_begin 24 = .ok (.iaload, 1) := by decide +kernel
theorem dX5_begin_25 : decode cX5_begin 25 = .ok (.iload_n 2, 1) := by decide +kernel
theorem dX5_begin_26 : decode cX5_begin 26 = .ok (.iadd, 1) := by decide +kernel
theorem dX5_begin_27 : decode cX5_begin 27 = .ok (.iastore, 1) := by decide +kernel
theorem dX5_begin_28 : decode cX5_begin 28 = .ok (.aload_n 0, 1) := by decide +kernel
theorem dX5_begin_29 : decode cX5_begin 29 = .ok (.dup, 1) := by decide +kernel
theorem dX5_begin_30 : decode cX5_begin 30 = .ok (.getfield 37, 3) := by decide +kernel
theorem dX5_begin_33 : decode cX5_begin 33 = .ok (.iload_n 2, 1) := by decide +kernel
theorem dX5_begin_34 : decode cX5_begin 34 = .ok (.iadd, 1) := by decide +kernel
theorem dX5_begin_35 : decode cX5_begin 35 = .ok (.putfield 37, 3) := by decide +kernel
theorem dX5_begin_38 : decode cX5_begin 38 = .ok (.return_, 1) := by decide +kernel
set_option maxRecDepth 20000 in
theorem ggX5_turnDue_X5_turnOver : GoodIn wsX5_turnDue wsX5_turnOver := goodIn_r _ [9, 10, 11, 17, 18, 19, 20, 21, 22, 23] (by decide +kernel) (by decide +kernel)
set_option maxRecDepth 20000 in
theorem gX5_turnDue_X5_turnOver : GoodIn wsX5_turnDue (wsV RX5 46 RX5 yX5_turnOver wsX5_turnOver) := goodIn_app (goodIn_of _ (by decide +kernel)) ggX5_turnDue_X5_turnOver
set_option maxRecDepth 20000 in
theorem ggX5_turnDue_X5_begin : GoodIn wsX5_turnDue wsX5_begin := goodIn_r _ [15, 3, 2, 16, 4, 17, 18, 19, 20, 21, 22, 23] (by decide +kernel) (by decide +kernel)
set_option maxRecDepth 20000 in
theorem gX5_turnDue_X5_begin : GoodIn wsX5_turnDue (wsV RX5 50 RX5 yX5_begin wsX5_begin) := goodIn_app (goodIn_of _ (by decide +kernel)) ggX5_turnDue_X5_begin
theorem dX5_turnDue_0 : decode cX5_turnDue 0 = .ok (.iconst 0, 1) := by decide +kernel
theorem dX5_turnDue_1 : decode cX5_turnDue 1 = .ok (.istore_n 1, 1) := by decide +kernel
theorem dX5_turnDue_2 : decode cX5_turnDue 2 = .ok (.iconst 0, 1) := by decide +kernel
theorem dX5_turnDue_3 : decode cX5_turnDue 3 = .ok (.istore_n 2, 1) := by decide +kernel
theorem dX5_turnDue_4 : decode cX5_turnDue 4 = .ok (.iload_n 2, 1) := by decide +kernel
theorem dX5_turnDue_5 : decode cX5_turnDue 5 = .ok (.aload_n 0, 1) := by decide +kernel
theorem dX5_turnDue_6 : decode cX5_turnDue 6 = .ok (.getfield 9, 3) := by decide +kernel
theorem dX5_turnDue_9 : decode cX5_turnDue 9 = .ok (.if_icmp .ge 86, 3) := by decide +kernel
theorem dX5_turnDue_12 : decode cX5_turnDue 12 = .ok (.iload_n 2, 1) := by decide +kernel
theorem dX5_turnDue_13 : decode cX5_turnDue 13 = .ok (.bipush 21, 2) := by decide +kernel
theorem dX5_turnDue_15 : decode cX5_turnDue 15 = .ok (.imul, 1) := by decide +kernel
theorem dX5_turnDue_16 : decode cX5_turnDue 16 = .ok (.aload_n 0, 1) := by decide +kernel
theorem dX5_turnDue_17 : decode cX5_turnDue 17 = .ok (.getfield 31, 3) := by decide +kernel
theorem dX5_turnDue_20 : decode cX5_turnDue 20 = .ok (.bipush 21, 2) := by decide +kernel
theorem dX5_turnDue_22 : decode cX5_turnDue 22 = .ok (.irem, 1) := by decide +kernel
theorem dX5_turnDue_23 : decode cX5_turnDue 23 = .ok (.iadd, 1) := by decide +kernel
theorem dX5_turnDue_24 : decode cX5_turnDue 24 = .ok (.istore_n 3, 1) := by decide +kernel
theorem dX5_turnDue_25 : decode cX5_turnDue 25 = .ok (.aload_n 0, 1) := by decide +kernel
theorem dX5_turnDue_26 : decode cX5_turnDue 26 = .ok (.getfield 22, 3) := by decide +kernel
theorem dX5_turnDue_29 : decode cX5_turnDue 29 = .ok (.iload_n 3, 1) := by decide +kernel
theorem dX5_turnDue_30 : decode cX5_turnDue 30 = .ok (.iaload, 1) := by decide +kernel
theorem dX5_turnDue_31 : decode cX5_turnDue 31 = .ok (.istore 4, 2) := by decide +kernel
theorem dX5_turnDue_33 : decode cX5_turnDue 33 = .ok (.iload 4, 2) := by decide +kernel
theorem dX5_turnDue_35 : decode cX5_turnDue 35 = .ok (.ifCond .le 54, 3) := by decide +kernel
theorem dX5_turnDue_38 : decode cX5_turnDue 38 = .ok (.aload_n 0, 1) := by decide +kernel
theorem dX5_turnDue_39 : decode cX5_turnDue 39 = .ok (.getfield 22, 3) := by decide +kernel
theorem dX5_turnDue_42 : decode cX5_turnDue 42 = .ok (.iload_n 3, 1) := by decide +kernel
theorem dX5_turnDue_43 : decode cX5_turnDue 43 = .ok (.iconst 0, 1) := by decide +kernel
theorem dX5_turnDue_44 : decode cX5_turnDue 44 = .ok (.iastore, 1) := by decide +kernel
theorem dX5_turnDue_45 : decode cX5_turnDue 45 = .ok (.aload_n 0, 1) := by decide +kernel
theorem dX5_turnDue_46 : decode cX5_turnDue 46 = .ok (.dup, 1) := by decide +kernel
theorem dX5_turnDue_47 : decode cX5_turnDue 47 = .ok (.getfield 37, 3) := by decide +kernel
theorem dX5_turnDue_50 : decode cX5_turnDue 50 = .ok (.iload 4, 2) := by decide +kernel
theorem dX5_turnDue_52 : decode cX5_turnDue 52 = .ok (.isub, 1) := by decide +kernel
theorem dX5_turnDue_53 : decode cX5_turnDue 53 = .ok (.putfield 37, 3) := by decide +kernel
theorem dX5_turnDue_56 : decode cX5_turnDue 56 = .ok (.iload_n 1, 1) := by decide +kernel
theorem dX5_turnDue_57 : decode cX5_turnDue 57 = .ok (.iload 4, 2) := by decide +kernel
theorem dX5_turnDue_59 : decode cX5_turnDue 59 = .ok (.iadd, 1) := by decide +kernel
theorem dX5_turnDue_60 : decode cX5_turnDue 60 = .ok (.istore_n 1, 1) := by decide +kernel
theorem dX5_turnDue_61 : decode cX5_turnDue 61 = .ok (.aload_n 0, 1) := by decide +kernel
theorem dX5_turnDue_62 : decode cX5_turnDue 62 = .ok (.iload_n 2, 1) := by decide +kernel
theorem dX5_turnDue_63 : decode cX5_turnDue 63 = .ok (.iload 4, 2) := by decide +kernel
theorem dX5_turnDue_65 : decode cX5_turnDue 65 = .ok (.invokevirtual 46, 3) := by decide +kernel
theorem dX5_turnDue_68 : decode cX5_turnDue 68 = .ok (.istore 5, 2) := by decide +kernel
theorem dX5_turnDue_70 : decode cX5_turnDue 70 = .ok (.iload_n 2, 1) := by decide +kernel
theorem dX5_turnDue_71 : decode cX5_turnDue 71 = .ok (.iconst 1, 1) := by decide +kernel
theorem dX5_turnDue_72 : decode cX5_turnDue 72 = .ok (.iadd, 1) := by decide +kernel
theorem dX5_turnDue_73 : decode cX5_turnDue 73 = .ok (.aload_n 0, 1) := by decide +kernel
theorem dX5_turnDue_74 : decode cX5_turnDue 74 = .ok (.getfield 9, 3) := by decide +kernel
theorem dX5_turnDue_77 : decode cX5_turnDue 77 = .ok (.if_icmp .ge 12, 3) := by decide +kernel
theorem dX5_turnDue_80 : decode cX5_turnDue 80 = .ok (.aload_n 0, 1) := by decide +kernel
theorem dX5_turnDue_81 : decode cX5_turnDue 81 = .ok (.iload_n 2, 1) := by decide +kernel
theorem dX5_turnDue_82 : decode cX5_turnDue 82 = .ok (.iconst 1, 1) := by decide +kernel
theorem dX5_turnDue_83 : decode cX5_turnDue 83 = .ok (.iadd, 1) := by decide +kernel
theorem dX5_turnDue_84 : decode cX5_turnDue 84 = .ok (.iload 5, 2) := by decide +kernel
theorem dX5_turnDue_86 : decode cX5_turnDue 86 = .ok (.invokevirtual 50, 3) := by decide +kernel
theorem dX5_turnDue_89 : decode cX5_turnDue 89 = .ok (.iinc 2 1, 3) := by decide +kernel
theorem dX5_turnDue_92 : decode cX5_turnDue 92 = .ok (.goto (-88), 3) := by decide +kernel
theorem dX5_turnDue_95 : decode cX5_turnDue 95 = .ok (.iload_n 1, 1) := by decide +kernel
theorem dX5_turnDue_96 : decode cX5_turnDue 96 = .ok (.ireturn, 1) := by decide +kernel
set_option maxRecDepth 20000 in
theorem ggX5_nanosecond_X5_turnDue : GoodIn wsX5_nanosecond wsX5_turnDue := goodIn_r _ [6, 7, 1, 8, 9, 10, 11, 12, 5, 13, 14, 15, 16, 17, 18, 19, 20, 21, 22, 23, 24, 25, 26, 27] (by decide +kernel) (by decide +kernel)
set_option maxRecDepth 20000 in
theorem gX5_nanosecond_X5_turnDue : GoodIn wsX5_nanosecond (wsV RX5 54 RX5 yX5_turnDue wsX5_turnDue) := goodIn_app (goodIn_of _ (by decide +kernel)) ggX5_nanosecond_X5_turnDue
theorem dX5_nanosecond_0 : decode cX5_nanosecond 0 = .ok (.aload_n 0, 1) := by decide +kernel
theorem dX5_nanosecond_1 : decode cX5_nanosecond 1 = .ok (.invokevirtual 54, 3) := by decide +kernel
theorem dX5_nanosecond_4 : decode cX5_nanosecond 4 = .ok (.pop, 1) := by decide +kernel
theorem dX5_nanosecond_5 : decode cX5_nanosecond 5 = .ok (.aload_n 0, 1) := by decide +kernel
theorem dX5_nanosecond_6 : decode cX5_nanosecond 6 = .ok (.dup, 1) := by decide +kernel
theorem dX5_nanosecond_7 : decode cX5_nanosecond 7 = .ok (.getfield 31, 3) := by decide +kernel
theorem dX5_nanosecond_10 : decode cX5_nanosecond 10 = .ok (.iconst 1, 1) := by decide +kernel
theorem dX5_nanosecond_11 : decode cX5_nanosecond 11 = .ok (.iadd, 1) := by decide +kernel
theorem dX5_nanosecond_12 : decode cX5_nanosecond 12 = .ok (.putfield 31, 3) := by decide +kernel
theorem dX5_nanosecond_15 : decode cX5_nanosecond 15 = .ok (.return_, 1) := by decide +kernel
theorem dX5_onTheirWayIn_0 : decode cX5_onTheirWayIn 0 = .ok (.iconst 0, 1) := by decide +kernel
theorem dX5_onTheirWayIn_1 : decode cX5_onTheirWayIn 1 = .ok (.istore_n 2, 1) := by decide +kernel
theorem dX5_onTheirWayIn_2 : decode cX5_onTheirWayIn 2 = .ok (.iconst 0, 1) := by decide +kernel
theorem dX5_onTheirWayIn_3 : decode cX5_onTheirWayIn 3 = .ok (.istore_n 3, 1) := by decide +kernel
theorem dX5_onTheirWayIn_4 : decode cX5_onTheirWayIn 4 = .ok (.iload_n 3, 1) := by decide +kernel
theorem dX5_onTheirWayIn_5 : decode cX5_onTheirWayIn 5 = .ok (.bipush 21, 2) := by decide +kernel
theorem dX5_onTheirWayIn_7 : decode cX5_onTheirWayIn 7 = .ok (.if_icmp .ge 23, 3) := by decide +kernel
theorem dX5_onTheirWayIn_10 : decode cX5_onTheirWayIn 10 = .ok (.iload_n 2, 1) := by decide +kernel
theorem dX5_onTheirWayIn_11 : decode cX5_onTheirWayIn 11 = .ok (.aload_n 0, 1) := by decide +kernel
theorem dX5_onTheirWayIn_12 : decode cX5_onTheirWayIn 12 = .ok (.getfield 22, 3) := by decide +kernel
theorem dX5_onTheirWayIn_15 : decode cX5_onTheirWayIn 15 = .ok (.iload_n 1, 1) := by decide +kernel
theorem dX5_onTheirWayIn_16 : decode cX5_onTheirWayIn 16 = .ok (.bipush 21, 2) := by decide +kernel
theorem dX5_onTheirWayIn_18 : decode cX5_onTheirWayIn 18 = .ok (.imul, 1) := by decide +kernel
theorem dX5_onTheirWayIn_19 : decode cX5_onTheirWayIn 19 = .ok (.iload_n 3, 1) := by decide +kernel
theorem dX5_onTheirWayIn_20 : decode cX5_onTheirWayIn 20 = .ok (.iadd, 1) := by decide +kernel
theorem dX5_onTheirWayIn_21 : decode cX5_onTheirWayIn 21 = .ok (.iaload, 1) := by decide +kernel
theorem dX5_onTheirWayIn_22 : decode cX5_onTheirWayIn 22 = .ok (.iadd, 1) := by decide +kernel
theorem dX5_onTheirWayIn_23 : decode cX5_onTheirWayIn 23 = .ok (.istore_n 2, 1) := by decide +kernel
theorem dX5_onTheirWayIn_24 : decode cX5_onTheirWayIn 24 = .ok (.iinc 3 1, 3) := by decide +kernel
theorem dX5_onTheirWayIn_27 : decode cX5_onTheirWayIn 27 = .ok (.goto (-23), 3) := by decide +kernel
theorem dX5_onTheirWayIn_30 : decode cX5_onTheirWayIn 30 = .ok (.iload_n 2, 1) := by decide +kernel
theorem dX5_onTheirWayIn_31 : decode cX5_onTheirWayIn 31 = .ok (.ireturn, 1) := by decide +kernel
theorem dX5_untilNext_0 : decode cX5_untilNext 0 = .ok (.iconst 0, 1) := by decide +kernel
theorem dX5_untilNext_1 : decode cX5_untilNext 1 = .ok (.istore_n 2, 1) := by decide +kernel
theorem dX5_untilNext_2 : decode cX5_untilNext 2 = .ok (.iload_n 2, 1) := by decide +kernel
theorem dX5_untilNext_3 : decode cX5_untilNext 3 = .ok (.bipush 21, 2) := by decide +kernel
theorem dX5_untilNext_5 : decode cX5_untilNext 5 = .ok (.if_icmp .ge 33, 3) := by decide +kernel
theorem dX5_untilNext_8 : decode cX5_untilNext 8 = .ok (.aload_n 0, 1) := by decide +kernel
theorem dX5_untilNext_9 : decode cX5_untilNext 9 = .ok (.getfield 22, 3) := by decide +kernel
theorem dX5_untilNext_12 : decode cX5_untilNext 12 = .ok (.iload_n 1, 1) := by decide +kernel
theorem dX5_untilNext_13 : decode cX5_untilNext 13 = .ok (.bipush 21, 2) := by decide +kernel
theorem dX5_untilNext_15 : decode cX5_untilNext 15 = .ok (.imul, 1) := by decide +kernel
theorem dX5_untilNext_16 : decode cX5_untilNext 16 = .ok (.aload_n 0, 1) := by decide +kernel
theorem dX5_untilNext_17 : decode cX5_untilNext 17 = .ok (.getfield 31, 3) := by decide +kernel
theorem dX5_untilNext_20 : decode cX5_untilNext 20 = .ok (.iload_n 2, 1) := by decide +kernel
theorem dX5_untilNext_21 : decode cX5_untilNext 21 = .ok (.iadd, 1) := by decide +kernel
theorem dX5_untilNext_22 : decode cX5_untilNext 22 = .ok (.bipush 21, 2) := by decide +kernel
theorem dX5_untilNext_24 : decode cX5_untilNext 24 = .ok (.irem, 1) := by decide +kernel
theorem dX5_untilNext_25 : decode cX5_untilNext 25 = .ok (.iadd, 1) := by decide +kernel
theorem dX5_untilNext_26 : decode cX5_untilNext 26 = .ok (.iaload, 1) := by decide +kernel
theorem dX5_untilNext_27 : decode cX5_untilNext 27 = .ok (.ifCond .le 5, 3) := by decide +kernel
theorem dX5_untilNext_30 : decode cX5_untilNext 30 = .ok (.iload_n 2, 1) := by decide +kernel
theorem dX5_untilNext_31 : decode cX5_untilNext 31 = .ok (.ireturn, 1) := by decide +kernel
theorem dX5_untilNext_32 : decode cX5_untilNext 32 = .ok (.iinc 2 1, 3) := by decide +kernel
theorem dX5_untilNext_35 : decode cX5_untilNext 35 = .ok (.goto (-33), 3) := by decide +kernel
theorem dX5_untilNext_38 : decode cX5_untilNext 38 = .ok (.bipush (-6), 2) := by decide +kernel
theorem dX5_untilNext_40 : decode cX5_untilNext 40 = .ok (.ireturn, 1) := by decide +kernel
theorem dX5_throughAll_0 : decode cX5_throughAll 0 = .ok (.iconst 0, 1) := by decide +kernel
theorem dX5_throughAll_1 : decode cX5_throughAll 1 = .ok (.istore_n 1, 1) := by decide +kernel
theorem dX5_throughAll_2 : decode cX5_throughAll 2 = .ok (.iconst 0, 1) := by decide +kernel
theorem dX5_throughAll_3 : decode cX5_throughAll 3 = .ok (.istore_n 2, 1) := by decide +kernel
theorem dX5_throughAll_4 : decode cX5_throughAll 4 = .ok (.iload_n 2, 1) := by decide +kernel
theorem dX5_throughAll_5 : decode cX5_throughAll 5 = .ok (.aload_n 0, 1) := by decide +kernel
theorem dX5_throughAll_6 : decode cX5_throughAll 6 = .ok (.getfield 9, 3) := by decide +kernel
theorem dX5_throughAll_9 : decode cX5_throughAll 9 = .ok (.if_icmp .ge 18, 3) := by decide +kernel
theorem dX5_throughAll_12 : decode cX5_throughAll 12 = .ok (.iload_n 1, 1) := by decide +kernel
theorem dX5_throughAll_13 : decode cX5_throughAll 13 = .ok (.aload_n 0, 1) := by decide +kernel
theorem dX5_throughAll_14 : decode cX5_throughAll 14 = .ok (.getfield 15, 3) := by decide +kernel
theorem dX5_throughAll_17 : decode cX5_throughAll 17 = .ok (.iload_n 2, 1) := by decide +kernel
theorem dX5_throughAll_18 : decode cX5_throughAll 18 = .ok (.iaload, 1) := by decide +kernel
theorem dX5_throughAll_19 : decode cX5_throughAll 19 = .ok (.iadd, 1) := by decide +kernel
theorem dX5_throughAll_20 : decode cX5_throughAll 20 = .ok (.istore_n 1, 1) := by decide +kernel
theorem dX5_throughAll_21 : decode cX5_throughAll 21 = .ok (.iinc 2 1, 3) := by decide +kernel
theorem dX5_throughAll_24 : decode cX5_throughAll 24 = .ok (.goto (-20), 3) := by decide +kernel
theorem dX5_throughAll_27 : decode cX5_throughAll 27 = .ok (.iload_n 1, 1) := by decide +kernel
theorem dX5_throughAll_28 : decode cX5_throughAll 28 = .ok (.ireturn, 1) := by decide +kernel
set_option maxRecDepth 20000 in
theorem ggX5_wrongReadings_X5_readsTrue : GoodIn wsX5_wrongReadings wsX5_readsTrue := goodIn_r _ [6, 1, 7, 8, 9, 10, 11, 12, 13, 14, 15, 16, 17, 18] (by decide +kernel) (by decide +kernel)
set_option maxRecDepth 20000 in
theorem gX5_wrongReadings_X5_readsTrue : GoodIn wsX5_wrongReadings (wsV RX5 58 RX5 yX5_readsTrue wsX5_readsTrue) := goodIn_app (goodIn_of _ (by decide +kernel)) ggX5_wrongReadings_X5_readsTrue
theorem dX5_wrongReadings_0 : decode cX5_wrongReadings 0 = .ok (.iconst 0, 1) := by decide +kernel
theorem dX5_wrongReadings_1 : decode cX5_wrongReadings 1 = .ok (.istore_n 2, 1) := by decide +kernel
theorem dX5_wrongReadings_2 : decode cX5_wrongReadings 2 = .ok (.iconst 1, 1) := by decide +kernel
theorem dX5_wrongReadings_3 : decode cX5_wrongReadings 3 = .ok (.istore_n 3, 1) := by decide +kernel
theorem dX5_wrongReadings_4 : decode cX5_wrongReadings 4 = .ok (.iload_n 3, 1) := by decide +kernel
theorem dX5_wrongReadings_5 : decode cX5_wrongReadings 5 = .ok (.iconst 1, 1) := by decide +kernel
theorem dX5_wrongReadings_6 : decode cX5_wrongReadings 6 = .ok (.aload_n 0, 1) := by decide +kernel
theorem dX5_wrongReadings_7 : decode cX5_wrongReadings 7 = .ok (.getfield 9, 3) := by decide +kernel
theorem dX5_wrongReadings_10 : decode cX5_wrongReadings 10 = .ok (.ishl, 1) := by decide +kernel
theorem dX5_wrongReadings_11 : decode cX5_wrongReadings 11 = .ok (.if_icmp .gt 21, 3) := by decide +kernel
theorem dX5_wrongReadings_14 : decode cX5_wrongReadings 14 = .ok (.aload_n 0, 1) := by decide +kernel
theorem dX5_wrongReadings_15 : decode cX5_wrongReadings 15 = .ok (.iload_n 3, 1) := by decide +kernel
theorem dX5_wrongReadings_16 : decode cX5_wrongReadings 16 = .ok (.iload_n 1, 1) := by decide +kernel
theorem dX5_wrongReadings_17 : decode cX5_wrongReadings 17 = .ok (.invokevirtual 58, 3) := by decide +kernel
theorem dX5_wrongReadings_20 : decode cX5_wrongReadings 20 = .ok (.ifCond .ne 6, 3) := by decide +kernel
theorem dX5_wrongReadings_23 : decode cX5_wrongReadings 23 = .ok (.iinc 2 1, 3) := by decide +kernel
theorem dX5_wrongReadings_26 : decode cX5_wrongReadings 26 = .ok (.iinc 3 1, 3) := by decide +kernel
theorem dX5_wrongReadings_29 : decode cX5_wrongReadings 29 = .ok (.goto (-25), 3) := by decide +kernel
theorem dX5_wrongReadings_32 : decode cX5_wrongReadings 32 = .ok (.iload_n 2, 1) := by decide +kernel
theorem dX5_wrongReadings_33 : decode cX5_wrongReadings 33 = .ok (.ireturn, 1) := by decide +kernel
theorem dX5_readsTrue_0 : decode cX5_readsTrue 0 = .ok (.iconst 0, 1) := by decide +kernel
theorem dX5_readsTrue_1 : decode cX5_readsTrue 1 = .ok (.istore_n 3, 1) := by decide +kernel
theorem dX5_readsTrue_2 : decode cX5_readsTrue 2 = .ok (.iconst 0, 1) := by decide +kernel
theorem dX5_readsTrue_3 : decode cX5_readsTrue 3 = .ok (.istore 4, 2) := by decide +kernel
theorem dX5_readsTrue_5 : decode cX5_readsTrue 5 = .ok (.iload 4, 2) := by decide +kernel
theorem dX5_readsTrue_7 : decode cX5_readsTrue 7 = .ok (.aload_n 0, 1) := by decide +kernel
theorem dX5_readsTrue_8 : decode cX5_readsTrue 8 = .ok (.getfield 9, 3) := by decide +kernel
theorem dX5_readsTrue_11 : decode cX5_readsTrue 11 = .ok (.if_icmp .ge 44, 3) := by decide +kernel
theorem dX5_readsTrue_14 : decode cX5_readsTrue 14 = .ok (.iload_n 3, 1) := by decide +kernel
theorem dX5_readsTrue_15 : decode cX5_readsTrue 15 = .ok (.aload_n 0, 1) := by decide +kernel
theorem dX5_readsTrue_16 : decode cX5_readsTrue 16 = .ok (.getfield 15, 3) := by decide +kernel
theorem dX5_readsTrue_19 : decode cX5_readsTrue 19 = .ok (.iload 4, 2) := by decide +kernel
theorem dX5_readsTrue_21 : decode cX5_readsTrue 21 = .ok (.iaload, 1) := by decide +kernel
theorem dX5_readsTrue_22 : decode cX5_readsTrue 22 = .ok (.iadd, 1) := by decide +kernel
theorem dX5_readsTrue_23 : decode cX5_readsTrue 23 = .ok (.istore_n 3, 1) := by decide +kernel
theorem dX5_readsTrue_24 : decode cX5_readsTrue 24 = .ok (.iconst 0, 1) := by decide +kernel
theorem dX5_readsTrue_25 : decode cX5_readsTrue 25 = .ok (.iload_n 1, 1) := by decide +kernel
theorem dX5_readsTrue_26 : decode cX5_readsTrue 26 = .ok (.iload_n 3, 1) := by decide +kernel
theorem dX5_readsTrue_27 : decode cX5_readsTrue 27 = .ok (.iload_n 2, 1) := by decide +kernel
theorem dX5_readsTrue_28 : decode cX5_readsTrue 28 = .ok (.idiv, 1) := by decide +kernel
theorem dX5_readsTrue_29 : decode cX5_readsTrue 29 = .ok (.isub, 1) := by decide +kernel
theorem dX5_readsTrue_30 : decode cX5_readsTrue 30 = .ok (.invokestatic 62, 3) := by decide +kernel
theorem dX5_readsTrue_33 : decode cX5_readsTrue 33 = .ok (.istore 5, 2) := by decide +kernel
theorem dX5_readsTrue_35 : decode cX5_readsTrue 35 = .ok (.iload 5, 2) := by decide +kernel
theorem dX5_readsTrue_37 : decode cX5_readsTrue 37 = .ok (.iload_n 1, 1) := by decide +kernel
theorem dX5_readsTrue_38 : decode cX5_readsTrue 38 = .ok (.ixor, 1) := by decide +kernel
theorem dX5_readsTrue_39 : decode cX5_readsTrue 39 = .ok (.iload 4, 2) := by decide +kernel
theorem dX5_readsTrue_41 : decode cX5_readsTrue 41 = .ok (.ishr, 1) := by decide +kernel
theorem dX5_readsTrue_42 : decode cX5_readsTrue 42 = .ok (.iconst 1, 1) := by decide +kernel
theorem dX5_readsTrue_43 : decode cX5_readsTrue 43 = .ok (.iand, 1) := by decide +kernel
theorem dX5_readsTrue_44 : decode cX5_readsTrue 44 = .ok (.ifCond .eq 5, 3) := by decide +kernel
theorem dX5_readsTrue_47 : decode cX5_readsTrue 47 = .ok (.iconst 0, 1) := by decide +kernel
theorem dX5_readsTrue_48 : decode cX5_readsTrue 48 = .ok (.ireturn, 1) := by decide +kernel
theorem dX5_readsTrue_49 : decode cX5_readsTrue 49 = .ok (.iinc 4 1, 3) := by decide +kernel
theorem dX5_readsTrue_52 : decode cX5_readsTrue 52 = .ok (.goto (-47), 3) := by decide +kernel
theorem dX5_readsTrue_55 : decode cX5_readsTrue 55 = .ok (.iconst 1, 1) := by decide +kernel
theorem dX5_readsTrue_56 : decode cX5_readsTrue 56 = .ok (.ireturn, 1) := by decide +kernel
theorem dX5_turnOver_0 : decode cX5_turnOver 0 = .ok (.aload_n 0, 1) := by decide +kernel
theorem dX5_turnOver_1 : decode cX5_turnOver 1 = .ok (.getfield 34, 3) := by decide +kernel
theorem dX5_turnOver_4 : decode cX5_turnOver 4 = .ok (.iload_n 1, 1) := by decide +kernel
theorem dX5_turnOver_5 : decode cX5_turnOver 5 = .ok (.ishr, 1) := by decide +kernel
theorem dX5_turnOver_6 : decode cX5_turnOver 6 = .ok (.iconst 1, 1) := by decide +kernel
theorem dX5_turnOver_7 : decode cX5_turnOver 7 = .ok (.iand, 1) := by decide +kernel
theorem dX5_turnOver_8 : decode cX5_turnOver 8 = .ok (.iload_n 2, 1) := by decide +kernel
theorem dX5_turnOver_9 : decode cX5_turnOver 9 = .ok (.iadd, 1) := by decide +kernel
theorem dX5_turnOver_10 : decode cX5_turnOver 10 = .ok (.istore_n 3, 1) := by decide +kernel
theorem dX5_turnOver_11 : decode cX5_turnOver 11 = .ok (.aload_n 0, 1) := by decide +kernel
theorem dX5_turnOver_12 : decode cX5_turnOver 12 = .ok (.aload_n 0, 1) := by decide +kernel
theorem dX5_turnOver_13 : decode cX5_turnOver 13 = .ok (.getfield 34, 3) := by decide +kernel
theorem dX5_turnOver_16 : decode cX5_turnOver 16 = .ok (.iconst 1, 1) := by decide +kernel
theorem dX5_turnOver_17 : decode cX5_turnOver 17 = .ok (.iload_n 1, 1) := by decide +kernel
theorem dX5_turnOver_18 : decode cX5_turnOver 18 = .ok (.ishl, 1) := by decide +kernel
theorem dX5_turnOver_19 : decode cX5_turnOver 19 = .ok (.iconst (-1), 1) := by decide +kernel
theorem dX5_turnOver_20 : decode cX5_turnOver 20 = .ok (.ixor, 1) := by decide +kernel
theorem dX5_turnOver_21 : decode cX5_turnOver 21 = .ok (.iand, 1) := by decide +kernel
theorem dX5_turnOver_22 : decode cX5_turnOver 22 = .ok (.iload_n 3, 1) := by decide +kernel
theorem dX5_turnOver_23 : decode cX5_turnOver 23 = .ok (.iconst 1, 1) := by decide +kernel
theorem dX5_turnOver_24 : decode cX5_turnOver 24 = .ok (.iand, 1) := by decide +kernel
theorem dX5_turnOver_25 : decode cX5_turnOver 25 = .ok (.iload_n 1, 1) := by decide +kernel
theorem dX5_turnOver_26 : decode cX5_turnOver 26 = .ok (.ishl, 1) := by decide +kernel
theorem dX5_turnOver_27 : decode cX5_turnOver 27 = .ok (.ior, 1) := by decide +kernel
theorem dX5_turnOver_28 : decode cX5_turnOver 28 = .ok (.putfield 34, 3) := by decide +kernel
theorem dX5_turnOver_31 : decode cX5_turnOver 31 = .ok (.aload_n 0, 1) := by decide +kernel
theorem dX5_turnOver_32 : decode cX5_turnOver 32 = .ok (.getfield 19, 3) := by decide +kernel
theorem dX5_turnOver_35 : decode cX5_turnOver 35 = .ok (.iload_n 1, 1) := by decide +kernel
theorem dX5_turnOver_36 : decode cX5_turnOver 36 = .ok (.dup2, 1) := by decide +kernel
theorem dX5_turnOver_37 : decode cX5_turnOver 37 = .ok (.iaload, 1) := by decide +kernel
theorem dX5_turnOver_38 : decode cX5_turnOver 38 = .ok (.iload_n 2, 1) := by decide +kernel
theorem dX5_turnOver_39 : decode cX5_turnOver 39 = .ok (.iadd, 1) := by decide +kernel
theorem dX5_turnOver_40 : decode cX5_turnOver 40 = .ok (.iastore, 1) := by decide +kernel
theorem dX5_turnOver_41 : decode cX5_turnOver 41 = .ok (.iload_n 3, 1) := by decide +kernel
theorem dX5_turnOver_42 : decode cX5_turnOver 42 = .ok (.iconst 2, 1) := by decide +kernel
theorem dX5_turnOver_43 : decode cX5_turnOver 43 = .ok (.idiv, 1) := by decide +kernel
theorem dX5_turnOver_44 : decode cX5_turnOver 44 = .ok (.ireturn, 1) := by decide +kernel
