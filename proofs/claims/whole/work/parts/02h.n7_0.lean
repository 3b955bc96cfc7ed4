set_option maxRecDepth 20000 in
theorem ggX7_init_X7_begins : GoodIn wsX7_init wsX7_begins := goodIn_r _ [15, 5, 16, 17, 18, 19, 20, 21, 22] (by decide +kernel) (by decide +kernel)
set_option maxRecDepth 20000 in
theorem gX7_init_X7_begins : GoodIn wsX7_init (wsV RX7 26 RX7 yX7_begins wsX7_begins) := goodIn_app (goodIn_of _ (by decide +kernel)) ggX7_init_X7_begins
theorem dX7_init_0 : decode cX7_init 0 = .ok (.aload_n 0, 1) := by decide +kernel
theorem dX7_init_1 : decode cX7_init 1 = .ok (.invokespecial 1, 3) := by decide +kernel
theorem dX7_init_4 : decode cX7_init 4 = .ok (.aload_n 0, 1) := by decide +kernel
theorem dX7_init_5 : decode cX7_init 5 = .ok (.sipush 712, 3) := by decide +kernel
theorem dX7_init_8 : decode cX7_init 8 = .ok (.newarray .int, 2) := by decide +kernel
theorem dX7_init_10 : decode cX7_init 10 = .ok (.putfield 7, 3) := by decide +kernel
theorem dX7_init_13 : decode cX7_init 13 = .ok (.aload_n 0, 1) := by decide +kernel
theorem dX7_init_14 : decode cX7_init 14 = .ok (.sipush 2136, 3) := by decide +kernel
theorem dX7_init_17 : decode cX7_init 17 = .ok (.newarray .int, 2) := by decide +kernel
theorem dX7_init_19 : decode cX7_init 19 = .ok (.putfield 13, 3) := by decide +kernel
theorem dX7_init_22 : decode cX7_init 22 = .ok (.aload_n 0, 1) := by decide +kernel
theorem dX7_init_23 : decode cX7_init 23 = .ok (.sipush 712, 3) := by decide +kernel
theorem dX7_init_26 : decode cX7_init 26 = .ok (.newarray .int, 2) := by decide +kernel
theorem dX7_init_28 : decode cX7_init 28 = .ok (.putfield 16, 3) := by decide +kernel
theorem dX7_init_31 : decode cX7_init 31 = .ok (.aload_n 0, 1) := by decide +kernel
theorem dX7_init_32 : decode cX7_init 32 = .ok (.iconst 2, 1) := by decide +kernel
theorem dX7_init_33 : decode cX7_init 33 = .ok (.newarray .boolean, 2) := by decide +kernel
theorem dX7_init_35 : decode cX7_init 35 = .ok (.putfield 19, 3) := by decide +kernel
theorem dX7_init_38 : decode cX7_init 38 = .ok (.aload_n 0, 1) := by decide +kernel
theorem dX7_init_39 : decode cX7_init 39 = .ok (.bipush 80, 2) := by decide +kernel
theorem dX7_init_41 : decode cX7_init 41 = .ok (.newarray .int, 2) := by decide +kernel
theorem dX7_init_43 : decode cX7_init 43 = .ok (.putfield 23, 3) := by decide +kernel
theorem dX7_init_46 : decode cX7_init 46 = .ok (.aload_n 0, 1) := by decide +kernel
theorem dX7_init_47 : decode cX7_init 47 = .ok (.getfield 7, 3) := by decide +kernel
theorem dX7_init_50 : decode cX7_init 50 = .ok (.iconst 0, 1) := by decide +kernel
theorem dX7_init_51 : decode cX7_init 51 = .ok (.iconst 4, 1) := by decide +kernel
theorem dX7_init_52 : decode cX7_init 52 = .ok (.iastore, 1) := by decide +kernel
theorem dX7_init_53 : decode cX7_init 53 = .ok (.aload_n 0, 1) := by decide +kernel
theorem dX7_init_54 : decode cX7_init 54 = .ok (.getfield 7, 3) := by decide +kernel
theorem dX7_init_57 : decode cX7_init 57 = .ok (.iconst 1, 1) := by decide +kernel
theorem dX7_init_58 : decode cX7_init 58 = .ok (.iconst 2, 1) := by decide +kernel
theorem dX7_init_59 : decode cX7_init 59 = .ok (.iastore, 1) := by decide +kernel
theorem dX7_init_60 : decode cX7_init 60 = .ok (.iconst 0, 1) := by decide +kernel
theorem dX7_init_61 : decode cX7_init 61 = .ok (.istore_n 1, 1) := by decide +kernel
theorem dX7_init_62 : decode cX7_init 62 = .ok (.iload_n 1, 1) := by decide +kernel
theorem dX7_init_63 : decode cX7_init 63 = .ok (.iconst 5, 1) := by decide +kernel
theorem dX7_init_64 : decode cX7_init 64 = .ok (.if_icmp .ge 19, 3) := by decide +kernel
theorem dX7_init_67 : decode cX7_init 67 = .ok (.aload_n 0, 1) := by decide +kernel
theorem dX7_init_68 : decode cX7_init 68 = .ok (.getfield 7, 3) := by decide +kernel
theorem dX7_init_71 : decode cX7_init 71 = .ok (.bipush 9, 2) := by decide +kernel
theorem dX7_init_73 : decode cX7_init 73 = .ok (.iload_n 1, 1) := by decide +kernel
theorem dX7_init_74 : decode cX7_init 74 = .ok (.iadd, 1) := by decide +kernel
theorem dX7_init_75 : decode cX7_init 75 = .ok (.iconst 3, 1) := by decide +kernel
theorem dX7_init_76 : decode cX7_init 76 = .ok (.iastore, 1) := by decide +kernel
theorem dX7_init_77 : decode cX7_init 77 = .ok (.iinc 1 1, 3) := by decide +kernel
theorem dX7_init_80 : decode cX7_init 80 = .ok (.goto (-18), 3) := by decide +kernel
theorem dX7_init_83 : decode cX7_init 83 = .ok (.aload_n 0, 1) := by decide +kernel
theorem dX7_init_84 : decode cX7_init 84 = .ok (.iconst 0, 1) := by decide +kernel
theorem dX7_init_85 : decode cX7_init 85 = .ok (.invokevirtual 26, 3) := by decide +kernel
theorem dX7_init_88 : decode cX7_init 88 = .ok (.return_, 1) := by decide +kernel
theorem dX7_in_0 : decode cX7_in 0 = .ok (.iload_n 0, 1) := by decide +kernel
theorem dX7_in_1 : decode cX7_in 1 = .ok (.iload_n 1, 1) := by decide +kernel
theorem dX7_in_2 : decode cX7_in 2 = .ok (.if_icmp .lt 12, 3) := by decide +kernel
theorem dX7_in_5 : decode cX7_in 5 = .ok (.iload_n 0, 1) := by decide +kernel
theorem dX7_in_6 : decode cX7_in 6 = .ok (.iload_n 2, 1) := by decide +kernel
theorem dX7_in_7 : decode cX7_in 7 = .ok (.if_icmp .gt 7, 3) := by decide +kernel
theorem dX7_in_10 : decode cX7_in 10 = .ok (.iconst 1, 1) := by decide +kernel
theorem dX7_in_11 : decode cX7_in 11 = .ok (.goto 4, 3) := by decide +kernel
theorem dX7_in_14 : decode cX7_in 14 = .ok (.iconst 0, 1) := by decide +kernel
theorem dX7_in_15 : decode cX7_in 15 = .ok (.ireturn, 1) := by decide +kernel
theorem dX7_remembers_0 : decode cX7_remembers 0 = .ok (.aload_n 0, 1) := by decide +kernel
theorem dX7_remembers_1 : decode cX7_remembers 1 = .ok (.getfield 30, 3) := by decide +kernel
theorem dX7_remembers_4 : decode cX7_remembers 4 = .ok (.bipush 6, 2) := by decide +kernel
theorem dX7_remembers_6 : decode cX7_remembers 6 = .ok (.if_icmp .ne 44, 3) := by decide +kernel
theorem dX7_remembers_9 : decode cX7_remembers 9 = .ok (.iconst 0, 1) := by decide +kernel
theorem dX7_remembers_10 : decode cX7_remembers 10 = .ok (.istore_n 1, 1) := by decide +kernel
theorem dX7_remembers_11 : decode cX7_remembers 11 = .ok (.iload_n 1, 1) := by decide +kernel
theorem dX7_remembers_12 : decode cX7_remembers 12 = .ok (.sipush 1780, 3) := by decide +kernel
theorem dX7_remembers_15 : decode cX7_remembers 15 = .ok (.if_icmp .ge 25, 3) := by decide +kernel
theorem dX7_remembers_18 : decode cX7_remembers 18 = .ok (.aload_n 0, 1) := by decide +kernel
theorem dX7_remembers_19 : decode cX7_remembers 19 = .ok (.getfield 13, 3) := by decide +kernel
theorem dX7_remembers_22 : decode cX7_remembers 22 = .ok (.iload_n 1, 1) := by decide +kernel
theorem dX7_remembers_23 : decode cX7_remembers 23 = .ok (.aload_n 0, 1) := by decide +kernel
theorem dX7_remembers_24 : decode cX7_remembers 24 = .ok (.getfield 13, 3) := by decide +kernel
theorem dX7_remembers_27 : decode cX7_remembers 27 = .ok (.sipush 356, 3) := by decide +kernel
theorem dX7_remembers_30 : decode cX7_remembers 30 = .ok (.iload_n 1, 1) := by decide +kernel
theorem dX7_remembers_31 : decode cX7_remembers 31 = .ok (.iadd, 1) := by decide +kernel
theorem dX7_remembers_32 : decode cX7_remembers 32 = .ok (.iaload, 1) := by decide +kernel
theorem dX7_remembers_33 : decode cX7_remembers 33 = .ok (.iastore, 1) := by decide +kernel
theorem dX7_remembers_34 : decode cX7_remembers 34 = .ok (.iinc 1 1, 3) := by decide +kernel
theorem dX7_remembers_37 : decode cX7_remembers 37 = .ok (.goto (-26), 3) := by decide +kernel
theorem dX7_remembers_40 : decode cX7_remembers 40 = .ok (.aload_n 0, 1) := by decide +kernel
theorem dX7_remembers_41 : decode cX7_remembers 41 = .ok (.dup, 1) := by decide +kernel
theorem dX7_remembers_42 : decode cX7_remembers 42 = .ok (.getfield 30, 3) := by decide +kernel
theorem dX7_remembers_45 : decode cX7_remembers 45 = .ok (.iconst 1, 1) := by decide +kernel
theorem dX7_remembers_46 : decode cX7_remembers 46 = .ok (.isub, 1) := by decide +kernel
theorem dX7_remembers_47 : decode cX7_remembers 47 = .ok (.putfield 30, 3) := by decide +kernel
theorem dX7_remembers_50 : decode cX7_remembers 50 = .ok (.iconst 0, 1) := by decide +kernel
theorem dX7_remembers_51 : decode cX7_remembers 51 = .ok (.istore_n 1, 1) := by decide +kernel
theorem dX7_remembers_52 : decode cX7_remembers 52 = .ok (.iload_n 1, 1) := by decide +kernel
theorem dX7_remembers_53 : decode cX7_remembers 53 = .ok (.sipush 356, 3) := by decide +kernel
theorem dX7_remembers_56 : decode cX7_remembers 56 = .ok (.if_icmp .ge 30, 3) := by decide +kernel
theorem dX7_remembers_59 : decode cX7_remembers 59 = .ok (.aload_n 0, 1) := by decide +kernel
theorem dX7_remembers_60 : decode cX7_remembers 60 = .ok (.getfield 13, 3) := by decide +kernel
theorem dX7_remembers_63 : decode cX7_remembers 63 = .ok (.sipush 356, 3) := by decide +kernel
theorem dX7_remembers_66 : decode cX7_remembers 66 = .ok (.aload_n 0, 1) := by decide +kernel
theorem dX7_remembers_67 : decode cX7_remembers 67 = .ok (.getfield 30, 3) := by decide +kernel
theorem dX7_remembers_70 : decode cX7_remembers 70 = .ok (.imul, 1) := by decide +kernel
theorem dX7_remembers_71 : decode cX7_remembers 71 = .ok (.iload_n 1, 1) := by decide +kernel
theorem dX7_remembers_72 : decode cX7_remembers 72 = .ok (.iadd, 1) := by decide +kernel
theorem dX7_remembers_73 : decode cX7_remembers 73 = .ok (.aload_n 0, 1) := by decide +kernel
theorem dX7_remembers_74 : decode cX7_remembers 74 = .ok (.getfield 7, 3) := by decide +kernel
theorem dX7_remembers_77 : decode cX7_remembers 77 = .ok (.iload_n 1, 1) := by decide +kernel
theorem dX7_remembers_78 : decode cX7_remembers 78 = .ok (.iaload, 1) := by decide +kernel
theorem dX7_remembers_79 : decode cX7_remembers 79 = .ok (.iastore, 1) := by decide +kernel
theorem dX7_remembers_80 : decode cX7_remembers 80 = .ok (.iinc 1 1, 3) := by decide +kernel
theorem dX7_remembers_83 : decode cX7_remembers 83 = .ok (.goto (-31), 3) := by decide +kernel
theorem dX7_remembers_86 : decode cX7_remembers 86 = .ok (.aload_n 0, 1) := by decide +kernel
theorem dX7_remembers_87 : decode cX7_remembers 87 = .ok (.dup, 1) := by decide +kernel
theorem dX7_remembers_88 : decode cX7_remembers 88 = .ok (.getfield 30, 3) := by decide +kernel
theorem dX7_remembers_91 : decode cX7_remembers 91 = .ok (.iconst 1, 1) := by decide +kernel
theorem dX7_remembers_92 : decode cX7_remembers 92 = .ok (.iadd, 1) := by decide +kernel
theorem dX7_remembers_93 : decode cX7_remembers 93 = .ok (.putfield 30, 3) := by decide +kernel
theorem dX7_remembers_96 : decode cX7_remembers 96 = .ok (.return_, 1) := by decide +kernel
theorem dX7_copies_0 : decode cX7_copies 0 = .ok (.iconst 0, 1) := by decide +kernel
theorem dX7_copies_1 : decode cX7_copies 1 = .ok (.istore_n 1, 1) := by decide +kernel
theorem dX7_copies_2 : decode cX7_copies 2 = .ok (.iload_n 1, 1) := by decide +kernel
theorem dX7_copies_3 : decode cX7_copies 3 = .ok (.sipush 356, 3) := by decide +kernel
theorem dX7_copies_6 : decode cX7_copies 6 = .ok (.if_icmp .ge 25, 3) := by decide +kernel
theorem dX7_copies_9 : decode cX7_copies 9 = .ok (.aload_n 0, 1) := by decide +kernel
theorem dX7_copies_10 : decode cX7_copies 10 = .ok (.getfield 7, 3) := by decide +kernel
theorem dX7_copies_13 : decode cX7_copies 13 = .ok (.sipush 356, 3) := by decide +kernel
theorem dX7_copies_16 : decode cX7_copies 16 = .ok (.iload_n 1, 1) := by decide +kernel
theorem dX7_copies_17 : decode cX7_copies 17 = .ok (.iadd, 1) := by decide +kernel
theorem dX7_copies_18 : decode cX7_copies 18 = .ok (.aload_n 0, 1) := by decide +kernel
theorem dX7_copies_19 : decode cX7_copies 19 = .ok (.getfield 7, 3) := by decide +kernel
theorem dX7_copies_22 : decode cX7_copies 22 = .ok (.iload_n 1, 1) := by decide +kernel
theorem dX7_copies_23 : decode cX7_copies 23 = .ok (.iaload, 1) := by decide +kernel
theorem dX7_copies_24 : decode cX7_copies 24 = .ok (.iastore, 1) := by decide +kernel
theorem dX7_copies_25 : decode cX7_copies 25 = .ok (.iinc 1 1, 3) := by decide +kernel
theorem dX7_copies_28 : decode cX7_copies 28 = .ok (.goto (-26), 3) := by decide +kernel
theorem dX7_copies_31 : decode cX7_copies 31 = .ok (.return_, 1) := by decide +kernel
theorem dX7_begins_0 : decode cX7_begins 0 = .ok (.aload_n 0, 1) := by decide +kernel
theorem dX7_begins_1 : decode cX7_begins 1 = .ok (.getfield 7, 3) := by decide +kernel
theorem dX7_begins_4 : decode cX7_begins 4 = .ok (.iload_n 1, 1) := by decide +kernel
theorem dX7_begins_5 : decode cX7_begins 5 = .ok (.iconst 3, 1) := by decide +kernel
theorem dX7_begins_6 : decode cX7_begins 6 = .ok (.iadd, 1) := by decide +kernel
theorem dX7_begins_7 : decode cX7_begins 7 = .ok (.iconst 0, 1) := by decide +kernel
theorem dX7_begins_8 : decode cX7_begins 8 = .ok (.iastore, 1) := by decide +kernel
theorem dX7_begins_9 : decode cX7_begins 9 = .ok (.aload_n 0, 1) := by decide +kernel
theorem dX7_begins_10 : decode cX7_begins 10 = .ok (.getfield 7, 3) := by decide +kernel
theorem dX7_begins_13 : decode cX7_begins 13 = .ok (.iload_n 1, 1) := by decide +kernel
theorem dX7_begins_14 : decode cX7_begins 14 = .ok (.iconst 4, 1) := by decide +kernel
theorem dX7_begins_15 : decode cX7_begins 15 = .ok (.iadd, 1) := by decide +kernel
theorem dX7_begins_16 : decode cX7_begins 16 = .ok (.iconst (-1), 1) := by decide +kernel
theorem dX7_begins_17 : decode cX7_begins 17 = .ok (.iastore, 1) := by decide +kernel
theorem dX7_begins_18 : decode cX7_begins 18 = .ok (.aload_n 0, 1) := by decide +kernel
theorem dX7_begins_19 : decode cX7_begins 19 = .ok (.getfield 7, 3) := by decide +kernel
theorem dX7_begins_22 : decode cX7_begins 22 = .ok (.iload_n 1, 1) := by decide +kernel
theorem dX7_begins_23 : decode cX7_begins 23 = .ok (.iconst 5, 1) := by decide +kernel
theorem dX7_begins_24 : decode cX7_begins 24 = .ok (.iadd, 1) := by decide +kernel
theorem dX7_begins_25 : decode cX7_begins 25 = .ok (.iconst (-1), 1) := by decide +kernel
theorem dX7_begins_26 : decode cX7_begins 26 = .ok (.iastore, 1) := by decide +kernel
theorem dX7_begins_27 : decode cX7_begins 27 = .ok (.aload_n 0, 1) := by decide +kernel
theorem dX7_begins_28 : decode cX7_begins 28 = .ok (.getfield 7, 3) := by decide +kernel
theorem dX7_begins_31 : decode cX7_begins 31 = .ok (.iload_n 1, 1) := by decide +kernel
theorem dX7_begins_32 : decode cX7_begins 32 = .ok (.bipush 6, 2) := by decide +kernel
theorem dX7_begins_34 : decode cX7_begins 34 = .ok (.iadd, 1) := by decide +kernel
theorem dX7_begins_35 : decode cX7_begins 35 = .ok (.iconst 0, 1) := by decide +kernel
theorem dX7_begins_36 : decode cX7_begins 36 = .ok (.iastore, 1) := by decide +kernel
theorem dX7_begins_37 : decode cX7_begins 37 = .ok (.aload_n 0, 1) := by decide +kernel
theorem dX7_begins_38 : decode cX7_begins 38 = .ok (.getfield 7, 3) := by decide +kernel
theorem dX7_begins_41 : decode cX7_begins 41 = .ok (.iload_n 1, 1) := by decide +kernel
theorem dX7_begins_42 : decode cX7_begins 42 = .ok (.bipush 7, 2) := by decide +kernel
theorem dX7_begins_44 : decode cX7_begins 44 = .ok (.iadd, 1) := by decide +kernel
theorem dX7_begins_45 : decode cX7_begins 45 = .ok (.iconst 0, 1) := by decide +kernel
theorem dX7_begins_46 : decode cX7_begins 46 = .ok (.iastore, 1) := by decide +kernel
theorem dX7_begins_47 : decode cX7_begins 47 = .ok (.aload_n 0, 1) := by decide +kernel
theorem dX7_begins_48 : decode cX7_begins 48 = .ok (.getfield 7, 3) := by decide +kernel
theorem dX7_begins_51 : decode cX7_begins 51 = .ok (.iload_n 1, 1) := by decide +kernel
theorem dX7_begins_52 : decode cX7_begins 52 = .ok (.bipush 8, 2) := by decide +kernel
theorem dX7_begins_54 : decode cX7_begins 54 = .ok (.iadd, 1) := by decide +kernel
theorem dX7_begins_55 : decode cX7_begins 55 = .ok (.iconst 0, 1) := by decide +kernel
theorem dX7_begins_56 : decode cX7_begins 56 = .ok (.iastore, 1) := by decide +kernel
theorem dX7_begins_57 : decode cX7_begins 57 = .ok (.bipush 14, 2) := by decide +kernel
theorem dX7_begins_59 : decode cX7_begins 59 = .ok (.istore_n 2, 1) := by decide +kernel
theorem dX7_begins_60 : decode cX7_begins 60 = .ok (.iload_n 2, 1) := by decide +kernel
theorem dX7_begins_61 : decode cX7_begins 61 = .ok (.sipush 129, 3) := by decide +kernel
theorem dX7_begins_64 : decode cX7_begins 64 = .ok (.if_icmp .ge 18, 3) := by decide +kernel
theorem dX7_begins_67 : decode cX7_begins 67 = .ok (.aload_n 0, 1) := by decide +kernel
theorem dX7_begins_68 : decode cX7_begins 68 = .ok (.getfield 7, 3) := by decide +kernel
theorem dX7_begins_71 : decode cX7_begins 71 = .ok (.iload_n 1, 1) := by decide +kernel
theorem dX7_begins_72 : decode cX7_begins 72 = .ok (.iload_n 2, 1) := by decide +kernel
theorem dX7_begins_73 : decode cX7_begins 73 = .ok (.iadd, 1) := by decide +kernel
theorem dX7_begins_74 : decode cX7_begins 74 = .ok (.iconst 0, 1) := by decide +kernel
theorem dX7_begins_75 : decode cX7_begins 75 = .ok (.iastore, 1) := by decide +kernel
theorem dX7_begins_76 : decode cX7_begins 76 = .ok (.iinc 2 1, 3) := by decide +kernel
theorem dX7_begins_79 : decode cX7_begins 79 = .ok (.goto (-19), 3) := by decide +kernel
theorem dX7_begins_82 : decode cX7_begins 82 = .ok (.return_, 1) := by decide +kernel
theorem dX7_stages_0 : decode cX7_stages 0 = .ok (.aload_n 0, 1) := by decide +kernel
theorem dX7_stages_1 : decode cX7_stages 1 = .ok (.getfield 7, 3) := by decide +kernel
theorem dX7_stages_4 : decode cX7_stages 4 = .ok (.iload_n 1, 1) := by decide +kernel
theorem dX7_stages_5 : decode cX7_stages 5 = .ok (.iconst 0, 1) := by decide +kernel
theorem dX7_stages_6 : decode cX7_stages 6 = .ok (.iadd, 1) := by decide +kernel
theorem dX7_stages_7 : decode cX7_stages 7 = .ok (.iconst 0, 1) := by decide +kernel
theorem dX7_stages_8 : decode cX7_stages 8 = .ok (.iadd, 1) := by decide +kernel
theorem dX7_stages_9 : decode cX7_stages 9 = .ok (.iaload, 1) := by decide +kernel
theorem dX7_stages_10 : decode cX7_stages 10 = .ok (.ireturn, 1) := by decide +kernel
theorem dX7_due_0 : decode cX7_due 0 = .ok (.iload_n 0, 1) := by decide +kernel
theorem dX7_due_1 : decode cX7_due 1 = .ok (.bipush 24, 2) := by decide +kernel
theorem dX7_due_3 : decode cX7_due 3 = .ok (.iadd, 1) := by decide +kernel
theorem dX7_due_4 : decode cX7_due 4 = .ok (.bipush 21, 2) := by decide +kernel
theorem dX7_due_6 : decode cX7_due 6 = .ok (.iload_n 1, 1) := by decide +kernel
theorem dX7_due_7 : decode cX7_due 7 = .ok (.imul, 1) := by decide +kernel
theorem dX7_due_8 : decode cX7_due 8 = .ok (.iadd, 1) := by decide +kernel
theorem dX7_due_9 : decode cX7_due 9 = .ok (.iload_n 2, 1) := by decide +kernel
theorem dX7_due_10 : decode cX7_due 10 = .ok (.iadd, 1) := by decide +kernel
theorem dX7_due_11 : decode cX7_due 11 = .ok (.ireturn, 1) := by decide +kernel
set_option maxRecDepth 20000 in
theorem ggX7_shows_X7_stages : GoodIn wsX7_shows wsX7_stages := goodIn_r _ [6, 1, 7, 8, 9, 10, 11, 12, 13] (by decide +kernel) (by decide +kernel)
set_option maxRecDepth 20000 in
theorem gX7_shows_X7_stages : GoodIn wsX7_shows (wsV RX7 34 RX7 yX7_stages wsX7_stages) := goodIn_app (goodIn_of _ (by decide +kernel)) ggX7_shows_X7_stages
theorem dX7_shows_0 : decode cX7_shows 0 = .ok (.iconst 0, 1) := by decide +kernel
theorem dX7_shows_1 : decode cX7_shows 1 = .ok (.istore_n 2, 1) := by decide +kernel
theorem dX7_shows_2 : decode cX7_shows 2 = .ok (.iconst 0, 1) := by decide +kernel
theorem dX7_shows_3 : decode cX7_shows 3 = .ok (.istore_n 3, 1) := by decide +kernel
theorem dX7_shows_4 : decode cX7_shows 4 = .ok (.iload_n 3, 1) := by decide +kernel
theorem dX7_shows_5 : decode cX7_shows 5 = .ok (.aload_n 0, 1) := by decide +kernel
theorem dX7_shows_6 : decode cX7_shows 6 = .ok (.iload_n 1, 1) := by decide +kernel
theorem dX7_shows_7 : decode cX7_shows 7 = .ok (.invokevirtual 34, 3) := by decide +kernel
theorem dX7_shows_10 : decode cX7_shows 10 = .ok (.if_icmp .ge 25, 3) := by decide +kernel
theorem dX7_shows_13 : decode cX7_shows 13 = .ok (.iload_n 2, 1) := by decide +kernel
theorem dX7_shows_14 : decode cX7_shows 14 = .ok (.aload_n 0, 1) := by decide +kernel
theorem dX7_shows_15 : decode cX7_shows 15 = .ok (.getfield 7, 3) := by decide +kernel
theorem dX7_shows_18 : decode cX7_shows 18 = .ok (.iload_n 1, 1) := by decide +kernel
theorem dX7_shows_19 : decode cX7_shows 19 = .ok (.bipush 14, 2) := by decide +kernel
theorem dX7_shows_21 : decode cX7_shows 21 = .ok (.iadd, 1) := by decide +kernel
theorem dX7_shows_22 : decode cX7_shows 22 = .ok (.iload_n 3, 1) := by decide +kernel
theorem dX7_shows_23 : decode cX7_shows 23 = .ok (.iadd, 1) := by decide +kernel
theorem dX7_shows_24 : decode cX7_shows 24 = .ok (.iaload, 1) := by decide +kernel
theorem dX7_shows_25 : decode cX7_shows 25 = .ok (.iload_n 3, 1) := by decide +kernel
theorem dX7_shows_26 : decode cX7_shows 26 = .ok (.ishl, 1) := by decide +kernel
theorem dX7_shows_27 : decode cX7_shows 27 = .ok (.iadd, 1) := by decide +kernel
theorem dX7_shows_28 : decode cX7_shows 28 = .ok (.istore_n 2, 1) := by decide +kernel
theorem dX7_shows_29 : decode cX7_shows 29 = .ok (.iinc 3 1, 3) := by decide +kernel
theorem dX7_shows_32 : decode cX7_shows 32 = .ok (.goto (-28), 3) := by decide +kernel
theorem dX7_shows_35 : decode cX7_shows 35 = .ok (.iload_n 2, 1) := by decide +kernel
theorem dX7_shows_36 : decode cX7_shows 36 = .ok (.ireturn, 1) := by decide +kernel
set_option maxRecDepth 20000 in
theorem ggX7_onWay_X7_due : GoodIn wsX7_onWay wsX7_due := goodIn_r _ [5] (by decide +kernel) (by decide +kernel)
set_option maxRecDepth 20000 in
theorem gX7_onWay_X7_due : GoodIn wsX7_onWay (va_wsS RX7 38 yX7_due wsX7_due) := goodIn_app (goodIn_of _ (by decide +kernel)) ggX7_onWay_X7_due
theorem dX7_onWay_0 : decode cX7_onWay 0 = .ok (.iconst 0, 1) := by decide +kernel
theorem dX7_onWay_1 : decode cX7_onWay 1 = .ok (.istore_n 3, 1) := by decide +kernel
theorem dX7_onWay_2 : decode cX7_onWay 2 = .ok (.iconst 0, 1) := by decide +kernel
theorem dX7_onWay_3 : decode cX7_onWay 3 = .ok (.istore 4, 2) := by decide +kernel
theorem dX7_onWay_5 : decode cX7_onWay 5 = .ok (.iload 4, 2) := by decide +kernel
theorem dX7_onWay_7 : decode cX7_onWay 7 = .ok (.bipush 20, 2) := by decide +kernel
theorem dX7_onWay_9 : decode cX7_onWay 9 = .ok (.if_icmp .gt 24, 3) := by decide +kernel
theorem dX7_onWay_12 : decode cX7_onWay 12 = .ok (.iload_n 3, 1) := by decide +kernel
theorem dX7_onWay_13 : decode cX7_onWay 13 = .ok (.aload_n 0, 1) := by decide +kernel
theorem dX7_onWay_14 : decode cX7_onWay 14 = .ok (.getfield 7, 3) := by decide +kernel
theorem dX7_onWay_17 : decode cX7_onWay 17 = .ok (.iload_n 1, 1) := by decide +kernel
theorem dX7_onWay_18 : decode cX7_onWay 18 = .ok (.iload_n 2, 1) := by decide +kernel
theorem dX7_onWay_19 : decode cX7_onWay 19 = .ok (.iload 4, 2) := by decide +kernel
theorem dX7_onWay_21 : decode cX7_onWay 21 = .ok (.invokestatic 38, 3) := by decide +kernel
theorem dX7_onWay_24 : decode cX7_onWay 24 = .ok (.iaload, 1) := by decide +kernel
theorem dX7_onWay_25 : decode cX7_onWay 25 = .ok (.iadd, 1) := by decide +kernel
theorem dX7_onWay_26 : decode cX7_onWay 26 = .ok (.istore_n 3, 1) := by decide +kernel
theorem dX7_onWay_27 : decode cX7_onWay 27 = .ok (.iinc 4 1, 3) := by decide +kernel
theorem dX7_onWay_30 : decode cX7_onWay 30 = .ok (.goto (-25), 3) := by decide +kernel
theorem dX7_onWay_33 : decode cX7_onWay 33 = .ok (.iload_n 3, 1) := by decide +kernel
theorem dX7_onWay_34 : decode cX7_onWay 34 = .ok (.ireturn, 1) := by decide +kernel
set_option maxRecDepth 20000 in
theorem ggX7_allOnWay_X7_stages : GoodIn wsX7_allOnWay wsX7_stages := goodIn_r _ [5, 6, 14, 15, 16, 17, 18, 19, 20] (by decide +kernel) (by decide +kernel)
set_option maxRecDepth 20000 in
theorem gX7_allOnWay_X7_stages : GoodIn wsX7_allOnWay (wsV RX7 34 RX7 yX7_stages wsX7_stages) := goodIn_app (goodIn_of _ (by decide +kernel)) ggX7_allOnWay_X7_stages
set_option maxRecDepth 20000 in
theorem ggX7_allOnWay_X7_onWay : GoodIn wsX7_allOnWay wsX7_onWay := goodIn_r _ [10, 6, 11, 12, 4, 13, 14, 15, 16, 17, 18, 19, 20] (by decide +kernel) (by decide +kernel)
set_option maxRecDepth 20000 in
theorem gX7_allOnWay_X7_onWay : GoodIn wsX7_allOnWay (wsV RX7 42 RX7 yX7_onWay wsX7_onWay) := goodIn_app (goodIn_of _ (by decide +kernel)) ggX7_allOnWay_X7_onWay
theorem dX7_allOnWay_0 : decode cX7_allOnWay 0 = .ok (.iconst 0, 1) := by decide +kernel
theorem dX7_allOnWay_1 : decode cX7_allOnWay 1 = .ok (.istore_n 2, 1) := by decide +kernel
theorem dX7_allOnWay_2 : decode cX7_allOnWay 2 = .ok (.iconst 0, 1) := by decide +kernel
theorem dX7_allOnWay_3 : decode cX7_allOnWay 3 = .ok (.istore_n 3, 1) := by decide +kernel
theorem dX7_allOnWay_4 : decode cX7_allOnWay 4 = .ok (.iload_n 3, 1) := by decide +kernel
theorem dX7_allOnWay_5 : decode cX7_allOnWay 5 = .ok (.aload_n 0, 1) := by decide +kernel
theorem dX7_allOnWay_6 : decode cX7_allOnWay 6 = .ok (.iload_n 1, 1) := by decide +kernel
theorem dX7_allOnWay_7 : decode cX7_allOnWay 7 = .ok (.invokevirtual 34, 3) := by decide +kernel
theorem dX7_allOnWay_10 : decode cX7_allOnWay 10 = .ok (.if_icmp .ge 18, 3) := by decide +kernel
theorem dX7_allOnWay_13 : decode cX7_allOnWay 13 = .ok (.iload_n 2, 1) := by decide +kernel
theorem dX7_allOnWay_14 : decode cX7_allOnWay 14 = .ok (.aload_n 0, 1) := by decide +kernel
theorem dX7_allOnWay_15 : decode cX7_allOnWay 15 = .ok (.iload_n 1, 1) := by decide +kernel
theorem dX7_allOnWay_16 : decode cX7_allOnWay 16 = .ok (.iload_n 3, 1) := by decide +kernel
theorem dX7_allOnWay_17 : decode cX7_allOnWay 17 = .ok (.invokevirtual 42, 3) := by decide +kernel
theorem dX7_allOnWay_20 : decode cX7_allOnWay 20 = .ok (.iadd, 1) := by decide +kernel
theorem dX7_allOnWay_21 : decode cX7_allOnWay 21 = .ok (.istore_n 2, 1) := by decide +kernel
theorem dX7_allOnWay_22 : decode cX7_allOnWay 22 = .ok (.iinc 3 1, 3) := by decide +kernel
theorem dX7_allOnWay_25 : decode cX7_allOnWay 25 = .ok (.goto (-21), 3) := by decide +kernel
theorem dX7_allOnWay_28 : decode cX7_allOnWay 28 = .ok (.iload_n 2, 1) := by decide +kernel
theorem dX7_allOnWay_29 : decode cX7_allOnWay 29 = .ok (.ireturn, 1) := by decide +kernel
set_option maxRecDepth 20000 in
theorem ggX7_turns_X7_due : GoodIn wsX7_turns wsX7_due := goodIn_r _ [5] (by decide +kernel) (by decide +kernel)
set_option maxRecDepth 20000 in
theorem gX7_turns_X7_due : GoodIn wsX7_turns (va_wsS RX7 38 yX7_due wsX7_due) := goodIn_app (goodIn_of _ (by decide +kernel)) ggX7_turns_X7_due
theorem dX7_turns_0 : decode cX7_turns 0 = .ok (.aload_n 0, 1) := by decide +kernel
theorem dX7_turns_1 : decode cX7_turns 1 = .ok (.getfield 7, 3) := by decide +kernel
theorem dX7_turns_4 : decode cX7_turns 4 = .ok (.iload_n 1, 1) := by decide +kernel
theorem dX7_turns_5 : decode cX7_turns 5 = .ok (.iload_n 2, 1) := by decide +kernel
theorem dX7_turns_6 : decode cX7_turns 6 = .ok (.aload_n 0, 1) := by decide +kernel
theorem dX7_turns_7 : decode cX7_turns 7 = .ok (.getfield 7, 3) := by decide +kernel
theorem dX7_turns_10 : decode cX7_turns 10 = .ok (.iload_n 1, 1) := by decide +kernel
theorem dX7_turns_11 : decode cX7_turns 11 = .ok (.bipush 9, 2) := by decide +kernel
theorem dX7_turns_13 : decode cX7_turns 13 = .ok (.iadd, 1) := by decide +kernel
theorem dX7_turns_14 : decode cX7_turns 14 = .ok (.iload_n 2, 1) := by decide +kernel
theorem dX7_turns_15 : decode cX7_turns 15 = .ok (.iadd, 1) := by decide +kernel
theorem dX7_turns_16 : decode cX7_turns 16 = .ok (.iaload, 1) := by decide +kernel
theorem dX7_turns_17 : decode cX7_turns 17 = .ok (.invokestatic 38, 3) := by decide +kernel
theorem dX7_turns_20 : decode cX7_turns 20 = .ok (.dup2, 1) := by decide +kernel
theorem dX7_turns_21 : decode cX7_turns 21 = .ok (.iaload, 1) := by decide +kernel
theorem dX7_turns_22 : decode cX7_turns 22 = .ok (.iconst 1, 1) := by decide +kernel
theorem dX7_turns_23 : decode cX7_turns 23 = .ok (.iadd, 1) := by decide +kernel
theorem dX7_turns_24 : decode cX7_turns 24 = .ok (.iastore, 1) := by decide +kernel
theorem dX7_turns_25 : decode cX7_turns 25 = .ok (.return_, 1) := by decide +kernel
set_option maxRecDepth 20000 in
theorem ggX7_clocks_X7_stages : GoodIn wsX7_clocks wsX7_stages := goodIn_r _ [6, 1, 14, 15, 16, 17, 18, 19, 20] (by decide +kernel) (by decide +kernel)
set_option maxRecDepth 20000 in
theorem gX7_clocks_X7_stages : GoodIn wsX7_clocks (wsV RX7 34 RX7 yX7_stages wsX7_stages) := goodIn_app (goodIn_of _ (by decide +kernel)) ggX7_clocks_X7_stages
set_option maxRecDepth 20000 in
theorem ggX7_clocks_X7_turns : GoodIn wsX7_clocks wsX7_turns := goodIn_r _ [10, 1, 11, 12, 5, 13, 14, 15, 16, 17, 18, 19, 20] (by decide +kernel) (by decide +kernel)
set_option maxRecDepth 20000 in
theorem gX7_clocks_X7_turns : GoodIn wsX7_clocks (wsV RX7 46 RX7 yX7_turns wsX7_turns) := goodIn_app (goodIn_of _ (by decide +kernel)) ggX7_clocks_X7_turns
theorem dX7_clocks_0 : decode cX7_clocks 0 = .ok (.aload_n 0, 1) := by decide +kernel
theorem dX7_clocks_1 : decode cX7_clocks 1 = .ok (.getfield 7, 3) := by decide +kernel
theorem dX7_clocks_4 : decode cX7_clocks 4 = .ok (.iload_n 1, 1) := by decide +kernel
theorem dX7_clocks_5 : decode cX7_clocks 5 = .ok (.iconst 4, 1) := by decide +kernel
theorem dX7_clocks_6 : decode cX7_clocks 6 = .ok (.iadd, 1) := by decide +kernel
theorem dX7_clocks_7 : decode cX7_clocks 7 = .ok (.aload_n 0, 1) := by decide +kernel
theorem dX7_clocks_8 : decode cX7_clocks 8 = .ok (.getfield 7, 3) := by decide +kernel
theorem dX7_clocks_11 : decode cX7_clocks 11 = .ok (.iload_n 1, 1) := by decide +kernel
theorem dX7_clocks_12 : decode cX7_clocks 12 = .ok (.iconst 2, 1) := by decide +kernel
theorem dX7_clocks_13 : decode cX7_clocks 13 = .ok (.iadd, 1) := by decide +kernel
theorem dX7_clocks_14 : decode cX7_clocks 14 = .ok (.iaload, 1) := by decide +kernel
theorem dX7_clocks_15 : decode cX7_clocks 15 = .ok (.iastore, 1) := by decide +kernel
theorem dX7_clocks_16 : decode cX7_clocks 16 = .ok (.aload_n 0, 1) := by decide +kernel
theorem dX7_clocks_17 : decode cX7_clocks 17 = .ok (.getfield 7, 3) := by decide +kernel
theorem dX7_clocks_20 : decode cX7_clocks 20 = .ok (.iload_n 1, 1) := by decide +kernel
theorem dX7_clocks_21 : decode cX7_clocks 21 = .ok (.iconst 3, 1) := by decide +kernel
theorem dX7_clocks_22 : decode cX7_clocks 22 = .ok (.iadd, 1) := by decide +kernel
theorem dX7_clocks_23 : decode cX7_clocks 23 = .ok (.aload_n 0, 1) := by decide +kernel
theorem dX7_clocks_24 : decode cX7_clocks 24 = .ok (.getfield 7, 3) := by decide +kernel
theorem dX7_clocks_27 : decode cX7_clocks 27 = .ok (.iload_n 1, 1) := by decide +kernel
theorem dX7_clocks_28 : decode cX7_clocks 28 = .ok (.iconst 3, 1) := by decide +kernel
theorem dX7_clocks_29 : decode cX7_clocks 29 = .ok (.iadd, 1) := by decide +kernel
theorem dX7_clocks_30 : decode cX7_clocks 30 = .ok (.iaload, 1) := by decide +kernel
theorem dX7_clocks_31 : decode cX7_clocks 31 = .ok (.iconst 1, 1) := by decide +kernel
theorem dX7_clocks_32 : decode cX7_clocks 32 = .ok (.iadd, 1) := by decide +kernel
theorem dX7_clocks_33 : decode cX7_clocks 33 = .ok (.iconst 1, 1) := by decide +kernel
theorem dX7_clocks_34 : decode cX7_clocks 34 = .ok (.aload_n 0, 1) := by decide +kernel
theorem dX7_clocks_35 : decode cX7_clocks 35 = .ok (.iload_n 1, 1) := by decide +kernel
theorem dX7_clocks_36 : decode cX7_clocks 36 = .ok (.invokevirtual 34, 3) := by decide +kernel
theorem dX7_clocks_39 : decode cX7_clocks 39 = .ok (.ishl, 1) := by decide +kernel
theorem dX7_clocks_40 : decode cX7_clocks 40 = .ok (.irem, 1) := by decide +kernel
theorem dX7_clocks_41 : decode cX7_clocks 41 = .ok (.iastore, 1) := by decide +kernel
theorem dX7_clocks_42 : decode cX7_clocks 42 = .ok (.aload_n 0, 1) := by decide +kernel
theorem dX7_clocks_43 : decode cX7_clocks 43 = .ok (.iload_n 1, 1) := by decide +kernel
theorem dX7_clocks_44 : decode cX7_clocks 44 = .ok (.iconst 0, 1) := by decide +kernel
theorem dX7_clocks_45 : decode cX7_clocks 45 = .ok (.invokevirtual 46, 3) := by decide +kernel
theorem dX7_clocks_48 : decode cX7_clocks 48 = .ok (.return_, 1) := by decide +kernel
set_option maxRecDepth 20000 in
theorem ggX7_done_X7_stages : GoodIn wsX7_done wsX7_stages := goodIn_r _ [6, 1, 14, 15, 16, 17, 18, 19, 20] (by decide +kernel) (by decide +kernel)
set_option maxRecDepth 20000 in
theorem gX7_done_X7_stages : GoodIn wsX7_done (wsV RX7 34 RX7 yX7_stages wsX7_stages) := goodIn_app (goodIn_of _ (by decide +kernel)) ggX7_done_X7_stages
set_option maxRecDepth 20000 in
theorem ggX7_done_X7_turns : GoodIn wsX7_done wsX7_turns := goodIn_r _ [10, 1, 11, 12, 5, 13, 14, 15, 16, 17, 18, 19, 20] (by decide +kernel) (by decide +kernel)
set_option maxRecDepth 20000 in
theorem gX7_done_X7_turns : GoodIn wsX7_done (wsV RX7 46 RX7 yX7_turns wsX7_turns) := goodIn_app (goodIn_of _ (by decide +kernel)) ggX7_done_X7_turns
theorem dX7_done_0 : decode cX7_done 0 = .ok (.aload_n 0, 1) := by decide +kernel
theorem dX7_done_1 : decode cX7_done 1 = .ok (.getfield 7, 3) := by decide +kernel
theorem dX7_done_4 : decode cX7_done 4 = .ok (.iload_n 1, 1) := by decide +kernel
theorem dX7_done_5 : decode cX7_done 5 = .ok (.bipush 14, 2) := by decide +kernel
theorem dX7_done_7 : decode cX7_done 7 = .ok (.iadd, 1) := by decide +kernel
theorem dX7_done_8 : decode cX7_done 8 = .ok (.iload_n 2, 1) := by decide +kernel
theorem dX7_done_9 : decode cX7_done 9 = .ok (.iadd, 1) := by decide +kernel
theorem dX7_done_10 : decode cX7_done 10 = .ok (.iconst 1, 1) := by decide +kernel
theorem dX7_done_11 : decode cX7_done 11 = .ok (.aload_n 0, 1) := by decide +kernel
theorem dX7_done_12 : decode cX7_done 12 = .ok (.getfield 7, 3) := by decide +kernel
theorem dX7_done_15 : decode cX7_done 15 = .ok (.iload_n 1, 1) := by decide +kernel
theorem dX7_done_16 : decode cX7_done 16 = .ok (.bipush 14, 2) := by decide +kernel
theorem dX7_done_18 : decode cX7_done 18 = .ok (.iadd, 1) := by decide +kernel
theorem dX7_done_19 : decode cX7_done 19 = .ok (.iload_n 2, 1) := by decide +kernel
theorem dX7_done_20 : decode cX7_done 20 = .ok (.iadd, 1) := by decide +kernel
theorem dX7_done_21 : decode cX7_done 21 = .ok (.iaload, 1) := by decide +kernel
theorem dX7_done_22 : decode cX7_done 22 = .ok (.isub, 1) := by decide +kernel
theorem dX7_done_23 : decode cX7_done 23 = .ok (.iastore, 1) := by decide +kernel
theorem dX7_done_24 : decode cX7_done 24 = .ok (.aload_n 0, 1) := by decide +kernel
theorem dX7_done_25 : decode cX7_done 25 = .ok (.getfield 7, 3) := by decide +kernel
theorem dX7_done_28 : decode cX7_done 28 = .ok (.iload_n 1, 1) := by decide +kernel
theorem dX7_done_29 : decode cX7_done 29 = .ok (.bipush 19, 2) := by decide +kernel
theorem dX7_done_31 : decode cX7_done 31 = .ok (.iadd, 1) := by decide +kernel
theorem dX7_done_32 : decode cX7_done 32 = .ok (.iload_n 2, 1) := by decide +kernel
theorem dX7_done_33 : decode cX7_done 33 = .ok (.iadd, 1) := by decide +kernel
theorem dX7_done_34 : decode cX7_done 34 = .ok (.dup2, 1) := by decide +kernel
theorem dX7_done_35 : decode cX7_done 35 = .ok (.iaload, 1) := by decide +kernel
theorem dX7_done_36 : decode cX7_done 36 = .ok (.iconst 1, 1) := by decide +kernel
theorem dX7_done_37 : decode cX7_done 37 = .ok (.iadd, 1) := by decide +kernel
theorem dX7_done_38 : decode cX7_done 38 = .ok (.iastore, 1) := by decide +kernel
theorem dX7_done_39 : decode cX7_done 39 = .ok (.aload_n 0, 1) := by decide +kernel
theorem dX7_done_40 : decode cX7_done 40 = .ok (.getfield 7, 3) := by decide +kernel
theorem dX7_done_43 : decode cX7_done 43 = .ok (.iload_n 1, 1) := by decide +kernel
theorem dX7_done_44 : decode cX7_done 44 = .ok (.bipush 14, 2) := by decide +kernel
theorem dX7_done_46 : decode cX7_done 46 = .ok (.iadd, 1) := by decide +kernel
theorem dX7_done_47 : decode cX7_done 47 = .ok (.iload_n 2, 1) := by decide +kernel
theorem dX7_done_48 : decode cX7_done 48 = .ok (.iadd, 1) := by decide +kernel
theorem dX7_done_49 : decode cX7_done 49 = .ok (.iaload, 1) := by decide +kernel
theorem dX7_done_50 : decode cX7_done 50 = .ok (.ifCond .ne 22, 3) := by decide +kernel
theorem dX7_done_53 : decode cX7_done 53 = .ok (.iload_n 2, 1) := by decide +kernel
theorem dX7_done_54 : decode cX7_done 54 = .ok (.iconst 1, 1) := by decide +kernel
theorem dX7_done_55 : decode cX7_done 55 = .ok (.iadd, 1) := by decide +kernel
theorem dX7_done_56 : decode cX7_done 56 = .ok (.aload_n 0, 1) := by decide +kernel
theorem dX7_done_57 : decode cX7_done 57 = .ok (.iload_n 1, 1) := by decide +kernel
theorem dX7_done_58 : decode cX7_done 58 = .ok (.invokevirtual 34, 3) := by decide +kernel
theorem dX7_done_61 : decode cX7_done 61 = .ok (.if_icmp .ge 11, 3) := by decide +kernel
theorem dX7_done_64 : decode cX7_done 64 = .ok (.aload_n 0, 1) := by decide +kernel
theorem dX7_done_65 : decode cX7_done 65 = .ok (.iload_n 1, 1) := by decide +kernel
theorem dX7_done_66 : decode cX7_done 66 = .ok (.iload_n 2, 1) := by decide +kernel
theorem dX7_done_67 : decode cX7_done 67 = .ok (.iconst 1, 1) := by decide +kernel
theorem dX7_done_68 : decode cX7_done 68 = .ok (.iadd, 1) := by decide +kernel
theorem dX7_done_69 : decode cX7_done 69 = .ok (.invokevirtual 46, 3) := by decide +kernel
theorem dX7_done_72 : decode cX7_done 72 = .ok (.return_, 1) := by decide +kernel
set_option maxRecDepth 20000 in
theorem ggX7_sees_X7_shows : GoodIn wsX7_sees wsX7_shows := goodIn_r _ [6, 1, 7, 8, 9, 5, 10, 11, 12, 13, 14, 15, 16, 17] (by decide +kernel) (by decide +kernel)
set_option maxRecDepth 20000 in
theorem gX7_sees_X7_shows : GoodIn wsX7_sees (wsV RX7 50 RX7 yX7_shows wsX7_shows) := goodIn_app (goodIn_of _ (by decide +kernel)) ggX7_sees_X7_shows
theorem dX7_sees_0 : decode cX7_sees 0 = .ok (.aload_n 0, 1) := by decide +kernel
theorem dX7_sees_1 : decode cX7_sees 1 = .ok (.iload_n 1, 1) := by decide +kernel
theorem dX7_sees_2 : decode cX7_sees 2 = .ok (.invokevirtual 50, 3) := by decide +kernel
theorem dX7_sees_5 : decode cX7_sees 5 = .ok (.istore_n 2, 1) := by decide +kernel
theorem dX7_sees_6 : decode cX7_sees 6 = .ok (.iconst 0, 1) := by decide +kernel
theorem dX7_sees_7 : decode cX7_sees 7 = .ok (.istore_n 3, 1) := by decide +kernel
theorem dX7_sees_8 : decode cX7_sees 8 = .ok (.iload_n 3, 1) := by decide +kernel
theorem dX7_sees_9 : decode cX7_sees 9 = .ok (.aload_n 0, 1) := by decide +kernel
theorem dX7_sees_10 : decode cX7_sees 10 = .ok (.getfield 7, 3) := by decide +kernel
theorem dX7_sees_13 : decode cX7_sees 13 = .ok (.iload_n 1, 1) := by decide +kernel
theorem dX7_sees_14 : decode cX7_sees 14 = .ok (.bipush 8, 2) := by decide +kernel
theorem dX7_sees_16 : decode cX7_sees 16 = .ok (.iadd, 1) := by decide +kernel
theorem dX7_sees_17 : decode cX7_sees 17 = .ok (.iaload, 1) := by decide +kernel
theorem dX7_sees_18 : decode cX7_sees 18 = .ok (.if_icmp .ge 27, 3) := by decide +kernel
theorem dX7_sees_21 : decode cX7_sees 21 = .ok (.aload_n 0, 1) := by decide +kernel
theorem dX7_sees_22 : decode cX7_sees 22 = .ok (.getfield 7, 3) := by decide +kernel
theorem dX7_sees_25 : decode cX7_sees 25 = .ok (.iload_n 1, 1) := by decide +kernel
theorem dX7_sees_26 : decode cX7_sees 26 = .ok (.sipush 228, 3) := by decide +kernel
theorem dX7_sees_29 : decode cX7_sees 29 = .ok (.iadd, 1) := by decide +kernel
theorem dX7_sees_30 : decode cX7_sees 30 = .ok (.iconst 4, 1) := by decide +kernel
theorem dX7_sees_31 : decode cX7_sees 31 = .ok (.iload_n 3, 1) := by decide +kernel
theorem dX7_sees_32 : decode cX7_sees 32 = .ok (.imul, 1) := by decide +kernel
theorem dX7_sees_33 : decode cX7_sees 33 = .ok (.iadd, 1) := by decide +kernel
theorem dX7_sees_34 : decode cX7_sees 34 = .ok (.iaload, 1) := by decide +kernel
theorem dX7_sees_35 : decode cX7_sees 35 = .ok (.iload_n 2, 1) := by decide +kernel
theorem dX7_sees_36 : decode cX7_sees 36 = .ok (.if_icmp .eq 9, 3) := by decide +kernel
theorem dX7_sees_39 : decode cX7_sees 39 = .ok (.iinc 3 1, 3) := by decide +kernel
theorem dX7_sees_42 : decode cX7_sees 42 = .ok (.goto (-34), 3) := by decide +kernel
theorem dX7_sees_45 : decode cX7_sees 45 = .ok (.iload_n 1, 1) := by decide +kernel
theorem dX7_sees_46 : decode cX7_sees 46 = .ok (.sipush 228, 3) := by decide +kernel
theorem dX7_sees_49 : decode cX7_sees 49 = .ok (.iadd, 1) := by decide +kernel
theorem dX7_sees_50 : decode cX7_sees 50 = .ok (.iconst 4, 1) := by decide +kernel
theorem dX7_sees_51 : decode cX7_sees 51 = .ok (.iload_n 3, 1) := by decide +kernel
theorem dX7_sees_52 : decode cX7_sees 52 = .ok (.imul, 1) := by decide +kernel
theorem dX7_sees_53 : decode cX7_sees 53 = .ok (.iadd, 1) := by decide +kernel
theorem dX7_sees_54 : decode cX7_sees 54 = .ok (.istore 4, 2) := by decide +kernel
theorem dX7_sees_56 : decode cX7_sees 56 = .ok (.iload_n 3, 1) := by decide +kernel
theorem dX7_sees_57 : decode cX7_sees 57 = .ok (.aload_n 0, 1) := by decide +kernel
theorem dX7_sees_58 : decode cX7_sees 58 = .ok (.getfield 7, 3) := by decide +kernel
theorem dX7_sees_61 : decode cX7_sees 61 = .ok (.iload_n 1, 1) := by decide +kernel
theorem dX7_sees_62 : decode cX7_sees 62 = .ok (.bipush 8, 2) := by decide +kernel
theorem dX7_sees_64 : decode cX7_sees 64 = .ok (.iadd, 1) := by decide +kernel
theorem dX7_sees_65 : decode cX7_sees 65 = .ok (.iaload, 1) := by decide +kernel
theorem dX7_sees_66 : decode cX7_sees 66 = .ok (.if_icmp .ne 61, 3) := by decide +kernel
theorem dX7_sees_69 : decode cX7_sees 69 = .ok (.aload_n 0, 1) := by decide +kernel
theorem dX7_sees_70 : decode cX7_sees 70 = .ok (.getfield 7, 3) := by decide +kernel
theorem dX7_sees_73 : decode cX7_sees 73 = .ok (.iload_n 1, 1) := by decide +kernel
theorem dX7_sees_74 : decode cX7_sees 74 = .ok (.bipush 8, 2) := by decide +kernel
theorem dX7_sees_76 : decode cX7_sees 76 = .ok (.iadd, 1) := by decide +kernel
theorem dX7_sees_77 : decode cX7_sees 77 = .ok (.dup2, 1) := by decide +kernel
theorem dX7_sees_78 : decode cX7_sees 78 = .ok (.iaload, 1) := by decide +kernel
theorem dX7_sees_79 : decode cX7_sees 79 = .ok (.iconst 1, 1) := by decide +kernel
theorem dX7_sees_80 : decode cX7_sees 80 = .ok (.iadd, 1) := by decide +kernel
theorem dX7_sees_81 : decode cX7_sees 81 = .ok (.iastore, 1) := by decide +kernel
theorem dX7_sees_82 : decode cX7_sees 82 = .ok (.aload_n 0, 1) := by decide +kernel
theorem dX7_sees_83 : decode cX7_sees 83 = .ok (.getfield 7, 3) := by decide +kernel
theorem dX7_sees_86 : decode cX7_sees 86 = .ok (.iload 4, 2) := by decide +kernel
theorem dX7_sees_88 : decode cX7_sees 88 = .ok (.iload_n 2, 1) := by decide +kernel
theorem dX7_sees_89 : decode cX7_sees 89 = .ok (.iastore, 1) := by decide +kernel
theorem dX7_sees_90 : decode cX7_sees 90 = .ok (.aload_n 0, 1) := by decide +kernel
theorem dX7_sees_91 : decode cX7_sees 91 = .ok (.getfield 7, 3) := by decide +kernel
