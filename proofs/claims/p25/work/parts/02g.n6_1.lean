theorem dX6_latch_5 : decode cX6_latch 5 = .ok (.getfield 12, 3) := by decide +kernel
theorem dX6_latch_8 : decode cX6_latch 8 = .ok (.invokevirtual 45, 3) := by decide +kernel
theorem dX6_latch_11 : decode cX6_latch 11 = .ok (.aload_n 0, 1) := by decide +kernel
theorem dX6_latch_12 : decode cX6_latch 12 = .ok (.getfield 19, 3) := by decide +kernel
theorem dX6_latch_15 : decode cX6_latch 15 = .ok (.aload_n 0, 1) := by decide +kernel
theorem dX6_latch_16 : decode cX6_latch 16 = .ok (.getfield 12, 3) := by decide +kernel
theorem dX6_latch_19 : decode cX6_latch 19 = .ok (.invokevirtual 70, 3) := by decide +kernel
theorem dX6_latch_22 : decode cX6_latch 22 = .ok (.invokevirtual 53, 3) := by decide +kernel
theorem dX6_latch_25 : decode cX6_latch 25 = .ok (.ireturn, 1) := by decide +kernel
set_option maxRecDepth 20000 in
theorem ggX6_of_X5_hasStage : GoodIn wsX6_of wsX5_hasStage := goodIn_r _ [9, 10, 40, 41, 42, 43, 44, 45, 46] (by decide +kernel) (by decide +kernel)
set_option maxRecDepth 20000 in
theorem gX6_of_X5_hasStage : GoodIn wsX6_of (wsV RX6 76 RX5 yX5_hasStage wsX5_hasStage) := goodIn_app (goodIn_of _ (by decide +kernel)) ggX6_of_X5_hasStage
set_option maxRecDepth 20000 in
theorem ggX6_of_X5_output : GoodIn wsX6_of wsX5_output := goodIn_r _ [14, 15, 40, 41, 42, 43, 44, 45, 46] (by decide +kernel) (by decide +kernel)
set_option maxRecDepth 20000 in
theorem gX6_of_X5_output : GoodIn wsX6_of (wsV RX6 84 RX5 yX5_output wsX5_output) := goodIn_app (goodIn_of _ (by decide +kernel)) ggX6_of_X5_output
set_option maxRecDepth 20000 in
theorem ggX6_of_X5_onTheirWayIn : GoodIn wsX6_of wsX5_onTheirWayIn := goodIn_r _ [19, 20, 40, 41, 42, 43, 44, 45, 46] (by decide +kernel) (by decide +kernel)
set_option maxRecDepth 20000 in
theorem gX6_of_X5_onTheirWayIn : GoodIn wsX6_of (wsV RX6 87 RX5 yX5_onTheirWayIn wsX5_onTheirWayIn) := goodIn_app (goodIn_of _ (by decide +kernel)) ggX6_of_X5_onTheirWayIn
set_option maxRecDepth 20000 in
theorem ggX6_of_X5_untilNext : GoodIn wsX6_of wsX5_untilNext := goodIn_r _ [24, 20, 25, 40, 41, 42, 43, 44, 45, 46] (by decide +kernel) (by decide +kernel)
set_option maxRecDepth 20000 in
theorem gX6_of_X5_untilNext : GoodIn wsX6_of (wsV RX6 90 RX5 yX5_untilNext wsX5_untilNext) := goodIn_app (goodIn_of _ (by decide +kernel)) ggX6_of_X5_untilNext
theorem dX6_of_0 : decode cX6_of 0 = .ok (.aload_n 0, 1) := by decide +kernel
theorem dX6_of_1 : decode cX6_of 1 = .ok (.getfield 12, 3) := by decide +kernel
theorem dX6_of_4 : decode cX6_of 4 = .ok (.getfield 73, 3) := by decide +kernel
theorem dX6_of_7 : decode cX6_of 7 = .ok (.astore_n 3, 1) := by decide +kernel
theorem dX6_of_8 : decode cX6_of 8 = .ok (.aload_n 3, 1) := by decide +kernel
theorem dX6_of_9 : decode cX6_of 9 = .ok (.iload_n 1, 1) := by decide +kernel
theorem dX6_of_10 : decode cX6_of 10 = .ok (.invokevirtual 76, 3) := by decide +kernel
theorem dX6_of_13 : decode cX6_of 13 = .ok (.ifCond .ne 5, 3) := by decide +kernel
theorem dX6_of_16 : decode cX6_of 16 = .ok (.iconst (-1), 1) := by decide +kernel
theorem dX6_of_17 : decode cX6_of 17 = .ok (.ireturn, 1) := by decide +kernel
theorem dX6_of_18 : decode cX6_of 18 = .ok (.iload_n 2, 1) := by decide +kernel
theorem dX6_of_19 : decode cX6_of 19 = .ok (.tableswitch 65 0 4 #[33, 40, 46, 52, 58], 33) := by decide +kernel
theorem dX6_of_52 : decode cX6_of 52 = .ok (.aload_n 3, 1) := by decide +kernel
theorem dX6_of_53 : decode cX6_of 53 = .ok (.getfield 80, 3) := by decide +kernel
theorem dX6_of_56 : decode cX6_of 56 = .ok (.iload_n 1, 1) := by decide +kernel
theorem dX6_of_57 : decode cX6_of 57 = .ok (.iaload, 1) := by decide +kernel
theorem dX6_of_58 : decode cX6_of 58 = .ok (.ireturn, 1) := by decide +kernel
theorem dX6_of_59 : decode cX6_of 59 = .ok (.aload_n 3, 1) := by decide +kernel
theorem dX6_of_60 : decode cX6_of 60 = .ok (.iload_n 1, 1) := by decide +kernel
theorem dX6_of_61 : decode cX6_of 61 = .ok (.invokevirtual 84, 3) := by decide +kernel
theorem dX6_of_64 : decode cX6_of 64 = .ok (.ireturn, 1) := by decide +kernel
theorem dX6_of_65 : decode cX6_of 65 = .ok (.aload_n 3, 1) := by decide +kernel
theorem dX6_of_66 : decode cX6_of 66 = .ok (.iload_n 1, 1) := by decide +kernel
theorem dX6_of_67 : decode cX6_of 67 = .ok (.invokevirtual 87, 3) := by decide +kernel
theorem dX6_of_70 : decode cX6_of 70 = .ok (.ireturn, 1) := by decide +kernel
theorem dX6_of_71 : decode cX6_of 71 = .ok (.aload_n 3, 1) := by decide +kernel
theorem dX6_of_72 : decode cX6_of 72 = .ok (.iload_n 1, 1) := by decide +kernel
theorem dX6_of_73 : decode cX6_of 73 = .ok (.invokevirtual 90, 3) := by decide +kernel
theorem dX6_of_76 : decode cX6_of 76 = .ok (.ireturn, 1) := by decide +kernel
theorem dX6_of_77 : decode cX6_of 77 = .ok (.aload_n 3, 1) := by decide +kernel
theorem dX6_of_78 : decode cX6_of 78 = .ok (.getfield 93, 3) := by decide +kernel
theorem dX6_of_81 : decode cX6_of 81 = .ok (.iload_n 1, 1) := by decide +kernel
theorem dX6_of_82 : decode cX6_of 82 = .ok (.iaload, 1) := by decide +kernel
theorem dX6_of_83 : decode cX6_of 83 = .ok (.ireturn, 1) := by decide +kernel
theorem dX6_of_84 : decode cX6_of 84 = .ok (.bipush (-2), 2) := by decide +kernel
theorem dX6_of_86 : decode cX6_of 86 = .ok (.ireturn, 1) := by decide +kernel
set_option maxRecDepth 20000 in
theorem ggX6_reading_X3_tell : GoodIn wsX6_reading wsX3_tell := goodIn_r _ [7, 8, 9, 10, 11, 12, 13, 14, 15, 6, 16, 31, 32, 33, 34, 35] (by decide +kernel) (by decide +kernel)
set_option maxRecDepth 20000 in
theorem gX6_reading_X3_tell : GoodIn wsX6_reading (wsV RX6 100 RX3 yX3_tell wsX3_tell) := goodIn_app (goodIn_of _ (by decide +kernel)) ggX6_reading_X3_tell
theorem dX6_reading_0 : decode cX6_reading 0 = .ok (.aload_n 0, 1) := by decide +kernel
theorem dX6_reading_1 : decode cX6_reading 1 = .ok (.getfield 12, 3) := by decide +kernel
theorem dX6_reading_4 : decode cX6_reading 4 = .ok (.getfield 96, 3) := by decide +kernel
theorem dX6_reading_7 : decode cX6_reading 7 = .ok (.iload_n 1, 1) := by decide +kernel
theorem dX6_reading_8 : decode cX6_reading 8 = .ok (.iload_n 2, 1) := by decide +kernel
theorem dX6_reading_9 : decode cX6_reading 9 = .ok (.invokevirtual 100, 3) := by decide +kernel
theorem dX6_reading_12 : decode cX6_reading 12 = .ok (.ireturn, 1) := by decide +kernel
set_option maxRecDepth 20000 in
theorem ggX6_seen_X4_tell : GoodIn wsX6_seen wsX4_tell := goodIn_r _ [7, 8, 9, 10, 11, 12, 27, 28, 29, 30, 31] (by decide +kernel) (by decide +kernel)
set_option maxRecDepth 20000 in
theorem gX6_seen_X4_tell : GoodIn wsX6_seen (wsV RX6 109 RX4 yX4_tell wsX4_tell) := goodIn_app (goodIn_of _ (by decide +kernel)) ggX6_seen_X4_tell
theorem dX6_seen_0 : decode cX6_seen 0 = .ok (.aload_n 0, 1) := by decide +kernel
theorem dX6_seen_1 : decode cX6_seen 1 = .ok (.getfield 12, 3) := by decide +kernel
theorem dX6_seen_4 : decode cX6_seen 4 = .ok (.getfield 105, 3) := by decide +kernel
theorem dX6_seen_7 : decode cX6_seen 7 = .ok (.iload_n 1, 1) := by decide +kernel
theorem dX6_seen_8 : decode cX6_seen 8 = .ok (.iload_n 2, 1) := by decide +kernel
theorem dX6_seen_9 : decode cX6_seen 9 = .ok (.invokevirtual 109, 3) := by decide +kernel
theorem dX6_seen_12 : decode cX6_seen 12 = .ok (.ireturn, 1) := by decide +kernel
set_option maxRecDepth 20000 in
theorem ggX6_count_X3_trueOnes : GoodIn wsX6_count wsX3_trueOnes := goodIn_r _ [21, 22, 23, 24, 25, 20, 26, 27, 28, 72, 73, 74, 75, 76] (by decide +kernel) (by decide +kernel)
set_option maxRecDepth 20000 in
theorem gX6_count_X3_trueOnes : GoodIn wsX6_count (wsV RX6 128 RX3 yX3_trueOnes wsX3_trueOnes) := goodIn_app (goodIn_of _ (by decide +kernel)) ggX6_count_X3_trueOnes
set_option maxRecDepth 20000 in
theorem ggX6_count_X4_allNumbers : GoodIn wsX6_count wsX4_allNumbers := goodIn_r _ [33, 34, 35, 36, 32, 37, 82, 83, 84, 85, 86] (by decide +kernel) (by decide +kernel)
set_option maxRecDepth 20000 in
theorem gX6_count_X4_allNumbers : GoodIn wsX6_count (wsV RX6 131 RX4 yX4_allNumbers wsX4_allNumbers) := goodIn_app (goodIn_of _ (by decide +kernel)) ggX6_count_X4_allNumbers
set_option maxRecDepth 20000 in
theorem ggX6_count_X4_flashedNumbers : GoodIn wsX6_count wsX4_flashedNumbers := goodIn_r _ [41, 42, 35, 36, 32, 37, 82, 83, 84, 85, 86] (by decide +kernel) (by decide +kernel)
set_option maxRecDepth 20000 in
theorem gX6_count_X4_flashedNumbers : GoodIn wsX6_count (wsV RX6 134 RX4 yX4_flashedNumbers wsX4_flashedNumbers) := goodIn_app (goodIn_of _ (by decide +kernel)) ggX6_count_X4_flashedNumbers
set_option maxRecDepth 20000 in
theorem ggX6_count_X0_stillFor : GoodIn wsX6_count wsX0_stillFor := goodIn_r _ [47, 48, 49, 50, 57, 58, 59, 60, 61, 62, 63, 64, 65, 66, 67, 68, 69, 70, 71] (by decide +kernel) (by decide +kernel)
set_option maxRecDepth 20000 in
theorem gX6_count_X0_stillFor : GoodIn wsX6_count (wsV RX6 137 RX0 yX0_stillFor wsX0_stillFor) := goodIn_app (goodIn_of _ (by decide +kernel)) ggX6_count_X0_stillFor
theorem dX6_count_0 : decode cX6_count 0 = .ok (.iload_n 1, 1) := by decide +kernel
theorem dX6_count_1 : decode cX6_count 1 = .ok (.tableswitch 215 0 13 #[71, 82, 93, 101, 112, 123, 134, 145, 156, 164, 180, 191, 199, 207], 71) := by decide +kernel
theorem dX6_count_72 : decode cX6_count 72 = .ok (.aload_n 0, 1) := by decide +kernel
theorem dX6_count_73 : decode cX6_count 73 = .ok (.getfield 12, 3) := by decide +kernel
theorem dX6_count_76 : decode cX6_count 76 = .ok (.getfield 73, 3) := by decide +kernel
theorem dX6_count_79 : decode cX6_count 79 = .ok (.getfield 112, 3) := by decide +kernel
theorem dX6_count_82 : decode cX6_count 82 = .ok (.ireturn, 1) := by decide +kernel
theorem dX6_count_83 : decode cX6_count 83 = .ok (.aload_n 0, 1) := by decide +kernel
theorem dX6_count_84 : decode cX6_count 84 = .ok (.getfield 12, 3) := by decide +kernel
theorem dX6_count_87 : decode cX6_count 87 = .ok (.getfield 73, 3) := by decide +kernel
theorem dX6_count_90 : decode cX6_count 90 = .ok (.getfield 116, 3) := by decide +kernel
theorem dX6_count_93 : decode cX6_count 93 = .ok (.ireturn, 1) := by decide +kernel
theorem dX6_count_94 : decode cX6_count 94 = .ok (.aload_n 0, 1) := by decide +kernel
theorem dX6_count_95 : decode cX6_count 95 = .ok (.getfield 12, 3) := by decide +kernel
theorem dX6_count_98 : decode cX6_count 98 = .ok (.getfield 119, 3) := by decide +kernel
theorem dX6_count_101 : decode cX6_count 101 = .ok (.ireturn, 1) := by decide +kernel
theorem dX6_count_102 : decode cX6_count 102 = .ok (.aload_n 0, 1) := by decide +kernel
theorem dX6_count_103 : decode cX6_count 103 = .ok (.getfield 12, 3) := by decide +kernel
theorem dX6_count_106 : decode cX6_count 106 = .ok (.getfield 73, 3) := by decide +kernel
theorem dX6_count_109 : decode cX6_count 109 = .ok (.getfield 122, 3) := by decide +kernel
theorem dX6_count_112 : decode cX6_count 112 = .ok (.ireturn, 1) := by decide +kernel
theorem dX6_count_113 : decode cX6_count 113 = .ok (.aload_n 0, 1) := by decide +kernel
theorem dX6_count_114 : decode cX6_count 114 = .ok (.getfield 12, 3) := by decide +kernel
theorem dX6_count_117 : decode cX6_count 117 = .ok (.getfield 96, 3) := by decide +kernel
theorem dX6_count_120 : decode cX6_count 120 = .ok (.getfield 125, 3) := by decide +kernel
theorem dX6_count_123 : decode cX6_count 123 = .ok (.ireturn, 1) := by decide +kernel
theorem dX6_count_124 : decode cX6_count 124 = .ok (.aload_n 0, 1) := by decide +kernel
theorem dX6_count_125 : decode cX6_count 125 = .ok (.getfield 12, 3) := by decide +kernel
theorem dX6_count_128 : decode cX6_count 128 = .ok (.getfield 96, 3) := by decide +kernel
theorem dX6_count_131 : decode cX6_count 131 = .ok (.invokevirtual 128, 3) := by decide +kernel
theorem dX6_count_134 : decode cX6_count 134 = .ok (.ireturn, 1) := by decide +kernel
theorem dX6_count_135 : decode cX6_count 135 = .ok (.aload_n 0, 1) := by decide +kernel
theorem dX6_count_136 : decode cX6_count 136 = .ok (.getfield 12, 3) := by decide +kernel
theorem dX6_count_139 : decode cX6_count 139 = .ok (.getfield 105, 3) := by decide +kernel
theorem dX6_count_142 : decode cX6_count 142 = .ok (.invokevirtual 131, 3) := by decide +kernel
theorem dX6_count_145 : decode cX6_count 145 = .ok (.ireturn, 1) := by decide +kernel
theorem dX6_count_146 : decode cX6_count 146 = .ok (.aload_n 0, 1) := by decide +kernel
theorem dX6_count_147 : decode cX6_count 147 = .ok (.getfield 12, 3) := by decide +kernel
theorem dX6_count_150 : decode cX6_count 150 = .ok (.getfield 105, 3) := by decide +kernel
theorem dX6_count_153 : decode cX6_count 153 = .ok (.invokevirtual 134, 3) := by decide +kernel
theorem dX6_count_156 : decode cX6_count 156 = .ok (.ireturn, 1) := by decide +kernel
theorem dX6_count_157 : decode cX6_count 157 = .ok (.aload_n 0, 1) := by decide +kernel
theorem dX6_count_158 : decode cX6_count 158 = .ok (.getfield 12, 3) := by decide +kernel
theorem dX6_count_161 : decode cX6_count 161 = .ok (.invokevirtual 137, 3) := by decide +kernel
theorem dX6_count_164 : decode cX6_count 164 = .ok (.ireturn, 1) := by decide +kernel
theorem dX6_count_165 : decode cX6_count 165 = .ok (.aload_n 0, 1) := by decide +kernel
theorem dX6_count_166 : decode cX6_count 166 = .ok (.getfield 12, 3) := by decide +kernel
theorem dX6_count_169 : decode cX6_count 169 = .ok (.getfield 140, 3) := by decide +kernel
theorem dX6_count_172 : decode cX6_count 172 = .ok (.ifCond .eq 7, 3) := by decide +kernel
theorem dX6_count_175 : decode cX6_count 175 = .ok (.iconst 1, 1) := by decide +kernel
theorem dX6_count_176 : decode cX6_count 176 = .ok (.goto 4, 3) := by decide +kernel
theorem dX6_count_179 : decode cX6_count 179 = .ok (.iconst 0, 1) := by decide +kernel
theorem dX6_count_180 : decode cX6_count 180 = .ok (.ireturn, 1) := by decide +kernel
theorem dX6_count_181 : decode cX6_count 181 = .ok (.aload_n 0, 1) := by decide +kernel
theorem dX6_count_182 : decode cX6_count 182 = .ok (.getfield 12, 3) := by decide +kernel
theorem dX6_count_185 : decode cX6_count 185 = .ok (.getfield 73, 3) := by decide +kernel
theorem dX6_count_188 : decode cX6_count 188 = .ok (.getfield 144, 3) := by decide +kernel
theorem dX6_count_191 : decode cX6_count 191 = .ok (.ireturn, 1) := by decide +kernel
theorem dX6_count_192 : decode cX6_count 192 = .ok (.aload_n 0, 1) := by decide +kernel
theorem dX6_count_193 : decode cX6_count 193 = .ok (.getfield 12, 3) := by decide +kernel
theorem dX6_count_196 : decode cX6_count 196 = .ok (.getfield 147, 3) := by decide +kernel
theorem dX6_count_199 : decode cX6_count 199 = .ok (.ireturn, 1) := by decide +kernel
theorem dX6_count_200 : decode cX6_count 200 = .ok (.aload_n 0, 1) := by decide +kernel
theorem dX6_count_201 : decode cX6_count 201 = .ok (.getfield 41, 3) := by decide +kernel
theorem dX6_count_204 : decode cX6_count 204 = .ok (.getfield 150, 3) := by decide +kernel
theorem dX6_count_207 : decode cX6_count 207 = .ok (.ireturn, 1) := by decide +kernel
theorem dX6_count_208 : decode cX6_count 208 = .ok (.aload_n 0, 1) := by decide +kernel
theorem dX6_count_209 : decode cX6_count 209 = .ok (.getfield 19, 3) := by decide +kernel
theorem dX6_count_212 : decode cX6_count 212 = .ok (.getfield 153, 3) := by decide +kernel
theorem dX6_count_215 : decode cX6_count 215 = .ok (.ireturn, 1) := by decide +kernel
theorem dX6_count_216 : decode cX6_count 216 = .ok (.bipush (-2), 2) := by decide +kernel
theorem dX6_count_218 : decode cX6_count 218 = .ok (.ireturn, 1) := by decide +kernel
set_option maxRecDepth 20000 in
theorem ggX6_stillIn_X5_copyFrom : GoodIn wsX6_stillIn wsX5_copyFrom := goodIn_r _ [9, 10, 11, 12, 13, 14, 15, 16, 17, 18, 19, 20, 51, 52, 53, 54, 55, 56, 57] (by decide +kernel) (by decide +kernel)
set_option maxRecDepth 20000 in
theorem gX6_stillIn_X5_copyFrom : GoodIn wsX6_stillIn (wsV RX6 156 RX5 yX5_copyFrom wsX5_copyFrom) := goodIn_app (goodIn_of _ (by decide +kernel)) ggX6_stillIn_X5_copyFrom
set_option maxRecDepth 20000 in
theorem ggX6_stillIn_X5_nanosecond : GoodIn wsX6_stillIn wsX5_nanosecond := goodIn_r _ [24, 10, 25, 26, 27, 8, 28, 11, 20, 13, 29, 30, 31, 32, 12, 19, 33, 34, 35, 36, 14, 51, 52, 53, 54, 55, 56, 57] (by decide +kernel) (by decide +kernel)
set_option maxRecDepth 20000 in
theorem gX6_stillIn_X5_nanosecond : GoodIn wsX6_stillIn (wsV RX6 160 RX5 yX5_nanosecond wsX5_nanosecond) := goodIn_app (goodIn_of _ (by decide +kernel)) ggX6_stillIn_X5_nanosecond
theorem dX6_stillIn_0 : decode cX6_stillIn 0 = .ok (.aload_n 0, 1) := by decide +kernel
theorem dX6_stillIn_1 : decode cX6_stillIn 1 = .ok (.getfield 34, 3) := by decide +kernel
theorem dX6_stillIn_4 : decode cX6_stillIn 4 = .ok (.aload_n 0, 1) := by decide +kernel
theorem dX6_stillIn_5 : decode cX6_stillIn 5 = .ok (.getfield 12, 3) := by decide +kernel
theorem dX6_stillIn_8 : decode cX6_stillIn 8 = .ok (.getfield 73, 3) := by decide +kernel
theorem dX6_stillIn_11 : decode cX6_stillIn 11 = .ok (.invokevirtual 156, 3) := by decide +kernel
theorem dX6_stillIn_14 : decode cX6_stillIn 14 = .ok (.iconst 0, 1) := by decide +kernel
theorem dX6_stillIn_15 : decode cX6_stillIn 15 = .ok (.istore_n 1, 1) := by decide +kernel
theorem dX6_stillIn_16 : decode cX6_stillIn 16 = .ok (.aload_n 0, 1) := by decide +kernel
theorem dX6_stillIn_17 : decode cX6_stillIn 17 = .ok (.getfield 34, 3) := by decide +kernel
theorem dX6_stillIn_20 : decode cX6_stillIn 20 = .ok (.getfield 122, 3) := by decide +kernel
theorem dX6_stillIn_23 : decode cX6_stillIn 23 = .ok (.ifCond .le 22, 3) := by decide +kernel
theorem dX6_stillIn_26 : decode cX6_stillIn 26 = .ok (.iload_n 1, 1) := by decide +kernel
theorem dX6_stillIn_27 : decode cX6_stillIn 27 = .ok (.bipush 100, 2) := by decide +kernel
theorem dX6_stillIn_29 : decode cX6_stillIn 29 = .ok (.if_icmp .gt 16, 3) := by decide +kernel
theorem dX6_stillIn_32 : decode cX6_stillIn 32 = .ok (.aload_n 0, 1) := by decide +kernel
theorem dX6_stillIn_33 : decode cX6_stillIn 33 = .ok (.getfield 34, 3) := by decide +kernel
theorem dX6_stillIn_36 : decode cX6_stillIn 36 = .ok (.invokevirtual 160, 3) := by decide +kernel
theorem dX6_stillIn_39 : decode cX6_stillIn 39 = .ok (.iinc 1 1, 3) := by decide +kernel
theorem dX6_stillIn_42 : decode cX6_stillIn 42 = .ok (.goto (-26), 3) := by decide +kernel
theorem dX6_stillIn_45 : decode cX6_stillIn 45 = .ok (.iload_n 1, 1) := by decide +kernel
theorem dX6_stillIn_46 : decode cX6_stillIn 46 = .ok (.ireturn, 1) := by decide +kernel
