theorem dX6_seen_1 : decode cX6_seen 1 = .ok (.getfield 12, 3) := by decide +kernel
theorem dX6_seen_4 : decode cX6_seen 4 = .ok (.getfield 105, 3) := by decide +kernel
theorem dX6_seen_7 : decode cX6_seen 7 = .ok (.iload_n 1, 1) := by decide +kernel
theorem dX6_seen_8 : decode cX6_seen 8 = .ok (.iload_n 2, 1) := by decide +kernel
theorem dX6_seen_9 : decode cX6_seen 9 = .ok (.invokevirtual 109, 3) := by decide +kernel
theorem dX6_seen_12 : decode cX6_seen 12 = .ok (.ireturn, 1) := by decide +kernel
set_option maxRecDepth 20000 in
theorem ggX6_count_X3_trueOnes : GoodIn wsX6_count wsX3_trueOnes := goodIn_r _ [21, 22, 23, 24, 25, 20, 26, 27, 28, 72, 73, 74, 75, 76] (by decide +kernel) (by decide +kernel)
set_option maxRecDepth 20000 in
theorem gX6_count_X3_trueOnes : GoodIn wsX6_count (wsV RX6 128 RX3 yX3_trueOnes wsX3_trueOnes) := goodIn_app (goodIn_of _ (by decide +kernel)) ggX6_count_X3_trueOnes
set_option maxRecDepth 20000 in
theorem ggX6_count_X4_allNumbers : GoodIn wsX6_count wsX4_allNumbers := goodIn_r _ [33, 34, 35, 36, 32, 37, 82, 83, 84, 85, 86] (by decide +kernel) (by decide +kernel)
set_option maxRecDepth 20000 in
theorem gX6_count_X4_allNumbers : GoodIn wsX6_count (wsV RX6 131 RX4 yX4_allNumbers wsX4_allNumbers) := goodIn_app (goodIn_of _ (by decide +kernel)) ggX6_count_X4_allNumbers
set_option maxRecDepth 20000 in
theorem ggX6_count_X4_flashedNumbers : GoodIn wsX6_count wsX4_flashedNumbers := goodIn_r _ [41, 42, 35, 36, 32, 37, 82, 83, 84, 85, 86] (by decide +kernel) (by decide +kernel)
set_option maxRecDepth 20000 in
theorem gX6_count_X4_flashedNumbers : GoodIn wsX6_count (wsV RX6 134 RX4 yX4_flashedNumbers wsX4_flashedNumbers) := goodIn_app (goodIn_of _ (by decide +kernel)) ggX6_count_X4_flashedNumbers
set_option maxRecDepth 20000 in
theorem ggX6_count_X0_stillFor : GoodIn wsX6_count wsX0_stillFor := goodIn_r _ [47, 48, 49, 50, 57, 58, 59, 60, 61, 62, 63, 64, 65, 66, 67, 68, 69, 70, 71] (by decide +kernel) (by decide +kernel)
set_option maxRecDepth 20000 in
theorem gX6_count_X0_stillFor : GoodIn wsX6_count (wsV RX6 137 RX0 yX0_stillFor wsX0_stillFor) := goodIn_app (goodIn_of _ (by decide +kernel)) ggX6_count_X0_stillFor
theorem dX6_count_0 : decode cX6_count 0 = .ok (.iload_n 1, 1) := by decide +kernel
theorem dX6_count_1 : decode cX6_count 1 = .ok (.tableswitch 215 0 13 #[71, 82, 93, 101, 112, 123, 134, 145, 156, 164, 180, 191, 199, 207], 71) := by decide +kernel
theorem dX6_count_72 : decode cX6_count 72 = .ok (.aload_n 0, 1) := by decide +kernel
theorem dX6_count_73 : decode cX6_count 73 = .ok (.getfield 12, 3) := by decide +kernel
theorem dX6_count_76 : decode cX6_count 76 = .ok (.getfield 73, 3) := by decide +kernel
theorem dX6_count_79 : decode cX6_count 79 = .ok (.getfield 112, 3) := by decide +kernel
theorem dX6_count_82 : decode cX6_count 82 = .ok (.ireturn, 1) := by decide +kernel
theorem dX6_count_83 : decode cX6_count 83 = .ok (.aload_n 0, 1) := by decide +kernel
theorem dX6_count_84 : decode cX6_count 84 = .ok (.getfield 12, 3) := by decide +kernel
theorem dX6_count_87 : decode cX6_count 87 = .ok (.getfield 73, 3) := by decide +kernel
theorem dX6_count_90 : decode cX6_count 90 = .ok (.getfield 116, 3) := by decide +kernel
theorem dX6_count_93 : decode cX6_count 93 = .ok (.ireturn, 1) := by decide +kernel
theorem dX6_count_94 : decode cX6_count 94 = .ok (.aload_n 0, 1) := by decide +kernel
theorem dX6_count_95 : decode cX6_count 95 = .ok (.getfield 12, 3) := by decide +kernel
theorem dX6_count_98 : decode cX6_count 98 = .ok (.getfield 119, 3) := by decide +kernel
theorem dX6_count_101 : decode cX6_count 101 = .ok (.ireturn, 1) := by decide +kernel
theorem dX6_count_102 : decode cX6_count 102 = .ok (.aload_n 0, 1) := by decide +kernel
theorem dX6_count_103 : decode cX6_count 103 = .ok (.getfield 12, 3) := by decide +kernel
theorem dX6_count_106 : decode cX6_count 106 = .ok (.getfield 73, 3) := by decide +kernel
theorem dX6_count_109 : decode cX6_count 109 = .ok (.getfield 122, 3) := by decide +kernel
theorem dX6_count_112 : decode cX6_count 112 = .ok (.ireturn, 1) := by decide +kernel
theorem dX6_count_113 : decode cX6_count 113 = .ok (.aload_n 0, 1) := by decide +kernel
theorem dX6_count_114 : decode cX6_count 114 = .ok (.getfield 12, 3) := by decide +kernel
theorem dX6_count_117 : decode cX6_count 117 = .ok (.getfield 96, 3) := by decide +kernel
theorem dX6_count_120 : decode cX6_count 120 = .ok (.getfield 125, 3) := by decide +kernel
theorem dX6_count_123 : decode cX6_count 123 = .ok (.ireturn, 1) := by decide +kernel
theorem dX6_count_124 : decode cX6_count 124 = .ok (.aload_n 0, 1) := by decide +kernel
theorem dX6_count_125 : decode cX6_count 125 = .ok (.getfield 12, 3) := by decide +kernel
theorem dX6_count_128 : decode cX6_count 128 = .ok (.getfield 96, 3) := by decide +kernel
theorem dX6_count_131 : decode cX6_count 131 = .ok (.invokevirtual 128, 3) := by decide +kernel
theorem dX6_count_134 : decode cX6_count 134 = .ok (.ireturn, 1) := by decide +kernel
theorem dX6_count_135 : decode cX6_count 135 = .ok (.aload_n 0, 1) := by decide +kernel
theorem dX6_count_136 : decode cX6_count 136 = .ok (.getfield 12, 3) := by decide +kernel
theorem dX6_count_139 : decode cX6_count 139 = .ok (.getfield 105, 3) := by decide +kernel
theorem dX6_count_142 : decode cX6_count 142 = .ok (.invokevirtual 131, 3) := by decide +kernel
theorem dX6_count_145 : decode cX6_count 145 = .ok (.ireturn, 1) := by decide +kernel
theorem dX6_count_146 : decode cX6_count 146 = .ok (.aload_n 0, 1) := by decide +kernel
theorem dX6_count_147 : decode cX6_count 147 = .ok (.getfield 12, 3) := by decide +kernel
theorem dX6_count_150 : decode cX6_count 150 = .ok (.getfield 105, 3) := by decide +kernel
theorem dX6_count_153 : decode cX6_count 153 = .ok (.invokevirtual 134, 3) := by decide +kernel
theorem dX6_count_156 : decode cX6_count 156 = .ok (.ireturn, 1) := by decide +kernel
theorem dX6_count_157 : decode cX6_count 157 = .ok (.aload_n 0, 1) := by decide +kernel
theorem dX6_count_158 : decode cX6_count 158 = .ok (.getfield 12, 3) := by decide +kernel
theorem dX6_count_161 : decode cX6_count 161 = .ok (.invokevirtual 137, 3) := by decide +kernel
theorem dX6_count_164 : decode cX6_count 164 = .ok (.ireturn, 1) := by decide +kernel
theorem dX6_count_165 : decode cX6_count 165 = .ok (.aload_n 0, 1) := by decide +kernel
theorem dX6_count_166 : decode cX6_count 166 = .ok (.getfield 12, 3) := by decide +kernel
theorem dX6_count_169 : decode cX6_count 169 = .ok (.getfield 140, 3) := by decide +kernel
theorem dX6_count_172 : decode cX6_count 172 = .ok (.ifCond .eq 7, 3) := by decide +kernel
theorem dX6_count_175 : decode cX6_count 175 = .ok (.iconst 1, 1) := by decide +kernel
theorem dX6_count_176 : decode cX6_count 176 = .ok (.goto 4, 3) := by decide +kernel
theorem dX6_count_179 : decode cX6_count 179 = .ok (.iconst 0, 1) := by decide +kernel
theorem dX6_count_180 : decode cX6_count 180 = .ok (.ireturn, 1) := by decide +kernel
theorem dX6_count_181 : decode cX6_count 181 = .ok (.aload_n 0, 1) := by decide +kernel
theorem dX6_count_182 : decode cX6_count 182 = .ok (.getfield 12, 3) := by decide +kernel
theorem dX6_count_185 : decode cX6_count 185 = .ok (.getfield 73, 3) := by decide +kernel
theorem dX6_count_188 : decode cX6_count 188 = .ok (.getfield 144, 3) := by decide +kernel
theorem dX6_count_191 : decode cX6_count 191 = .ok (.ireturn, 1) := by decide +kernel
theorem dX6_count_192 : decode cX6_count 192 = .ok (.aload_n 0, 1) := by decide +kernel
theorem dX6_count_193 : decode cX6_count 193 = .ok (.getfield 12, 3) := by decide +kernel
theorem dX6_count_196 : decode cX6_count 196 = .ok (.getfield 147, 3) := by decide +kernel
theorem dX6_count_199 : decode cX6_count 199 = .ok (.ireturn, 1) := by decide +kernel
theorem dX6_count_200 : decode cX6_count 200 = .ok (.aload_n 0, 1) := by decide +kernel
theorem dX6_count_201 : decode cX6_count 201 = .ok (.getfield 41, 3) := by decide +kernel
theorem dX6_count_204 : decode cX6_count 204 = .ok (.getfield 150, 3) := by decide +kernel
theorem dX6_count_207 : decode cX6_count 207 = .ok (.ireturn, 1) := by decide +kernel
theorem dX6_count_208 : decode cX6_count 208 = .ok (.aload_n 0, 1) := by decide +kernel
theorem dX6_count_209 : decode cX6_count 209 = .ok (.getfield 19, 3) := by decide +kernel
theorem dX6_count_212 : decode cX6_count 212 = .ok (.getfield 153, 3) := by decide +kernel
theorem dX6_count_215 : decode cX6_count 215 = .ok (.ireturn, 1) := by decide +kernel
theorem dX6_count_216 : decode cX6_count 216 = .ok (.bipush (-2), 2) := by decide +kernel
theorem dX6_count_218 : decode cX6_count 218 = .ok (.ireturn, 1) := by decide +kernel
set_option maxRecDepth 20000 in
theorem ggX6_stillIn_X5_copyFrom : GoodIn wsX6_stillIn wsX5_copyFrom := goodIn_r _ [9, 10, 11, 12, 13, 14, 15, 16, 17, 18, 19, 20, 51, 52, 53, 54, 55, 56, 57] (by decide +kernel) (by decide +kernel)
set_option maxRecDepth 20000 in
theorem gX6_stillIn_X5_copyFrom : GoodIn wsX6_stillIn (wsV RX6 156 RX5 yX5_copyFrom wsX5_copyFrom) := goodIn_app (goodIn_of _ (by decide +kernel)) ggX6_stillIn_X5_copyFrom
set_option maxRecDepth 20000 in
theorem ggX6_stillIn_X5_nanosecond : GoodIn wsX6_stillIn wsX5_nanosecond := goodIn_r _ [24, 10, 25, 26, 27, 8, 28, 11, 20, 13, 29, 30, 31, 32, 12, 19, 33, 34, 35, 36, 14, 51, 52, 53, 54, 55, 56, 57] (by decide +kernel) (by decide +kernel)
set_option maxRecDepth 20000 in
theorem gX6_stillIn_X5_nanosecond : GoodIn wsX6_stillIn (wsV RX6 160 RX5 yX5_nanosecond wsX5_nanosecond) := goodIn_app (goodIn_of _ (by decide +kernel)) ggX6_stillIn_X5_nanosecond
theorem dX6_stillIn_0 : decode cX6_stillIn 0 = .ok (.aload_n 0, 1) := by decide +kernel
theorem dX6_stillIn_1 : decode cX6_stillIn 1 = .ok (.getfield 34, 3) := by decide +kernel
theorem dX6_stillIn_4 : decode cX6_stillIn 4 = .ok (.aload_n 0, 1) := by decide +kernel
theorem dX6_stillIn_5 : decode cX6_stillIn 5 = .ok (.getfield 12, 3) := by decide +kernel
theorem dX6_stillIn_8 : decode cX6_stillIn 8 = .ok (.getfield 73, 3) := by decide +kernel
theorem dX6_stillIn_11 : decode cX6_stillIn 11 = .ok (.invokevirtual 156, 3) := by decide +kernel
theorem dX6_stillIn_14 : decode cX6_stillIn 14 = .ok (.iconst 0, 1) := by decide +kernel
theorem dX6_stillIn_15 : decode cX6_stillIn 15 = .ok (.istore_n 1, 1) := by decide +kernel
theorem dX6_stillIn_16 : decode cX6_stillIn 16 = .ok (.aload_n 0, 1) := by decide +kernel
theorem dX6_stillIn_17 : decode cX6_stillIn 17 = .ok (.getfield 34, 3) := by decide +kernel
theorem dX6_stillIn_20 : decode cX6_stillIn 20 = .ok (.getfield 122, 3) := by decide +kernel
theorem dX6_stillIn_23 : decode cX6_stillIn 23 = .ok (.ifCond .le 22, 3) := by decide +kernel
theorem dX6_stillIn_26 : decode cX6_stillIn 26 = .ok (.iload_n 1, 1) := by decide +kernel
theorem dX6_stillIn_27 : decode cX6_stillIn 27 = .ok (.bipush 100, 2) := by decide +kernel
theorem dX6_stillIn_29 : decode cX6_stillIn 29 = .ok (.if_icmp .gt 16, 3) := by decide +kernel
theorem dX6_stillIn_32 : decode cX6_stillIn 32 = .ok (.aload_n 0, 1) := by decide +kernel
theorem dX6_stillIn_33 : decode cX6_stillIn 33 = .ok (.getfield 34, 3) := by decide +kernel
theorem dX6_stillIn_36 : decode cX6_stillIn 36 = .ok (.invokevirtual 160, 3) := by decide +kernel
theorem dX6_stillIn_39 : decode cX6_stillIn 39 = .ok (.iinc 1 1, 3) := by decide +kernel
theorem dX6_stillIn_42 : decode cX6_stillIn 42 = .ok (.goto (-26), 3) := by decide +kernel
theorem dX6_stillIn_45 : decode cX6_stillIn 45 = .ok (.iload_n 1, 1) := by decide +kernel
theorem dX6_stillIn_46 : decode cX6_stillIn 46 = .ok (.ireturn, 1) := by decide +kernel
set_option maxRecDepth 20000 in
theorem ggX6_showsIn_X5_copyFrom : GoodIn wsX6_showsIn wsX5_copyFrom := goodIn_r _ [9, 10, 11, 12, 13, 14, 15, 16, 17, 18, 19, 20, 51, 52, 53, 54, 55, 56, 57] (by decide +kernel) (by decide +kernel)
set_option maxRecDepth 20000 in
theorem gX6_showsIn_X5_copyFrom : GoodIn wsX6_showsIn (wsV RX6 156 RX5 yX5_copyFrom wsX5_copyFrom) := goodIn_app (goodIn_of _ (by decide +kernel)) ggX6_showsIn_X5_copyFrom
set_option maxRecDepth 20000 in
theorem ggX6_showsIn_X5_nanosecond : GoodIn wsX6_showsIn wsX5_nanosecond := goodIn_r _ [24, 10, 25, 26, 27, 8, 28, 11, 20, 13, 29, 30, 31, 32, 12, 19, 33, 34, 35, 36, 14, 51, 52, 53, 54, 55, 56, 57] (by decide +kernel) (by decide +kernel)
set_option maxRecDepth 20000 in
theorem gX6_showsIn_X5_nanosecond : GoodIn wsX6_showsIn (wsV RX6 160 RX5 yX5_nanosecond wsX5_nanosecond) := goodIn_app (goodIn_of _ (by decide +kernel)) ggX6_showsIn_X5_nanosecond
theorem dX6_showsIn_0 : decode cX6_showsIn 0 = .ok (.iload_n 1, 1) := by decide +kernel
theorem dX6_showsIn_1 : decode cX6_showsIn 1 = .ok (.ifCond .lt 9, 3) := by decide +kernel
theorem dX6_showsIn_4 : decode cX6_showsIn 4 = .ok (.iload_n 1, 1) := by decide +kernel
theorem dX6_showsIn_5 : decode cX6_showsIn 5 = .ok (.bipush 99, 2) := by decide +kernel
theorem dX6_showsIn_7 : decode cX6_showsIn 7 = .ok (.if_icmp .le 6, 3) := by decide +kernel
theorem dX6_showsIn_10 : decode cX6_showsIn 10 = .ok (.bipush (-2), 2) := by decide +kernel
theorem dX6_showsIn_12 : decode cX6_showsIn 12 = .ok (.ireturn, 1) := by decide +kernel
theorem dX6_showsIn_13 : decode cX6_showsIn 13 = .ok (.aload_n 0, 1) := by decide +kernel
theorem dX6_showsIn_14 : decode cX6_showsIn 14 = .ok (.getfield 34, 3) := by decide +kernel
theorem dX6_showsIn_17 : decode cX6_showsIn 17 = .ok (.aload_n 0, 1) := by decide +kernel
theorem dX6_showsIn_18 : decode cX6_showsIn 18 = .ok (.getfield 12, 3) := by decide +kernel
theorem dX6_showsIn_21 : decode cX6_showsIn 21 = .ok (.getfield 73, 3) := by decide +kernel
theorem dX6_showsIn_24 : decode cX6_showsIn 24 = .ok (.invokevirtual 156, 3) := by decide +kernel
theorem dX6_showsIn_27 : decode cX6_showsIn 27 = .ok (.iconst 0, 1) := by decide +kernel
theorem dX6_showsIn_28 : decode cX6_showsIn 28 = .ok (.istore_n 2, 1) := by decide +kernel
theorem dX6_showsIn_29 : decode cX6_showsIn 29 = .ok (.iload_n 2, 1) := by decide +kernel
theorem dX6_showsIn_30 : decode cX6_showsIn 30 = .ok (.iload_n 1, 1) := by decide +kernel
theorem dX6_showsIn_31 : decode cX6_showsIn 31 = .ok (.if_icmp .ge 16, 3) := by decide +kernel
theorem dX6_showsIn_34 : decode cX6_showsIn 34 = .ok (.aload_n 0, 1) := by decide +kernel
theorem dX6_showsIn_35 : decode cX6_showsIn 35 = .ok (.getfield 34, 3) := by decide +kernel
theorem dX6_showsIn_38 : decode cX6_showsIn 38 = .ok (.invokevirtual 160, 3) := by decide +kernel
theorem dX6_showsIn_41 : decode cX6_showsIn 41 = .ok (.iinc 2 1, 3) := by decide +kernel
theorem dX6_showsIn_44 : decode cX6_showsIn 44 = .ok (.goto (-15), 3) := by decide +kernel
theorem dX6_showsIn_47 : decode cX6_showsIn 47 = .ok (.aload_n 0, 1) := by decide +kernel
theorem dX6_showsIn_48 : decode cX6_showsIn 48 = .ok (.getfield 34, 3) := by decide +kernel
theorem dX6_showsIn_51 : decode cX6_showsIn 51 = .ok (.getfield 116, 3) := by decide +kernel
theorem dX6_showsIn_54 : decode cX6_showsIn 54 = .ok (.ireturn, 1) := by decide +kernel
set_option maxRecDepth 20000 in
theorem ggX6_wrong_X5_wrongReadings : GoodIn wsX6_wrong wsX5_wrongReadings := goodIn_r _ [7, 8, 9, 10, 11, 6, 12, 13, 14, 15, 16, 17, 32, 33, 34, 35, 36, 37, 38] (by decide +kernel) (by decide +kernel)
set_option maxRecDepth 20000 in
theorem gX6_wrong_X5_wrongReadings : GoodIn wsX6_wrong (wsV RX6 163 RX5 yX5_wrongReadings wsX5_wrongReadings) := goodIn_app (goodIn_of _ (by decide +kernel)) ggX6_wrong_X5_wrongReadings
theorem dX6_wrong_0 : decode cX6_wrong 0 = .ok (.iload_n 1, 1) := by decide +kernel
theorem dX6_wrong_1 : decode cX6_wrong 1 = .ok (.iconst 1, 1) := by decide +kernel
theorem dX6_wrong_2 : decode cX6_wrong 2 = .ok (.if_icmp .lt 9, 3) := by decide +kernel
theorem dX6_wrong_5 : decode cX6_wrong 5 = .ok (.iload_n 1, 1) := by decide +kernel
theorem dX6_wrong_6 : decode cX6_wrong 6 = .ok (.bipush 50, 2) := by decide +kernel
theorem dX6_wrong_8 : decode cX6_wrong 8 = .ok (.if_icmp .le 6, 3) := by decide +kernel
theorem dX6_wrong_11 : decode cX6_wrong 11 = .ok (.bipush (-2), 2) := by decide +kernel
theorem dX6_wrong_13 : decode cX6_wrong 13 = .ok (.ireturn, 1) := by decide +kernel
theorem dX6_wrong_14 : decode cX6_wrong 14 = .ok (.aload_n 0, 1) := by decide +kernel
theorem dX6_wrong_15 : decode cX6_wrong 15 = .ok (.getfield 12, 3) := by decide +kernel
theorem dX6_wrong_18 : decode cX6_wrong 18 = .ok (.getfield 73, 3) := by decide +kernel
theorem dX6_wrong_21 : decode cX6_wrong 21 = .ok (.iload_n 1, 1) := by decide +kernel
theorem dX6_wrong_22 : decode cX6_wrong 22 = .ok (.invokevirtual 163, 3) := by decide +kernel
theorem dX6_wrong_25 : decode cX6_wrong 25 = .ok (.ireturn, 1) := by decide +kernel
set_option maxRecDepth 20000 in
theorem ggX6_safeGap_X5_throughAll : GoodIn wsX6_safeGap wsX5_throughAll := goodIn_r _ [7, 8, 9, 32, 33, 34, 35, 36, 37, 38] (by decide +kernel) (by decide +kernel)
set_option maxRecDepth 20000 in
theorem gX6_safeGap_X5_throughAll : GoodIn wsX6_safeGap (wsV RX6 166 RX5 yX5_throughAll wsX5_throughAll) := goodIn_app (goodIn_of _ (by decide +kernel)) ggX6_safeGap_X5_throughAll
set_option maxRecDepth 20000 in
theorem ggX6_safeGap_X6_gapAbove : GoodIn wsX6_safeGap wsX6_gapAbove := goodIn_r _ [13, 14, 15, 16, 17] (by decide +kernel) (by decide +kernel)
set_option maxRecDepth 20000 in
theorem gX6_safeGap_X6_gapAbove : GoodIn wsX6_safeGap (va_wsS RX6 169 yX6_gapAbove wsX6_gapAbove) := goodIn_app (goodIn_of _ (by decide +kernel)) ggX6_safeGap_X6_gapAbove
theorem dX6_safeGap_0 : decode cX6_safeGap 0 = .ok (.aload_n 0, 1) := by decide +kernel
theorem dX6_safeGap_1 : decode cX6_safeGap 1 = .ok (.getfield 12, 3) := by decide +kernel
theorem dX6_safeGap_4 : decode cX6_safeGap 4 = .ok (.getfield 73, 3) := by decide +kernel
theorem dX6_safeGap_7 : decode cX6_safeGap 7 = .ok (.invokevirtual 166, 3) := by decide +kernel
theorem dX6_safeGap_10 : decode cX6_safeGap 10 = .ok (.invokestatic 169, 3) := by decide +kernel
theorem dX6_safeGap_13 : decode cX6_safeGap 13 = .ok (.istore_n 1, 1) := by decide +kernel
theorem dX6_safeGap_14 : decode cX6_safeGap 14 = .ok (.iload_n 1, 1) := by decide +kernel
theorem dX6_safeGap_15 : decode cX6_safeGap 15 = .ok (.bipush 50, 2) := by decide +kernel
theorem dX6_safeGap_17 : decode cX6_safeGap 17 = .ok (.if_icmp .le 8, 3) := by decide +kernel
theorem dX6_safeGap_20 : decode cX6_safeGap 20 = .ok (.bipush (-6), 2) := by decide +kernel
theorem dX6_safeGap_22 : decode cX6_safeGap 22 = .ok (.goto 4, 3) := by decide +kernel
theorem dX6_safeGap_25 : decode cX6_safeGap 25 = .ok (.iload_n 1, 1) := by decide +kernel
theorem dX6_safeGap_26 : decode cX6_safeGap 26 = .ok (.ireturn, 1) := by decide +kernel
set_option maxRecDepth 20000 in
theorem ggX6_toBlame_X6_gapIfFast : GoodIn wsX6_toBlame wsX6_gapIfFast := goodIn_r _ [7, 8, 9, 10, 11, 12, 13, 14, 15, 16, 17, 6, 18, 19, 20, 21, 22, 37, 38, 39, 40, 41, 42, 43] (by decide +kernel) (by decide +kernel)
set_option maxRecDepth 20000 in
theorem gX6_toBlame_X6_gapIfFast : GoodIn wsX6_toBlame (va_wsS RX6 172 yX6_gapIfFast wsX6_gapIfFast) := goodIn_app (goodIn_of _ (by decide +kernel)) ggX6_toBlame_X6_gapIfFast
theorem dX6_toBlame_0 : decode cX6_toBlame 0 = .ok (.iload_n 1, 1) := by decide +kernel
theorem dX6_toBlame_1 : decode cX6_toBlame 1 = .ok (.ifCond .eq 11, 3) := by decide +kernel
theorem dX6_toBlame_4 : decode cX6_toBlame 4 = .ok (.iload_n 1, 1) := by decide +kernel
theorem dX6_toBlame_5 : decode cX6_toBlame 5 = .ok (.iconst 1, 1) := by decide +kernel
theorem dX6_toBlame_6 : decode cX6_toBlame 6 = .ok (.if_icmp .eq 6, 3) := by decide +kernel
theorem dX6_toBlame_9 : decode cX6_toBlame 9 = .ok (.bipush (-2), 2) := by decide +kernel
theorem dX6_toBlame_11 : decode cX6_toBlame 11 = .ok (.ireturn, 1) := by decide +kernel
theorem dX6_toBlame_12 : decode cX6_toBlame 12 = .ok (.aload_n 0, 1) := by decide +kernel
theorem dX6_toBlame_13 : decode cX6_toBlame 13 = .ok (.getfield 12, 3) := by decide +kernel
theorem dX6_toBlame_16 : decode cX6_toBlame 16 = .ok (.getfield 73, 3) := by decide +kernel
theorem dX6_toBlame_19 : decode cX6_toBlame 19 = .ok (.astore_n 2, 1) := by decide +kernel
theorem dX6_toBlame_20 : decode cX6_toBlame 20 = .ok (.iconst 0, 1) := by decide +kernel
theorem dX6_toBlame_21 : decode cX6_toBlame 21 = .ok (.istore_n 3, 1) := by decide +kernel
theorem dX6_toBlame_22 : decode cX6_toBlame 22 = .ok (.aload_n 2, 1) := by decide +kernel
theorem dX6_toBlame_23 : decode cX6_toBlame 23 = .ok (.iconst 0, 1) := by decide +kernel
theorem dX6_toBlame_24 : decode cX6_toBlame 24 = .ok (.invokestatic 172, 3) := by decide +kernel
theorem dX6_toBlame_27 : decode cX6_toBlame 27 = .ok (.istore 4, 2) := by decide +kernel
theorem dX6_toBlame_29 : decode cX6_toBlame 29 = .ok (.iconst 1, 1) := by decide +kernel
theorem dX6_toBlame_30 : decode cX6_toBlame 30 = .ok (.istore 5, 2) := by decide +kernel
theorem dX6_toBlame_32 : decode cX6_toBlame 32 = .ok (.iload 5, 2) := by decide +kernel
theorem dX6_toBlame_34 : decode cX6_toBlame 34 = .ok (.aload_n 2, 1) := by decide +kernel
theorem dX6_toBlame_35 : decode cX6_toBlame 35 = .ok (.getfield 144, 3) := by decide +kernel
theorem dX6_toBlame_38 : decode cX6_toBlame 38 = .ok (.if_icmp .ge 31, 3) := by decide +kernel
theorem dX6_toBlame_41 : decode cX6_toBlame 41 = .ok (.aload_n 2, 1) := by decide +kernel
theorem dX6_toBlame_42 : decode cX6_toBlame 42 = .ok (.iload 5, 2) := by decide +kernel
theorem dX6_toBlame_44 : decode cX6_toBlame 44 = .ok (.invokestatic 172, 3) := by decide +kernel
theorem dX6_toBlame_47 : decode cX6_toBlame 47 = .ok (.istore 6, 2) := by decide +kernel
theorem dX6_toBlame_49 : decode cX6_toBlame 49 = .ok (.iload 6, 2) := by decide +kernel
theorem dX6_toBlame_51 : decode cX6_toBlame 51 = .ok (.iload 4, 2) := by decide +kernel
theorem dX6_toBlame_53 : decode cX6_toBlame 53 = .ok (.if_icmp .ge 10, 3) := by decide +kernel
theorem dX6_toBlame_56 : decode cX6_toBlame 56 = .ok (.iload 5, 2) := by decide +kernel
theorem dX6_toBlame_58 : decode cX6_toBlame 58 = .ok (.istore_n 3, 1) := by decide +kernel
theorem dX6_toBlame_59 : decode cX6_toBlame 59 = .ok (.iload 6, 2) := by decide +kernel
theorem dX6_toBlame_61 : decode cX6_toBlame 61 = .ok (.istore 4, 2) := by decide +kernel
theorem dX6_toBlame_63 : decode cX6_toBlame 63 = .ok (.iinc 5 1, 3) := by decide +kernel
theorem dX6_toBlame_66 : decode cX6_toBlame 66 = .ok (.goto (-34), 3) := by decide +kernel
theorem dX6_toBlame_69 : decode cX6_toBlame 69 = .ok (.iload_n 1, 1) := by decide +kernel
theorem dX6_toBlame_70 : decode cX6_toBlame 70 = .ok (.ifCond .ne 7, 3) := by decide +kernel
theorem dX6_toBlame_73 : decode cX6_toBlame 73 = .ok (.iload_n 3, 1) := by decide +kernel
theorem dX6_toBlame_74 : decode cX6_toBlame 74 = .ok (.goto 5, 3) := by decide +kernel
theorem dX6_toBlame_77 : decode cX6_toBlame 77 = .ok (.iload 4, 2) := by decide +kernel
theorem dX6_toBlame_79 : decode cX6_toBlame 79 = .ok (.ireturn, 1) := by decide +kernel
set_option maxRecDepth 20000 in
theorem ggX6_put_X2_append : GoodIn wsX6_put wsX2_append := goodIn_r _ [6, 7, 8, 9, 10, 11, 5, 12, 19, 20] (by decide +kernel) (by decide +kernel)
set_option maxRecDepth 20000 in
theorem gX6_put_X2_append : GoodIn wsX6_put (wsV RX6 176 RX2 yX2_append wsX2_append) := goodIn_app (goodIn_of _ (by decide +kernel)) ggX6_put_X2_append
theorem dX6_put_0 : decode cX6_put 0 = .ok (.aload_n 0, 1) := by decide +kernel
theorem dX6_put_1 : decode cX6_put 1 = .ok (.getfield 41, 3) := by decide +kernel
theorem dX6_put_4 : decode cX6_put 4 = .ok (.lload_n 1, 1) := by decide +kernel
theorem dX6_put_5 : decode cX6_put 5 = .ok (.invokevirtual 176, 3) := by decide +kernel
theorem dX6_put_8 : decode cX6_put 8 = .ok (.ireturn, 1) := by decide +kernel
set_option maxRecDepth 20000 in
theorem ggX6_wipe_X2_clear : GoodIn wsX6_wipe wsX2_clear := goodIn_r _ [6, 7, 14, 15] (by decide +kernel) (by decide +kernel)
set_option maxRecDepth 20000 in
theorem gX6_wipe_X2_clear : GoodIn wsX6_wipe (wsV RX6 180 RX2 yX2_clear wsX2_clear) := goodIn_app (goodIn_of _ (by decide +kernel)) ggX6_wipe_X2_clear
theorem dX6_wipe_0 : decode cX6_wipe 0 = .ok (.aload_n 0, 1) := by decide +kernel
theorem dX6_wipe_1 : decode cX6_wipe 1 = .ok (.getfield 41, 3) := by decide +kernel
theorem dX6_wipe_4 : decode cX6_wipe 4 = .ok (.invokevirtual 180, 3) := by decide +kernel
theorem dX6_wipe_7 : decode cX6_wipe 7 = .ok (.ireturn, 1) := by decide +kernel
set_option maxRecDepth 20000 in
theorem ggX6_fault_X2_firstFault : GoodIn wsX6_fault wsX2_firstFault := goodIn_r _ [6, 7, 8, 9, 10, 5, 11, 12, 13, 14, 15, 16, 17, 18, 19, 20, 21, 22, 23, 30, 31] (by decide +kernel) (by decide +kernel)
set_option maxRecDepth 20000 in
theorem gX6_fault_X2_firstFault : GoodIn wsX6_fault (wsV RX6 183 RX2 yX2_firstFault wsX2_firstFault) := goodIn_app (goodIn_of _ (by decide +kernel)) ggX6_fault_X2_firstFault
theorem dX6_fault_0 : decode cX6_fault 0 = .ok (.aload_n 0, 1) := by decide +kernel
theorem dX6_fault_1 : decode cX6_fault 1 = .ok (.getfield 41, 3) := by decide +kernel
theorem dX6_fault_4 : decode cX6_fault 4 = .ok (.invokevirtual 183, 3) := by decide +kernel
theorem dX6_fault_7 : decode cX6_fault 7 = .ok (.ireturn, 1) := by decide +kernel
set_option maxRecDepth 20000 in
theorem ggX6_carryOut_X2_firstFault : GoodIn wsX6_carryOut wsX2_firstFault := goodIn_r _ [8, 9, 10, 11, 12, 7, 13, 14, 15, 16, 17, 18, 19, 20, 21, 22, 23, 24, 25, 201, 202] (by decide +kernel) (by decide +kernel)
set_option maxRecDepth 20000 in
theorem gX6_carryOut_X2_firstFault : GoodIn wsX6_carryOut (wsV RX6 183 RX2 yX2_firstFault wsX2_firstFault) := goodIn_app (goodIn_of _ (by decide +kernel)) ggX6_carryOut_X2_firstFault
set_option maxRecDepth 20000 in
theorem ggX6_carryOut_X1_prepare : GoodIn wsX6_carryOut wsX1_prepare := goodIn_r _ [30, 31, 32, 33, 34, 29, 35, 36, 37, 38, 39, 40, 41, 42, 43, 44, 45, 46, 47, 48, 49, 50, 51, 52, 53, 54, 55, 56, 57, 58, 59, 60, 61, 62, 63, 64, 65, 66, 67, 68, 69, 70, 71, 72, 73, 74, 75, 76, 77, 78, 79, 80, 81, 82, 83, 84, 85, 86, 87, 88, 203, 204, 205, 206, 207, 208, 209, 210, 211, 212, 213, 214, 215, 216, 217, 218, 219, 220, 221, 222, 223, 224, 225, 226, 227, 228, 229, 230] (by decide +kernel) (by decide +kernel)
set_option maxRecDepth 20000 in
theorem gX6_carryOut_X1_prepare : GoodIn wsX6_carryOut (wsV RX6 45 RX1 yX1_prepare wsX1_prepare) := goodIn_app (goodIn_of _ (by decide +kernel)) ggX6_carryOut_X1_prepare
set_option maxRecDepth 20000 in
theorem ggX6_carryOut_X6_carryAll : GoodIn wsX6_carryOut wsX6_carryAll := goodIn_r _ [93, 1, 94, 95, 96, 97, 7, 98, 99, 100, 101, 102, 9, 10, 103, 104, 105, 106, 17, 18, 19, 107, 108, 109, 110, 111, 112, 113, 114, 115, 116, 117, 92, 118, 3, 119, 120, 121, 122, 123, 41, 124, 43, 125, 126, 127, 128, 129, 48, 47, 130, 131, 132, 133, 54, 134, 66, 56, 60, 59, 135, 136, 137, 138, 49, 45, 139, 50, 44, 140, 141, 142, 143, 57, 144, 145, 146, 147, 58, 65, 148, 149, 150, 151, 81, 152, 86, 83, 84, 88, 87, 153, 154, 155, 156, 157, 46, 158, 159, 160, 70, 161, 72, 73, 75, 76, 77, 162, 163, 164, 165, 166, 167, 168, 169, 170, 171, 172, 173, 174, 175, 176, 177, 178, 179, 180, 181, 182, 183, 184, 185, 186, 195, 196, 197, 198, 199, 200, 201, 202, 206, 207, 208, 209, 210, 211, 212, 213, 214, 215, 216, 217, 218, 219, 220, 226, 227, 228, 229, 230, 221, 222, 223, 224, 225] (by decide +kernel) (by decide +kernel)
