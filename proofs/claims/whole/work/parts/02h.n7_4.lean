theorem dX7_orderEnd_105 : decode cX7_orderEnd 105 = .ok (.iconst 2, 1) := by decide +kernel
theorem dX7_orderEnd_106 : decode cX7_orderEnd 106 = .ok (.iadd, 1) := by decide +kernel
theorem dX7_orderEnd_107 : decode cX7_orderEnd 107 = .ok (.invokevirtual 123, 3) := by decide +kernel
theorem dX7_orderEnd_110 : decode cX7_orderEnd 110 = .ok (.bipush 61, 2) := by decide +kernel
theorem dX7_orderEnd_112 : decode cX7_orderEnd 112 = .ok (.if_icmp .ne 13, 3) := by decide +kernel
theorem dX7_orderEnd_115 : decode cX7_orderEnd 115 = .ok (.aload_n 0, 1) := by decide +kernel
theorem dX7_orderEnd_116 : decode cX7_orderEnd 116 = .ok (.iload_n 1, 1) := by decide +kernel
theorem dX7_orderEnd_117 : decode cX7_orderEnd 117 = .ok (.iconst 3, 1) := by decide +kernel
theorem dX7_orderEnd_118 : decode cX7_orderEnd 118 = .ok (.iadd, 1) := by decide +kernel
theorem dX7_orderEnd_119 : decode cX7_orderEnd 119 = .ok (.invokevirtual 129, 3) := by decide +kernel
theorem dX7_orderEnd_122 : decode cX7_orderEnd 122 = .ok (.goto 7, 3) := by decide +kernel
theorem dX7_orderEnd_125 : decode cX7_orderEnd 125 = .ok (.bipush (-3), 2) := by decide +kernel
theorem dX7_orderEnd_127 : decode cX7_orderEnd 127 = .ok (.iload_n 1, 1) := by decide +kernel
theorem dX7_orderEnd_128 : decode cX7_orderEnd 128 = .ok (.isub, 1) := by decide +kernel
theorem dX7_orderEnd_129 : decode cX7_orderEnd 129 = .ok (.ireturn, 1) := by decide +kernel
theorem dX7_orderEnd_130 : decode cX7_orderEnd 130 = .ok (.iload_n 1, 1) := by decide +kernel
theorem dX7_orderEnd_131 : decode cX7_orderEnd 131 = .ok (.iconst 1, 1) := by decide +kernel
theorem dX7_orderEnd_132 : decode cX7_orderEnd 132 = .ok (.iadd, 1) := by decide +kernel
theorem dX7_orderEnd_133 : decode cX7_orderEnd 133 = .ok (.ireturn, 1) := by decide +kernel
theorem dX7_orderEnd_134 : decode cX7_orderEnd 134 = .ok (.iconst (-1), 1) := by decide +kernel
theorem dX7_orderEnd_135 : decode cX7_orderEnd 135 = .ok (.iload_n 1, 1) := by decide +kernel
theorem dX7_orderEnd_136 : decode cX7_orderEnd 136 = .ok (.isub, 1) := by decide +kernel
theorem dX7_orderEnd_137 : decode cX7_orderEnd 137 = .ok (.ireturn, 1) := by decide +kernel
set_option maxRecDepth 20000 in
theorem ggX7_fault_X7_orderEnd : GoodIn wsX7_fault wsX7_orderEnd := goodIn_r _ [6, 7, 8, 9, 5, 10, 1, 11, 12, 13, 14, 15, 16, 17, 18, 19, 20, 21, 22, 23, 24, 25, 26, 27, 28, 29] (by decide +kernel) (by decide +kernel)
set_option maxRecDepth 20000 in
theorem gX7_fault_X7_orderEnd : GoodIn wsX7_fault (wsV RX7 132 RX7 yX7_orderEnd wsX7_orderEnd) := goodIn_app (goodIn_of _ (by decide +kernel)) ggX7_fault_X7_orderEnd
set_option maxRecDepth 20000 in
theorem ggX7_fault_X7_sign : GoodIn wsX7_fault wsX7_sign := goodIn_r _ [10, 1, 11, 23, 24, 25, 26, 27, 28, 29] (by decide +kernel) (by decide +kernel)
set_option maxRecDepth 20000 in
theorem gX7_fault_X7_sign : GoodIn wsX7_fault (wsV RX7 123 RX7 yX7_sign wsX7_sign) := goodIn_app (goodIn_of _ (by decide +kernel)) ggX7_fault_X7_sign
theorem dX7_fault_0 : decode cX7_fault 0 = .ok (.iconst 0, 1) := by decide +kernel
theorem dX7_fault_1 : decode cX7_fault 1 = .ok (.istore_n 1, 1) := by decide +kernel
theorem dX7_fault_2 : decode cX7_fault 2 = .ok (.iconst 0, 1) := by decide +kernel
theorem dX7_fault_3 : decode cX7_fault 3 = .ok (.istore_n 2, 1) := by decide +kernel
theorem dX7_fault_4 : decode cX7_fault 4 = .ok (.iload_n 2, 1) := by decide +kernel
theorem dX7_fault_5 : decode cX7_fault 5 = .ok (.bipush 80, 2) := by decide +kernel
theorem dX7_fault_7 : decode cX7_fault 7 = .ok (.if_icmp .ge 50, 3) := by decide +kernel
theorem dX7_fault_10 : decode cX7_fault 10 = .ok (.aload_n 0, 1) := by decide +kernel
theorem dX7_fault_11 : decode cX7_fault 11 = .ok (.iload_n 1, 1) := by decide +kernel
theorem dX7_fault_12 : decode cX7_fault 12 = .ok (.invokevirtual 132, 3) := by decide +kernel
theorem dX7_fault_15 : decode cX7_fault 15 = .ok (.istore_n 3, 1) := by decide +kernel
theorem dX7_fault_16 : decode cX7_fault 16 = .ok (.iload_n 3, 1) := by decide +kernel
theorem dX7_fault_17 : decode cX7_fault 17 = .ok (.ifCond .ge 7, 3) := by decide +kernel
theorem dX7_fault_20 : decode cX7_fault 20 = .ok (.iconst (-1), 1) := by decide +kernel
theorem dX7_fault_21 : decode cX7_fault 21 = .ok (.iload_n 3, 1) := by decide +kernel
theorem dX7_fault_22 : decode cX7_fault 22 = .ok (.isub, 1) := by decide +kernel
theorem dX7_fault_23 : decode cX7_fault 23 = .ok (.ireturn, 1) := by decide +kernel
theorem dX7_fault_24 : decode cX7_fault 24 = .ok (.iload_n 3, 1) := by decide +kernel
theorem dX7_fault_25 : decode cX7_fault 25 = .ok (.aload_n 0, 1) := by decide +kernel
theorem dX7_fault_26 : decode cX7_fault 26 = .ok (.getfield 109, 3) := by decide +kernel
theorem dX7_fault_29 : decode cX7_fault 29 = .ok (.if_icmp .ne 6, 3) := by decide +kernel
theorem dX7_fault_32 : decode cX7_fault 32 = .ok (.bipush (-6), 2) := by decide +kernel
theorem dX7_fault_34 : decode cX7_fault 34 = .ok (.ireturn, 1) := by decide +kernel
theorem dX7_fault_35 : decode cX7_fault 35 = .ok (.aload_n 0, 1) := by decide +kernel
theorem dX7_fault_36 : decode cX7_fault 36 = .ok (.iload_n 3, 1) := by decide +kernel
theorem dX7_fault_37 : decode cX7_fault 37 = .ok (.invokevirtual 123, 3) := by decide +kernel
theorem dX7_fault_40 : decode cX7_fault 40 = .ok (.bipush 59, 2) := by decide +kernel
theorem dX7_fault_42 : decode cX7_fault 42 = .ok (.if_icmp .eq 5, 3) := by decide +kernel
theorem dX7_fault_45 : decode cX7_fault 45 = .ok (.iload_n 3, 1) := by decide +kernel
theorem dX7_fault_46 : decode cX7_fault 46 = .ok (.ireturn, 1) := by decide +kernel
theorem dX7_fault_47 : decode cX7_fault 47 = .ok (.iload_n 3, 1) := by decide +kernel
theorem dX7_fault_48 : decode cX7_fault 48 = .ok (.iconst 1, 1) := by decide +kernel
theorem dX7_fault_49 : decode cX7_fault 49 = .ok (.iadd, 1) := by decide +kernel
theorem dX7_fault_50 : decode cX7_fault 50 = .ok (.istore_n 1, 1) := by decide +kernel
theorem dX7_fault_51 : decode cX7_fault 51 = .ok (.iinc 2 1, 3) := by decide +kernel
theorem dX7_fault_54 : decode cX7_fault 54 = .ok (.goto (-50), 3) := by decide +kernel
theorem dX7_fault_57 : decode cX7_fault 57 = .ok (.bipush (-6), 2) := by decide +kernel
theorem dX7_fault_59 : decode cX7_fault 59 = .ok (.ireturn, 1) := by decide +kernel
set_option maxRecDepth 20000 in
theorem ggX7_carries_X7_sign : GoodIn wsX7_carries wsX7_sign := goodIn_r _ [6, 7, 8, 91, 92, 93, 94, 95, 96, 97] (by decide +kernel) (by decide +kernel)
set_option maxRecDepth 20000 in
theorem gX7_carries_X7_sign : GoodIn wsX7_carries (wsV RX7 123 RX7 yX7_sign wsX7_sign) := goodIn_app (goodIn_of _ (by decide +kernel)) ggX7_carries_X7_sign
set_option maxRecDepth 20000 in
theorem ggX7_carries_X7_clockNow : GoodIn wsX7_carries wsX7_clockNow := goodIn_r _ [12, 1, 13, 14, 15, 5, 16, 17, 18, 19, 20, 21, 22, 23, 24, 25, 26, 27, 91, 92, 93, 94, 95, 96, 97] (by decide +kernel) (by decide +kernel)
set_option maxRecDepth 20000 in
theorem gX7_carries_X7_clockNow : GoodIn wsX7_carries (wsV RX7 85 RX7 yX7_clockNow wsX7_clockNow) := goodIn_app (goodIn_of _ (by decide +kernel)) ggX7_carries_X7_clockNow
set_option maxRecDepth 20000 in
theorem ggX7_carries_X7_numberAt : GoodIn wsX7_carries wsX7_numberAt := goodIn_r _ [31, 32, 33, 34, 5, 35, 36, 37, 38, 39, 2, 3, 4, 6, 7, 8, 40, 41, 42, 91, 92, 93, 94, 95, 96, 97] (by decide +kernel) (by decide +kernel)
set_option maxRecDepth 20000 in
theorem gX7_carries_X7_numberAt : GoodIn wsX7_carries (wsV RX7 135 RX7 yX7_numberAt wsX7_numberAt) := goodIn_app (goodIn_of _ (by decide +kernel)) ggX7_carries_X7_numberAt
set_option maxRecDepth 20000 in
theorem ggX7_carries_X7_whyNotPass : GoodIn wsX7_carries wsX7_whyNotPass := goodIn_r _ [46, 1, 40, 41, 5, 42, 91, 92, 93, 94, 95, 96, 97] (by decide +kernel) (by decide +kernel)
set_option maxRecDepth 20000 in
theorem gX7_carries_X7_whyNotPass : GoodIn wsX7_carries (wsV RX7 88 RX7 yX7_whyNotPass wsX7_whyNotPass) := goodIn_app (goodIn_of _ (by decide +kernel)) ggX7_carries_X7_whyNotPass
set_option maxRecDepth 20000 in
theorem ggX7_carries_X7_passes : GoodIn wsX7_carries wsX7_passes := goodIn_r _ [50, 51, 52, 53, 5, 54, 1, 17, 18, 19, 20, 25, 26, 27, 55, 56, 57, 58, 21, 22, 23, 24, 59, 60, 61, 62, 63, 64, 65, 66, 67, 68, 69, 70, 71, 72, 73, 74, 75, 76, 77, 78, 91, 92, 93, 94, 95, 96, 97] (by decide +kernel) (by decide +kernel)
set_option maxRecDepth 20000 in
theorem gX7_carries_X7_passes : GoodIn wsX7_carries (wsV RX7 91 RX7 yX7_passes wsX7_passes) := goodIn_app (goodIn_of _ (by decide +kernel)) ggX7_carries_X7_passes
set_option maxRecDepth 20000 in
theorem ggX7_carries_X7_digit : GoodIn wsX7_carries wsX7_digit := goodIn_r _ [39, 2, 3, 4, 5, 6, 7, 8, 40, 41, 42, 91, 92, 93, 94, 95, 96, 97] (by decide +kernel) (by decide +kernel)
set_option maxRecDepth 20000 in
theorem gX7_carries_X7_digit : GoodIn wsX7_carries (wsV RX7 126 RX7 yX7_digit wsX7_digit) := goodIn_app (goodIn_of _ (by decide +kernel)) ggX7_carries_X7_digit
set_option maxRecDepth 20000 in
theorem ggX7_carries_X7_whyNotDelay : GoodIn wsX7_carries wsX7_whyNotDelay := goodIn_r _ [82, 17, 18, 19, 5, 20, 1, 40, 41, 42, 91, 92, 93, 94, 95, 96, 97] (by decide +kernel) (by decide +kernel)
set_option maxRecDepth 20000 in
theorem gX7_carries_X7_whyNotDelay : GoodIn wsX7_carries (wsV RX7 82 RX7 yX7_whyNotDelay wsX7_whyNotDelay) := goodIn_app (goodIn_of _ (by decide +kernel)) ggX7_carries_X7_whyNotDelay
set_option maxRecDepth 20000 in
theorem ggX7_carries_X7_whyNotRead : GoodIn wsX7_carries wsX7_whyNotRead := goodIn_r _ [86, 1, 91, 92, 93, 94, 95, 96, 97] (by decide +kernel) (by decide +kernel)
set_option maxRecDepth 20000 in
theorem gX7_carries_X7_whyNotRead : GoodIn wsX7_carries (wsV RX7 75 RX7 yX7_whyNotRead wsX7_whyNotRead) := goodIn_app (goodIn_of _ (by decide +kernel)) ggX7_carries_X7_whyNotRead
set_option maxRecDepth 20000 in
theorem ggX7_carries_X7_reads : GoodIn wsX7_carries wsX7_reads := goodIn_r _ [78, 1, 63, 64, 65, 5, 66, 17, 18, 19, 20, 91, 92, 93, 94, 95, 96, 97] (by decide +kernel) (by decide +kernel)
set_option maxRecDepth 20000 in
theorem gX7_carries_X7_reads : GoodIn wsX7_carries (wsV RX7 62 RX7 yX7_reads wsX7_reads) := goodIn_app (goodIn_of _ (by decide +kernel)) ggX7_carries_X7_reads
set_option maxRecDepth 20000 in
theorem ggX7_carries_X7_whyNotLatch : GoodIn wsX7_carries wsX7_whyNotLatch := goodIn_r _ [90, 1, 83, 84, 85, 5, 86, 91, 92, 93, 94, 95, 96, 97] (by decide +kernel) (by decide +kernel)
set_option maxRecDepth 20000 in
theorem gX7_carries_X7_whyNotLatch : GoodIn wsX7_carries (wsV RX7 94 RX7 yX7_whyNotLatch wsX7_whyNotLatch) := goodIn_app (goodIn_of _ (by decide +kernel)) ggX7_carries_X7_whyNotLatch
theorem dX7_carries_0 : decode cX7_carries 0 = .ok (.iconst 0, 1) := by decide +kernel
theorem dX7_carries_1 : decode cX7_carries 1 = .ok (.istore_n 2, 1) := by decide +kernel
theorem dX7_carries_2 : decode cX7_carries 2 = .ok (.iconst 0, 1) := by decide +kernel
theorem dX7_carries_3 : decode cX7_carries 3 = .ok (.istore_n 3, 1) := by decide +kernel
theorem dX7_carries_4 : decode cX7_carries 4 = .ok (.aload_n 0, 1) := by decide +kernel
theorem dX7_carries_5 : decode cX7_carries 5 = .ok (.iload_n 1, 1) := by decide +kernel
theorem dX7_carries_6 : decode cX7_carries 6 = .ok (.invokevirtual 123, 3) := by decide +kernel
theorem dX7_carries_9 : decode cX7_carries 9 = .ok (.lookupswitch 157 #[(99, 43), (100, 93), (114, 140), (116, 58)], 43) := by decide +kernel
theorem dX7_carries_52 : decode cX7_carries 52 = .ok (.aload_n 0, 1) := by decide +kernel
theorem dX7_carries_53 : decode cX7_carries 53 = .ok (.invokevirtual 85, 3) := by decide +kernel
theorem dX7_carries_56 : decode cX7_carries 56 = .ok (.istore_n 3, 1) := by decide +kernel
theorem dX7_carries_57 : decode cX7_carries 57 = .ok (.iload_n 3, 1) := by decide +kernel
theorem dX7_carries_58 : decode cX7_carries 58 = .ok (.ifCond .ge 7, 3) := by decide +kernel
theorem dX7_carries_61 : decode cX7_carries 61 = .ok (.iload_n 3, 1) := by decide +kernel
theorem dX7_carries_62 : decode cX7_carries 62 = .ok (.goto 4, 3) := by decide +kernel
theorem dX7_carries_65 : decode cX7_carries 65 = .ok (.iconst 0, 1) := by decide +kernel
theorem dX7_carries_66 : decode cX7_carries 66 = .ok (.ireturn, 1) := by decide +kernel
theorem dX7_carries_67 : decode cX7_carries 67 = .ok (.aload_n 0, 1) := by decide +kernel
theorem dX7_carries_68 : decode cX7_carries 68 = .ok (.aload_n 0, 1) := by decide +kernel
theorem dX7_carries_69 : decode cX7_carries 69 = .ok (.iload_n 1, 1) := by decide +kernel
theorem dX7_carries_70 : decode cX7_carries 70 = .ok (.iconst 1, 1) := by decide +kernel
theorem dX7_carries_71 : decode cX7_carries 71 = .ok (.iadd, 1) := by decide +kernel
theorem dX7_carries_72 : decode cX7_carries 72 = .ok (.invokevirtual 135, 3) := by decide +kernel
theorem dX7_carries_75 : decode cX7_carries 75 = .ok (.invokevirtual 88, 3) := by decide +kernel
theorem dX7_carries_78 : decode cX7_carries 78 = .ok (.istore_n 2, 1) := by decide +kernel
theorem dX7_carries_79 : decode cX7_carries 79 = .ok (.iload_n 2, 1) := by decide +kernel
theorem dX7_carries_80 : decode cX7_carries 80 = .ok (.ifCond .ge 7, 3) := by decide +kernel
theorem dX7_carries_83 : decode cX7_carries 83 = .ok (.iconst 0, 1) := by decide +kernel
theorem dX7_carries_84 : decode cX7_carries 84 = .ok (.goto 15, 3) := by decide +kernel
theorem dX7_carries_87 : decode cX7_carries 87 = .ok (.aload_n 0, 1) := by decide +kernel
theorem dX7_carries_88 : decode cX7_carries 88 = .ok (.iconst 0, 1) := by decide +kernel
theorem dX7_carries_89 : decode cX7_carries 89 = .ok (.aload_n 0, 1) := by decide +kernel
theorem dX7_carries_90 : decode cX7_carries 90 = .ok (.iload_n 1, 1) := by decide +kernel
theorem dX7_carries_91 : decode cX7_carries 91 = .ok (.iconst 1, 1) := by decide +kernel
theorem dX7_carries_92 : decode cX7_carries 92 = .ok (.iadd, 1) := by decide +kernel
theorem dX7_carries_93 : decode cX7_carries 93 = .ok (.invokevirtual 135, 3) := by decide +kernel
theorem dX7_carries_96 : decode cX7_carries 96 = .ok (.invokevirtual 91, 3) := by decide +kernel
theorem dX7_carries_99 : decode cX7_carries 99 = .ok (.istore_n 3, 1) := by decide +kernel
theorem dX7_carries_100 : decode cX7_carries 100 = .ok (.iload_n 2, 1) := by decide +kernel
theorem dX7_carries_101 : decode cX7_carries 101 = .ok (.ireturn, 1) := by decide +kernel
theorem dX7_carries_102 : decode cX7_carries 102 = .ok (.aload_n 0, 1) := by decide +kernel
theorem dX7_carries_103 : decode cX7_carries 103 = .ok (.aload_n 0, 1) := by decide +kernel
theorem dX7_carries_104 : decode cX7_carries 104 = .ok (.iload_n 1, 1) := by decide +kernel
theorem dX7_carries_105 : decode cX7_carries 105 = .ok (.iconst 1, 1) := by decide +kernel
theorem dX7_carries_106 : decode cX7_carries 106 = .ok (.iadd, 1) := by decide +kernel
theorem dX7_carries_107 : decode cX7_carries 107 = .ok (.invokevirtual 126, 3) := by decide +kernel
theorem dX7_carries_110 : decode cX7_carries 110 = .ok (.aload_n 0, 1) := by decide +kernel
theorem dX7_carries_111 : decode cX7_carries 111 = .ok (.iload_n 1, 1) := by decide +kernel
theorem dX7_carries_112 : decode cX7_carries 112 = .ok (.iconst 3, 1) := by decide +kernel
theorem dX7_carries_113 : decode cX7_carries 113 = .ok (.iadd, 1) := by decide +kernel
theorem dX7_carries_114 : decode cX7_carries 114 = .ok (.invokevirtual 135, 3) := by decide +kernel
theorem dX7_carries_117 : decode cX7_carries 117 = .ok (.invokevirtual 82, 3) := by decide +kernel
theorem dX7_carries_120 : decode cX7_carries 120 = .ok (.istore_n 2, 1) := by decide +kernel
theorem dX7_carries_121 : decode cX7_carries 121 = .ok (.iload_n 2, 1) := by decide +kernel
theorem dX7_carries_122 : decode cX7_carries 122 = .ok (.ifCond .ne 25, 3) := by decide +kernel
theorem dX7_carries_125 : decode cX7_carries 125 = .ok (.aload_n 0, 1) := by decide +kernel
theorem dX7_carries_126 : decode cX7_carries 126 = .ok (.getfield 7, 3) := by decide +kernel
theorem dX7_carries_129 : decode cX7_carries 129 = .ok (.bipush 9, 2) := by decide +kernel
theorem dX7_carries_131 : decode cX7_carries 131 = .ok (.aload_n 0, 1) := by decide +kernel
theorem dX7_carries_132 : decode cX7_carries 132 = .ok (.iload_n 1, 1) := by decide +kernel
theorem dX7_carries_133 : decode cX7_carries 133 = .ok (.iconst 1, 1) := by decide +kernel
theorem dX7_carries_134 : decode cX7_carries 134 = .ok (.iadd, 1) := by decide +kernel
theorem dX7_carries_135 : decode cX7_carries 135 = .ok (.invokevirtual 126, 3) := by decide +kernel
theorem dX7_carries_138 : decode cX7_carries 138 = .ok (.iadd, 1) := by decide +kernel
theorem dX7_carries_139 : decode cX7_carries 139 = .ok (.aload_n 0, 1) := by decide +kernel
theorem dX7_carries_140 : decode cX7_carries 140 = .ok (.iload_n 1, 1) := by decide +kernel
theorem dX7_carries_141 : decode cX7_carries 141 = .ok (.iconst 3, 1) := by decide +kernel
theorem dX7_carries_142 : decode cX7_carries 142 = .ok (.iadd, 1) := by decide +kernel
theorem dX7_carries_143 : decode cX7_carries 143 = .ok (.invokevirtual 135, 3) := by decide +kernel
theorem dX7_carries_146 : decode cX7_carries 146 = .ok (.iastore, 1) := by decide +kernel
theorem dX7_carries_147 : decode cX7_carries 147 = .ok (.iload_n 2, 1) := by decide +kernel
theorem dX7_carries_148 : decode cX7_carries 148 = .ok (.ireturn, 1) := by decide +kernel
theorem dX7_carries_149 : decode cX7_carries 149 = .ok (.aload_n 0, 1) := by decide +kernel
theorem dX7_carries_150 : decode cX7_carries 150 = .ok (.invokevirtual 75, 3) := by decide +kernel
theorem dX7_carries_153 : decode cX7_carries 153 = .ok (.istore_n 2, 1) := by decide +kernel
theorem dX7_carries_154 : decode cX7_carries 154 = .ok (.iload_n 2, 1) := by decide +kernel
theorem dX7_carries_155 : decode cX7_carries 155 = .ok (.ifCond .ne 9, 3) := by decide +kernel
theorem dX7_carries_158 : decode cX7_carries 158 = .ok (.aload_n 0, 1) := by decide +kernel
theorem dX7_carries_159 : decode cX7_carries 159 = .ok (.iconst 0, 1) := by decide +kernel
theorem dX7_carries_160 : decode cX7_carries 160 = .ok (.iconst 0, 1) := by decide +kernel
theorem dX7_carries_161 : decode cX7_carries 161 = .ok (.invokevirtual 62, 3) := by decide +kernel
theorem dX7_carries_164 : decode cX7_carries 164 = .ok (.iload_n 2, 1) := by decide +kernel
theorem dX7_carries_165 : decode cX7_carries 165 = .ok (.ireturn, 1) := by decide +kernel
theorem dX7_carries_166 : decode cX7_carries 166 = .ok (.aload_n 0, 1) := by decide +kernel
theorem dX7_carries_167 : decode cX7_carries 167 = .ok (.invokevirtual 94, 3) := by decide +kernel
theorem dX7_carries_170 : decode cX7_carries 170 = .ok (.istore_n 2, 1) := by decide +kernel
theorem dX7_carries_171 : decode cX7_carries 171 = .ok (.aload_n 0, 1) := by decide +kernel
theorem dX7_carries_172 : decode cX7_carries 172 = .ok (.getfield 7, 3) := by decide +kernel
theorem dX7_carries_175 : decode cX7_carries 175 = .ok (.bipush 6, 2) := by decide +kernel
theorem dX7_carries_177 : decode cX7_carries 177 = .ok (.iload_n 2, 1) := by decide +kernel
theorem dX7_carries_178 : decode cX7_carries 178 = .ok (.ifCond .ne 7, 3) := by decide +kernel
theorem dX7_carries_181 : decode cX7_carries 181 = .ok (.iconst 1, 1) := by decide +kernel
theorem dX7_carries_182 : decode cX7_carries 182 = .ok (.goto 10, 3) := by decide +kernel
theorem dX7_carries_185 : decode cX7_carries 185 = .ok (.aload_n 0, 1) := by decide +kernel
theorem dX7_carries_186 : decode cX7_carries 186 = .ok (.getfield 7, 3) := by decide +kernel
theorem dX7_carries_189 : decode cX7_carries 189 = .ok (.bipush 6, 2) := by decide +kernel
theorem dX7_carries_191 : decode cX7_carries 191 = .ok (.iaload, 1) := by decide +kernel
theorem dX7_carries_192 : decode cX7_carries 192 = .ok (.iastore, 1) := by decide +kernel
theorem dX7_carries_193 : decode cX7_carries 193 = .ok (.iload_n 2, 1) := by decide +kernel
theorem dX7_carries_194 : decode cX7_carries 194 = .ok (.ireturn, 1) := by decide +kernel
set_option maxRecDepth 20000 in
theorem ggX7_ticks_X7_whyNotPass : GoodIn wsX7_ticks wsX7_whyNotPass := goodIn_r _ [6, 1, 7, 8, 5, 9, 53, 54, 55, 56, 57, 58, 59] (by decide +kernel) (by decide +kernel)
set_option maxRecDepth 20000 in
theorem gX7_ticks_X7_whyNotPass : GoodIn wsX7_ticks (wsV RX7 88 RX7 yX7_whyNotPass wsX7_whyNotPass) := goodIn_app (goodIn_of _ (by decide +kernel)) ggX7_ticks_X7_whyNotPass
set_option maxRecDepth 20000 in
theorem ggX7_ticks_X7_clocks : GoodIn wsX7_ticks wsX7_clocks := goodIn_r _ [13, 1, 14, 15, 16, 5, 17, 18, 19, 20, 21, 22, 23, 24, 53, 54, 55, 56, 57, 58, 59] (by decide +kernel) (by decide +kernel)
set_option maxRecDepth 20000 in
theorem gX7_ticks_X7_clocks : GoodIn wsX7_ticks (wsV RX7 68 RX7 yX7_clocks wsX7_clocks) := goodIn_app (goodIn_of _ (by decide +kernel)) ggX7_ticks_X7_clocks
set_option maxRecDepth 20000 in
theorem ggX7_ticks_X7_passesOne : GoodIn wsX7_ticks wsX7_passesOne := goodIn_r _ [28, 1, 14, 15, 16, 5, 17, 22, 23, 24, 29, 30, 31, 32, 18, 19, 20, 21, 33, 34, 35, 36, 37, 38, 39, 40, 41, 42, 43, 44, 45, 46, 47, 48, 49, 50, 51, 52, 53, 54, 55, 56, 57, 58, 59] (by decide +kernel) (by decide +kernel)
set_option maxRecDepth 20000 in
theorem gX7_ticks_X7_passesOne : GoodIn wsX7_ticks (wsV RX7 65 RX7 yX7_passesOne wsX7_passesOne) := goodIn_app (goodIn_of _ (by decide +kernel)) ggX7_ticks_X7_passesOne
theorem dX7_ticks_0 : decode cX7_ticks 0 = .ok (.aload_n 0, 1) := by decide +kernel
theorem dX7_ticks_1 : decode cX7_ticks 1 = .ok (.getfield 7, 3) := by decide +kernel
theorem dX7_ticks_4 : decode cX7_ticks 4 = .ok (.iconst 4, 1) := by decide +kernel
theorem dX7_ticks_5 : decode cX7_ticks 5 = .ok (.iaload, 1) := by decide +kernel
theorem dX7_ticks_6 : decode cX7_ticks 6 = .ok (.aload_n 0, 1) := by decide +kernel
theorem dX7_ticks_7 : decode cX7_ticks 7 = .ok (.getfield 7, 3) := by decide +kernel
theorem dX7_ticks_10 : decode cX7_ticks 10 = .ok (.iconst 2, 1) := by decide +kernel
theorem dX7_ticks_11 : decode cX7_ticks 11 = .ok (.iaload, 1) := by decide +kernel
theorem dX7_ticks_12 : decode cX7_ticks 12 = .ok (.if_icmp .eq 11, 3) := by decide +kernel
theorem dX7_ticks_15 : decode cX7_ticks 15 = .ok (.aload_n 0, 1) := by decide +kernel
theorem dX7_ticks_16 : decode cX7_ticks 16 = .ok (.iconst 1, 1) := by decide +kernel
theorem dX7_ticks_17 : decode cX7_ticks 17 = .ok (.invokevirtual 88, 3) := by decide +kernel
theorem dX7_ticks_20 : decode cX7_ticks 20 = .ok (.ifCond .ge 6, 3) := by decide +kernel
theorem dX7_ticks_23 : decode cX7_ticks 23 = .ok (.bipush (-5), 2) := by decide +kernel
theorem dX7_ticks_25 : decode cX7_ticks 25 = .ok (.ireturn, 1) := by decide +kernel
theorem dX7_ticks_26 : decode cX7_ticks 26 = .ok (.aload_n 0, 1) := by decide +kernel
theorem dX7_ticks_27 : decode cX7_ticks 27 = .ok (.iconst 0, 1) := by decide +kernel
theorem dX7_ticks_28 : decode cX7_ticks 28 = .ok (.invokevirtual 68, 3) := by decide +kernel
theorem dX7_ticks_31 : decode cX7_ticks 31 = .ok (.aload_n 0, 1) := by decide +kernel
theorem dX7_ticks_32 : decode cX7_ticks 32 = .ok (.iconst 0, 1) := by decide +kernel
theorem dX7_ticks_33 : decode cX7_ticks 33 = .ok (.invokevirtual 65, 3) := by decide +kernel
theorem dX7_ticks_36 : decode cX7_ticks 36 = .ok (.istore_n 1, 1) := by decide +kernel
theorem dX7_ticks_37 : decode cX7_ticks 37 = .ok (.iconst 0, 1) := by decide +kernel
theorem dX7_ticks_38 : decode cX7_ticks 38 = .ok (.ireturn, 1) := by decide +kernel
set_option maxRecDepth 20000 in
theorem ggX7_carryOut_X7_fault : GoodIn wsX7_carryOut wsX7_fault := goodIn_r _ [6, 1, 7, 8, 9, 5, 10, 11, 12, 13, 14, 15, 16, 17, 18, 19, 20, 21, 22, 23, 24, 25, 26, 113, 114, 115, 116, 117, 118, 119] (by decide +kernel) (by decide +kernel)
set_option maxRecDepth 20000 in
theorem gX7_carryOut_X7_fault : GoodIn wsX7_carryOut (wsV RX7 138 RX7 yX7_fault wsX7_fault) := goodIn_app (goodIn_of _ (by decide +kernel)) ggX7_carryOut_X7_fault
set_option maxRecDepth 20000 in
theorem ggX7_carryOut_X7_remembers : GoodIn wsX7_carryOut wsX7_remembers := goodIn_r _ [30, 31, 32, 33, 113, 114, 115, 116, 117, 118, 119] (by decide +kernel) (by decide +kernel)
set_option maxRecDepth 20000 in
theorem gX7_carryOut_X7_remembers : GoodIn wsX7_carryOut (wsV RX7 79 RX7 yX7_remembers wsX7_remembers) := goodIn_app (goodIn_of _ (by decide +kernel)) ggX7_carryOut_X7_remembers
set_option maxRecDepth 20000 in
theorem ggX7_carryOut_X7_sign : GoodIn wsX7_carryOut wsX7_sign := goodIn_r _ [14, 1, 15, 113, 114, 115, 116, 117, 118, 119] (by decide +kernel) (by decide +kernel)
set_option maxRecDepth 20000 in
theorem gX7_carryOut_X7_sign : GoodIn wsX7_carryOut (wsV RX7 123 RX7 yX7_sign wsX7_sign) := goodIn_app (goodIn_of _ (by decide +kernel)) ggX7_carryOut_X7_sign
set_option maxRecDepth 20000 in
theorem ggX7_carryOut_X7_digit : GoodIn wsX7_carryOut wsX7_digit := goodIn_r _ [19, 11, 12, 13, 5, 14, 1, 15, 20, 21, 22, 113, 114, 115, 116, 117, 118, 119] (by decide +kernel) (by decide +kernel)
set_option maxRecDepth 20000 in
theorem gX7_carryOut_X7_digit : GoodIn wsX7_carryOut (wsV RX7 126 RX7 yX7_digit wsX7_digit) := goodIn_app (goodIn_of _ (by decide +kernel)) ggX7_carryOut_X7_digit
set_option maxRecDepth 20000 in
theorem ggX7_carryOut_X7_numberAt : GoodIn wsX7_carryOut wsX7_numberAt := goodIn_r _ [37, 23, 24, 25, 5, 26, 16, 17, 18, 19, 11, 12, 13, 14, 1, 15, 20, 21, 22, 113, 114, 115, 116, 117, 118, 119] (by decide +kernel) (by decide +kernel)
set_option maxRecDepth 20000 in
theorem gX7_carryOut_X7_numberAt : GoodIn wsX7_carryOut (wsV RX7 135 RX7 yX7_numberAt wsX7_numberAt) := goodIn_app (goodIn_of _ (by decide +kernel)) ggX7_carryOut_X7_numberAt
set_option maxRecDepth 20000 in
theorem ggX7_carryOut_X7_ticks : GoodIn wsX7_carryOut wsX7_ticks := goodIn_r _ [41, 33, 42, 43, 44, 5, 45, 20, 21, 22, 46, 47, 48, 49, 50, 51, 52, 53, 54, 55, 56, 57, 58, 59, 60, 61, 62, 63, 64, 65, 66, 67, 68, 69, 70, 71, 72, 73, 74, 75, 76, 77, 78, 79, 80, 81, 82, 83, 84, 85, 86, 87, 88, 113, 114, 115, 116, 117, 118, 119] (by decide +kernel) (by decide +kernel)
set_option maxRecDepth 20000 in
theorem gX7_carryOut_X7_ticks : GoodIn wsX7_carryOut (wsV RX7 141 RX7 yX7_ticks wsX7_ticks) := goodIn_app (goodIn_of _ (by decide +kernel)) ggX7_carryOut_X7_ticks
set_option maxRecDepth 20000 in
theorem ggX7_carryOut_X7_carries : GoodIn wsX7_carryOut wsX7_carries := goodIn_r _ [92, 33, 11, 12, 13, 5, 14, 1, 15, 93, 94, 95, 96, 46, 47, 48, 49, 50, 51, 52, 53, 54, 55, 56, 57, 58, 59, 60, 34, 35, 36, 37, 23, 24, 25, 26, 16, 17, 18, 19, 20, 21, 22, 42, 43, 44, 45, 97, 98, 99, 100, 61, 62, 63, 64, 65, 66, 67, 68, 69, 70, 71, 72, 73, 74, 75, 76, 77, 78, 79, 80, 81, 82, 83, 84, 85, 86, 87, 88, 101, 102, 103, 104, 105, 106, 107, 108, 109, 110, 111, 112, 113, 114, 115, 116, 117, 118, 119] (by decide +kernel) (by decide +kernel)
set_option maxRecDepth 20000 in
theorem gX7_carryOut_X7_carries : GoodIn wsX7_carryOut (wsV RX7 144 RX7 yX7_carries wsX7_carries) := goodIn_app (goodIn_of _ (by decide +kernel)) ggX7_carryOut_X7_carries
set_option maxRecDepth 20000 in
theorem ggX7_carryOut_X7_orderEnd : GoodIn wsX7_carryOut wsX7_orderEnd := goodIn_r _ [10, 11, 12, 13, 5, 14, 1, 15, 16, 17, 18, 19, 20, 21, 22, 23, 24, 25, 26, 113, 114, 115, 116, 117, 118, 119] (by decide +kernel) (by decide +kernel)
set_option maxRecDepth 20000 in
theorem gX7_carryOut_X7_orderEnd : GoodIn wsX7_carryOut (wsV RX7 132 RX7 yX7_orderEnd wsX7_orderEnd) := goodIn_app (goodIn_of _ (by decide +kernel)) ggX7_carryOut_X7_orderEnd
theorem dX7_carryOut_0 : decode cX7_carryOut 0 = .ok (.aload_n 0, 1) := by decide +kernel
theorem dX7_carryOut_1 : decode cX7_carryOut 1 = .ok (.invokevirtual 138, 3) := by decide +kernel
theorem dX7_carryOut_4 : decode cX7_carryOut 4 = .ok (.bipush (-6), 2) := by decide +kernel
theorem dX7_carryOut_6 : decode cX7_carryOut 6 = .ok (.if_icmp .eq 6, 3) := by decide +kernel
theorem dX7_carryOut_9 : decode cX7_carryOut 9 = .ok (.bipush (-3), 2) := by decide +kernel
theorem dX7_carryOut_11 : decode cX7_carryOut 11 = .ok (.ireturn, 1) := by decide +kernel
theorem dX7_carryOut_12 : decode cX7_carryOut 12 = .ok (.aload_n 0, 1) := by decide +kernel
theorem dX7_carryOut_13 : decode cX7_carryOut 13 = .ok (.invokevirtual 79, 3) := by decide +kernel
theorem dX7_carryOut_16 : decode cX7_carryOut 16 = .ok (.iconst 0, 1) := by decide +kernel
theorem dX7_carryOut_17 : decode cX7_carryOut 17 = .ok (.istore_n 1, 1) := by decide +kernel
theorem dX7_carryOut_18 : decode cX7_carryOut 18 = .ok (.iconst 0, 1) := by decide +kernel
theorem dX7_carryOut_19 : decode cX7_carryOut 19 = .ok (.istore_n 2, 1) := by decide +kernel
theorem dX7_carryOut_20 : decode cX7_carryOut 20 = .ok (.iconst 1, 1) := by decide +kernel
theorem dX7_carryOut_21 : decode cX7_carryOut 21 = .ok (.istore_n 3, 1) := by decide +kernel
theorem dX7_carryOut_22 : decode cX7_carryOut 22 = .ok (.iload_n 2, 1) := by decide +kernel
theorem dX7_carryOut_23 : decode cX7_carryOut 23 = .ok (.aload_n 0, 1) := by decide +kernel
theorem dX7_carryOut_24 : decode cX7_carryOut 24 = .ok (.getfield 109, 3) := by decide +kernel
theorem dX7_carryOut_27 : decode cX7_carryOut 27 = .ok (.if_icmp .ge 121, 3) := by decide +kernel
theorem dX7_carryOut_30 : decode cX7_carryOut 30 = .ok (.iload_n 3, 1) := by decide +kernel
theorem dX7_carryOut_31 : decode cX7_carryOut 31 = .ok (.ifCond .eq 117, 3) := by decide +kernel
theorem dX7_carryOut_34 : decode cX7_carryOut 34 = .ok (.aload_n 0, 1) := by decide +kernel
theorem dX7_carryOut_35 : decode cX7_carryOut 35 = .ok (.iload_n 2, 1) := by decide +kernel
theorem dX7_carryOut_36 : decode cX7_carryOut 36 = .ok (.invokevirtual 123, 3) := by decide +kernel
theorem dX7_carryOut_39 : decode cX7_carryOut 39 = .ok (.bipush 99, 2) := by decide +kernel
theorem dX7_carryOut_41 : decode cX7_carryOut 41 = .ok (.if_icmp .ne 17, 3) := by decide +kernel
theorem dX7_carryOut_44 : decode cX7_carryOut 44 = .ok (.aload_n 0, 1) := by decide +kernel
theorem dX7_carryOut_45 : decode cX7_carryOut 45 = .ok (.iload_n 2, 1) := by decide +kernel
theorem dX7_carryOut_46 : decode cX7_carryOut 46 = .ok (.iconst 1, 1) := by decide +kernel
theorem dX7_carryOut_47 : decode cX7_carryOut 47 = .ok (.iadd, 1) := by decide +kernel
theorem dX7_carryOut_48 : decode cX7_carryOut 48 = .ok (.invokevirtual 126, 3) := by decide +kernel
theorem dX7_carryOut_51 : decode cX7_carryOut 51 = .ok (.ifCond .lt 7, 3) := by decide +kernel
theorem dX7_carryOut_54 : decode cX7_carryOut 54 = .ok (.iconst 1, 1) := by decide +kernel
theorem dX7_carryOut_55 : decode cX7_carryOut 55 = .ok (.goto 4, 3) := by decide +kernel
theorem dX7_carryOut_58 : decode cX7_carryOut 58 = .ok (.iconst 0, 1) := by decide +kernel
theorem dX7_carryOut_59 : decode cX7_carryOut 59 = .ok (.istore 4, 2) := by decide +kernel
theorem dX7_carryOut_61 : decode cX7_carryOut 61 = .ok (.iload 4, 2) := by decide +kernel
theorem dX7_carryOut_63 : decode cX7_carryOut 63 = .ok (.ifCond .eq 13, 3) := by decide +kernel
theorem dX7_carryOut_66 : decode cX7_carryOut 66 = .ok (.aload_n 0, 1) := by decide +kernel
theorem dX7_carryOut_67 : decode cX7_carryOut 67 = .ok (.iload_n 2, 1) := by decide +kernel
theorem dX7_carryOut_68 : decode cX7_carryOut 68 = .ok (.iconst 1, 1) := by decide +kernel
theorem dX7_carryOut_69 : decode cX7_carryOut 69 = .ok (.iadd, 1) := by decide +kernel
theorem dX7_carryOut_70 : decode cX7_carryOut 70 = .ok (.invokevirtual 135, 3) := by decide +kernel
theorem dX7_carryOut_73 : decode cX7_carryOut 73 = .ok (.goto 4, 3) := by decide +kernel
theorem dX7_carryOut_76 : decode cX7_carryOut 76 = .ok (.iconst 1, 1) := by decide +kernel
theorem dX7_carryOut_77 : decode cX7_carryOut 77 = .ok (.istore 5, 2) := by decide +kernel
theorem dX7_carryOut_79 : decode cX7_carryOut 79 = .ok (.iconst 0, 1) := by decide +kernel
theorem dX7_carryOut_80 : decode cX7_carryOut 80 = .ok (.istore 6, 2) := by decide +kernel
theorem dX7_carryOut_82 : decode cX7_carryOut 82 = .ok (.iload 6, 2) := by decide +kernel
theorem dX7_carryOut_84 : decode cX7_carryOut 84 = .ok (.iload 5, 2) := by decide +kernel
theorem dX7_carryOut_86 : decode cX7_carryOut 86 = .ok (.if_icmp .ge 51, 3) := by decide +kernel
theorem dX7_carryOut_89 : decode cX7_carryOut 89 = .ok (.iload_n 3, 1) := by decide +kernel
theorem dX7_carryOut_90 : decode cX7_carryOut 90 = .ok (.ifCond .eq 47, 3) := by decide +kernel
theorem dX7_carryOut_93 : decode cX7_carryOut 93 = .ok (.iload 4, 2) := by decide +kernel
theorem dX7_carryOut_95 : decode cX7_carryOut 95 = .ok (.ifCond .eq 10, 3) := by decide +kernel
theorem dX7_carryOut_98 : decode cX7_carryOut 98 = .ok (.aload_n 0, 1) := by decide +kernel
theorem dX7_carryOut_99 : decode cX7_carryOut 99 = .ok (.invokevirtual 141, 3) := by decide +kernel
theorem dX7_carryOut_102 : decode cX7_carryOut 102 = .ok (.goto 8, 3) := by decide +kernel
theorem dX7_carryOut_105 : decode cX7_carryOut 105 = .ok (.aload_n 0, 1) := by decide +kernel
theorem dX7_carryOut_106 : decode cX7_carryOut 106 = .ok (.iload_n 2, 1) := by decide +kernel
theorem dX7_carryOut_107 : decode cX7_carryOut 107 = .ok (.invokevirtual 144, 3) := by decide +kernel
theorem dX7_carryOut_110 : decode cX7_carryOut 110 = .ok (.ifCond .ne 7, 3) := by decide +kernel
theorem dX7_carryOut_113 : decode cX7_carryOut 113 = .ok (.iconst 1, 1) := by decide +kernel
theorem dX7_carryOut_114 : decode cX7_carryOut 114 = .ok (.goto 4, 3) := by decide +kernel
theorem dX7_carryOut_117 : decode cX7_carryOut 117 = .ok (.iconst 0, 1) := by decide +kernel
theorem dX7_carryOut_118 : decode cX7_carryOut 118 = .ok (.istore_n 3, 1) := by decide +kernel
theorem dX7_carryOut_119 : decode cX7_carryOut 119 = .ok (.iload_n 1, 1) := by decide +kernel
theorem dX7_carryOut_120 : decode cX7_carryOut 120 = .ok (.iload_n 3, 1) := by decide +kernel
theorem dX7_carryOut_121 : decode cX7_carryOut 121 = .ok (.ifCond .eq 7, 3) := by decide +kernel
theorem dX7_carryOut_124 : decode cX7_carryOut 124 = .ok (.iconst 1, 1) := by decide +kernel
theorem dX7_carryOut_125 : decode cX7_carryOut 125 = .ok (.goto 4, 3) := by decide +kernel
theorem dX7_carryOut_128 : decode cX7_carryOut 128 = .ok (.iconst 0, 1) := by decide +kernel
theorem dX7_carryOut_129 : decode cX7_carryOut 129 = .ok (.iadd, 1) := by decide +kernel
theorem dX7_carryOut_130 : decode cX7_carryOut 130 = .ok (.istore_n 1, 1) := by decide +kernel
theorem dX7_carryOut_131 : decode cX7_carryOut 131 = .ok (.iinc 6 1, 3) := by decide +kernel
theorem dX7_carryOut_134 : decode cX7_carryOut 134 = .ok (.goto (-52), 3) := by decide +kernel
theorem dX7_carryOut_137 : decode cX7_carryOut 137 = .ok (.aload_n 0, 1) := by decide +kernel
theorem dX7_carryOut_138 : decode cX7_carryOut 138 = .ok (.iload_n 2, 1) := by decide +kernel
theorem dX7_carryOut_139 : decode cX7_carryOut 139 = .ok (.invokevirtual 132, 3) := by decide +kernel
theorem dX7_carryOut_142 : decode cX7_carryOut 142 = .ok (.iconst 1, 1) := by decide +kernel
theorem dX7_carryOut_143 : decode cX7_carryOut 143 = .ok (.iadd, 1) := by decide +kernel
theorem dX7_carryOut_144 : decode cX7_carryOut 144 = .ok (.istore_n 2, 1) := by decide +kernel
theorem dX7_carryOut_145 : decode cX7_carryOut 145 = .ok (.goto (-123), 3) := by decide +kernel
theorem dX7_carryOut_148 : decode cX7_carryOut 148 = .ok (.aload_n 0, 1) := by decide +kernel
theorem dX7_carryOut_149 : decode cX7_carryOut 149 = .ok (.iconst 0, 1) := by decide +kernel
theorem dX7_carryOut_150 : decode cX7_carryOut 150 = .ok (.putfield 109, 3) := by decide +kernel
theorem dX7_carryOut_153 : decode cX7_carryOut 153 = .ok (.iload_n 1, 1) := by decide +kernel
theorem dX7_carryOut_154 : decode cX7_carryOut 154 = .ok (.ireturn, 1) := by decide +kernel
theorem dX7_undo_0 : decode cX7_undo 0 = .ok (.aload_n 0, 1) := by decide +kernel
theorem dX7_undo_1 : decode cX7_undo 1 = .ok (.getfield 30, 3) := by decide +kernel
theorem dX7_undo_4 : decode cX7_undo 4 = .ok (.ifCond .ne 6, 3) := by decide +kernel
theorem dX7_undo_7 : decode cX7_undo 7 = .ok (.bipush (-5), 2) := by decide +kernel
theorem dX7_undo_9 : decode cX7_undo 9 = .ok (.ireturn, 1) := by decide +kernel
theorem dX7_undo_10 : decode cX7_undo 10 = .ok (.aload_n 0, 1) := by decide +kernel
theorem dX7_undo_11 : decode cX7_undo 11 = .ok (.dup, 1) := by decide +kernel
theorem dX7_undo_12 : decode cX7_undo 12 = .ok (.getfield 30, 3) := by decide +kernel
theorem dX7_undo_15 : decode cX7_undo 15 = .ok (.iconst 1, 1) := by decide +kernel
theorem dX7_undo_16 : decode cX7_undo 16 = .ok (.isub, 1) := by decide +kernel
theorem dX7_undo_17 : decode cX7_undo 17 = .ok (.putfield 30, 3) := by decide +kernel
theorem dX7_undo_20 : decode cX7_undo 20 = .ok (.iconst 0, 1) := by decide +kernel
theorem dX7_undo_21 : decode cX7_undo 21 = .ok (.istore_n 1, 1) := by decide +kernel
theorem dX7_undo_22 : decode cX7_undo 22 = .ok (.iload_n 1, 1) := by decide +kernel
theorem dX7_undo_23 : decode cX7_undo 23 = .ok (.sipush 356, 3) := by decide +kernel
theorem dX7_undo_26 : decode cX7_undo 26 = .ok (.if_icmp .ge 30, 3) := by decide +kernel
theorem dX7_undo_29 : decode cX7_undo 29 = .ok (.aload_n 0, 1) := by decide +kernel
theorem dX7_undo_30 : decode cX7_undo 30 = .ok (.getfield 7, 3) := by decide +kernel
theorem dX7_undo_33 : decode cX7_undo 33 = .ok (.iload_n 1, 1) := by decide +kernel
theorem dX7_undo_34 : decode cX7_undo 34 = .ok (.aload_n 0, 1) := by decide +kernel
theorem dX7_undo_35 : decode cX7_undo 35 = .ok (.getfield 13, 3) := by decide +kernel
theorem dX7_undo_38 : decode cX7_undo 38 = .ok (.sipush 356, 3) := by decide +kernel
theorem dX7_undo_41 : decode cX7_undo 41 = .ok (.aload_n 0, 1) := by decide +kernel
theorem dX7_undo_42 : decode cX7_undo 42 = .ok (.getfield 30, 3) := by decide +kernel
theorem dX7_undo_45 : decode cX7_undo 45 = .ok (.imul, 1) := by decide +kernel
theorem dX7_undo_46 : decode cX7_undo 46 = .ok (.iload_n 1, 1) := by decide +kernel
theorem dX7_undo_47 : decode cX7_undo 47 = .ok (.iadd, 1) := by decide +kernel
theorem dX7_undo_48 : decode cX7_undo 48 = .ok (.iaload, 1) := by decide +kernel
theorem dX7_undo_49 : decode cX7_undo 49 = .ok (.iastore, 1) := by decide +kernel
theorem dX7_undo_50 : decode cX7_undo 50 = .ok (.iinc 1 1, 3) := by decide +kernel
theorem dX7_undo_53 : decode cX7_undo 53 = .ok (.goto (-31), 3) := by decide +kernel
theorem dX7_undo_56 : decode cX7_undo 56 = .ok (.aload_n 0, 1) := by decide +kernel
theorem dX7_undo_57 : decode cX7_undo 57 = .ok (.getfield 30, 3) := by decide +kernel
theorem dX7_undo_60 : decode cX7_undo 60 = .ok (.ireturn, 1) := by decide +kernel
set_option maxRecDepth 20000 in
theorem ggX7_save_X7_in : GoodIn wsX7_save wsX7_in := goodIn_r _ [7] (by decide +kernel) (by decide +kernel)
set_option maxRecDepth 20000 in
theorem gX7_save_X7_in : GoodIn wsX7_save (va_wsS RX7 71 yX7_in wsX7_in) := goodIn_app (goodIn_of _ (by decide +kernel)) ggX7_save_X7_in
theorem dX7_save_0 : decode cX7_save 0 = .ok (.iload_n 1, 1) := by decide +kernel
theorem dX7_save_1 : decode cX7_save 1 = .ok (.iconst 0, 1) := by decide +kernel
theorem dX7_save_2 : decode cX7_save 2 = .ok (.iconst 1, 1) := by decide +kernel
theorem dX7_save_3 : decode cX7_save 3 = .ok (.invokestatic 71, 3) := by decide +kernel
theorem dX7_save_6 : decode cX7_save 6 = .ok (.ifCond .ne 6, 3) := by decide +kernel
theorem dX7_save_9 : decode cX7_save 9 = .ok (.bipush (-2), 2) := by decide +kernel
theorem dX7_save_11 : decode cX7_save 11 = .ok (.ireturn, 1) := by decide +kernel
theorem dX7_save_12 : decode cX7_save 12 = .ok (.iconst 0, 1) := by decide +kernel
theorem dX7_save_13 : decode cX7_save 13 = .ok (.istore_n 2, 1) := by decide +kernel
theorem dX7_save_14 : decode cX7_save 14 = .ok (.iload_n 2, 1) := by decide +kernel
theorem dX7_save_15 : decode cX7_save 15 = .ok (.sipush 356, 3) := by decide +kernel
theorem dX7_save_18 : decode cX7_save 18 = .ok (.if_icmp .ge 27, 3) := by decide +kernel
theorem dX7_save_21 : decode cX7_save 21 = .ok (.aload_n 0, 1) := by decide +kernel
theorem dX7_save_22 : decode cX7_save 22 = .ok (.getfield 16, 3) := by decide +kernel
theorem dX7_save_25 : decode cX7_save 25 = .ok (.sipush 356, 3) := by decide +kernel
theorem dX7_save_28 : decode cX7_save 28 = .ok (.iload_n 1, 1) := by decide +kernel
theorem dX7_save_29 : decode cX7_save 29 = .ok (.imul, 1) := by decide +kernel
theorem dX7_save_30 : decode cX7_save 30 = .ok (.iload_n 2, 1) := by decide +kernel
theorem dX7_save_31 : decode cX7_save 31 = .ok (.iadd, 1) := by decide +kernel
theorem dX7_save_32 : decode cX7_save 32 = .ok (.aload_n 0, 1) := by decide +kernel
theorem dX7_save_33 : decode cX7_save 33 = .ok (.getfield 7, 3) := by decide +kernel
theorem dX7_save_36 : decode cX7_save 36 = .ok (.iload_n 2, 1) := by decide +kernel
theorem dX7_save_37 : decode cX7_save 37 = .ok (.iaload, 1) := by decide +kernel
theorem dX7_save_38 : decode cX7_save 38 = .ok (.iastore, 1) := by decide +kernel
theorem dX7_save_39 : decode cX7_save 39 = .ok (.iinc 2 1, 3) := by decide +kernel
theorem dX7_save_42 : decode cX7_save 42 = .ok (.goto (-28), 3) := by decide +kernel
theorem dX7_save_45 : decode cX7_save 45 = .ok (.aload_n 0, 1) := by decide +kernel
theorem dX7_save_46 : decode cX7_save 46 = .ok (.getfield 19, 3) := by decide +kernel
theorem dX7_save_49 : decode cX7_save 49 = .ok (.iload_n 1, 1) := by decide +kernel
theorem dX7_save_50 : decode cX7_save 50 = .ok (.iconst 1, 1) := by decide +kernel
theorem dX7_save_51 : decode cX7_save 51 = .ok (.bastore, 1) := by decide +kernel
theorem dX7_save_52 : decode cX7_save 52 = .ok (.aload_n 0, 1) := by decide +kernel
theorem dX7_save_53 : decode cX7_save 53 = .ok (.getfield 7, 3) := by decide +kernel
theorem dX7_save_56 : decode cX7_save 56 = .ok (.iconst 3, 1) := by decide +kernel
theorem dX7_save_57 : decode cX7_save 57 = .ok (.iaload, 1) := by decide +kernel
theorem dX7_save_58 : decode cX7_save 58 = .ok (.ireturn, 1) := by decide +kernel
set_option maxRecDepth 20000 in
theorem ggX7_restore_X7_in : GoodIn wsX7_restore wsX7_in := goodIn_r _ [7] (by decide +kernel) (by decide +kernel)
set_option maxRecDepth 20000 in
theorem gX7_restore_X7_in : GoodIn wsX7_restore (va_wsS RX7 71 yX7_in wsX7_in) := goodIn_app (goodIn_of _ (by decide +kernel)) ggX7_restore_X7_in
set_option maxRecDepth 20000 in
theorem ggX7_restore_X7_remembers : GoodIn wsX7_restore wsX7_remembers := goodIn_r _ [11, 12, 13, 2, 14, 15, 16, 17, 18, 19, 20] (by decide +kernel) (by decide +kernel)
set_option maxRecDepth 20000 in
theorem gX7_restore_X7_remembers : GoodIn wsX7_restore (wsV RX7 79 RX7 yX7_remembers wsX7_remembers) := goodIn_app (goodIn_of _ (by decide +kernel)) ggX7_restore_X7_remembers
theorem dX7_restore_0 : decode cX7_restore 0 = .ok (.iload_n 1, 1) := by decide +kernel
theorem dX7_restore_1 : decode cX7_restore 1 = .ok (.iconst 0, 1) := by decide +kernel
theorem dX7_restore_2 : decode cX7_restore 2 = .ok (.iconst 1, 1) := by decide +kernel
theorem dX7_restore_3 : decode cX7_restore 3 = .ok (.invokestatic 71, 3) := by decide +kernel
theorem dX7_restore_6 : decode cX7_restore 6 = .ok (.ifCond .ne 6, 3) := by decide +kernel
theorem dX7_restore_9 : decode cX7_restore 9 = .ok (.bipush (-2), 2) := by decide +kernel
theorem dX7_restore_11 : decode cX7_restore 11 = .ok (.ireturn, 1) := by decide +kernel
theorem dX7_restore_12 : decode cX7_restore 12 = .ok (.aload_n 0, 1) := by decide +kernel
theorem dX7_restore_13 : decode cX7_restore 13 = .ok (.getfield 19, 3) := by decide +kernel
theorem dX7_restore_16 : decode cX7_restore 16 = .ok (.iload_n 1, 1) := by decide +kernel
theorem dX7_restore_17 : decode cX7_restore 17 = .ok (.baload, 1) := by decide +kernel
theorem dX7_restore_18 : decode cX7_restore 18 = .ok (.ifCond .ne 6, 3) := by decide +kernel
theorem dX7_restore_21 : decode cX7_restore 21 = .ok (.bipush (-5), 2) := by decide +kernel
theorem dX7_restore_23 : decode cX7_restore 23 = .ok (.ireturn, 1) := by decide +kernel
theorem dX7_restore_24 : decode cX7_restore 24 = .ok (.aload_n 0, 1) := by decide +kernel
theorem dX7_restore_25 : decode cX7_restore 25 = .ok (.invokevirtual 79, 3) := by decide +kernel
theorem dX7_restore_28 : decode cX7_restore 28 = .ok (.iconst 0, 1) := by decide +kernel
theorem dX7_restore_29 : decode cX7_restore 29 = .ok (.istore_n 2, 1) := by decide +kernel
theorem dX7_restore_30 : decode cX7_restore 30 = .ok (.iload_n 2, 1) := by decide +kernel
theorem dX7_restore_31 : decode cX7_restore 31 = .ok (.sipush 356, 3) := by decide +kernel
theorem dX7_restore_34 : decode cX7_restore 34 = .ok (.if_icmp .ge 27, 3) := by decide +kernel
theorem dX7_restore_37 : decode cX7_restore 37 = .ok (.aload_n 0, 1) := by decide +kernel
theorem dX7_restore_38 : decode cX7_restore 38 = .ok (.getfield 7, 3) := by decide +kernel
theorem dX7_restore_41 : decode cX7_restore 41 = .ok (.iload_n 2, 1) := by decide +kernel
theorem dX7_restore_42 : decode cX7_restore 42 = .ok (.aload_n 0, 1) := by decide +kernel
theorem dX7_restore_43 : decode cX7_restore 43 = .ok (.getfield 16, 3) := by decide +kernel
theorem dX7_restore_46 : decode cX7_restore 46 = .ok (.sipush 356, 3) := by decide +kernel
theorem dX7_restore_49 : decode cX7_restore 49 = .ok (.iload_n 1, 1) := by decide +kernel
theorem dX7_restore_50 : decode cX7_restore 50 = .ok (.imul, 1) := by decide +kernel
theorem dX7_restore_51 : decode cX7_restore 51 = .ok (.iload_n 2, 1) := by decide +kernel
theorem dX7_restore_52 : decode cX7_restore 52 = .ok (.iadd, 1) := by decide +kernel
theorem dX7_restore_53 : decode cX7_restore 53 = .ok (.iaload, 1) := by decide +kernel
theorem dX7_restore_54 : decode cX7_restore 54 = .ok (.iastore, 1) := by decide +kernel
theorem dX7_restore_55 : decode cX7_restore 55 = .ok (.iinc 2 1, 3) := by decide +kernel
theorem dX7_restore_58 : decode cX7_restore 58 = .ok (.goto (-28), 3) := by decide +kernel
theorem dX7_restore_61 : decode cX7_restore 61 = .ok (.aload_n 0, 1) := by decide +kernel
theorem dX7_restore_62 : decode cX7_restore 62 = .ok (.getfield 7, 3) := by decide +kernel
theorem dX7_restore_65 : decode cX7_restore 65 = .ok (.iconst 3, 1) := by decide +kernel
theorem dX7_restore_66 : decode cX7_restore 66 = .ok (.iaload, 1) := by decide +kernel
theorem dX7_restore_67 : decode cX7_restore 67 = .ok (.ireturn, 1) := by decide +kernel
