theorem dX7_sees_94 : decode cX7_sees 94 = .ok (.iload 4, 2) := by decide +kernel
theorem dX7_sees_96 : decode cX7_sees 96 = .ok (.iconst 1, 1) := by decide +kernel
theorem dX7_sees_97 : decode cX7_sees 97 = .ok (.iadd, 1) := by decide +kernel
theorem dX7_sees_98 : decode cX7_sees 98 = .ok (.iconst 0, 1) := by decide +kernel
theorem dX7_sees_99 : decode cX7_sees 99 = .ok (.iastore, 1) := by decide +kernel
theorem dX7_sees_100 : decode cX7_sees 100 = .ok (.aload_n 0, 1) := by decide +kernel
theorem dX7_sees_101 : decode cX7_sees 101 = .ok (.getfield 7, 3) := by decide +kernel
theorem dX7_sees_104 : decode cX7_sees 104 = .ok (.iload 4, 2) := by decide +kernel
theorem dX7_sees_106 : decode cX7_sees 106 = .ok (.iconst 2, 1) := by decide +kernel
theorem dX7_sees_107 : decode cX7_sees 107 = .ok (.iadd, 1) := by decide +kernel
theorem dX7_sees_108 : decode cX7_sees 108 = .ok (.iconst 0, 1) := by decide +kernel
theorem dX7_sees_109 : decode cX7_sees 109 = .ok (.iastore, 1) := by decide +kernel
theorem dX7_sees_110 : decode cX7_sees 110 = .ok (.aload_n 0, 1) := by decide +kernel
theorem dX7_sees_111 : decode cX7_sees 111 = .ok (.getfield 7, 3) := by decide +kernel
theorem dX7_sees_114 : decode cX7_sees 114 = .ok (.iload 4, 2) := by decide +kernel
theorem dX7_sees_116 : decode cX7_sees 116 = .ok (.iconst 3, 1) := by decide +kernel
theorem dX7_sees_117 : decode cX7_sees 117 = .ok (.iadd, 1) := by decide +kernel
theorem dX7_sees_118 : decode cX7_sees 118 = .ok (.aload_n 0, 1) := by decide +kernel
theorem dX7_sees_119 : decode cX7_sees 119 = .ok (.getfield 7, 3) := by decide +kernel
theorem dX7_sees_122 : decode cX7_sees 122 = .ok (.iload_n 1, 1) := by decide +kernel
theorem dX7_sees_123 : decode cX7_sees 123 = .ok (.iconst 2, 1) := by decide +kernel
theorem dX7_sees_124 : decode cX7_sees 124 = .ok (.iadd, 1) := by decide +kernel
theorem dX7_sees_125 : decode cX7_sees 125 = .ok (.iaload, 1) := by decide +kernel
theorem dX7_sees_126 : decode cX7_sees 126 = .ok (.iastore, 1) := by decide +kernel
theorem dX7_sees_127 : decode cX7_sees 127 = .ok (.aload_n 0, 1) := by decide +kernel
theorem dX7_sees_128 : decode cX7_sees 128 = .ok (.getfield 7, 3) := by decide +kernel
theorem dX7_sees_131 : decode cX7_sees 131 = .ok (.iload 4, 2) := by decide +kernel
theorem dX7_sees_133 : decode cX7_sees 133 = .ok (.iconst 1, 1) := by decide +kernel
theorem dX7_sees_134 : decode cX7_sees 134 = .ok (.iadd, 1) := by decide +kernel
theorem dX7_sees_135 : decode cX7_sees 135 = .ok (.dup2, 1) := by decide +kernel
theorem dX7_sees_136 : decode cX7_sees 136 = .ok (.iaload, 1) := by decide +kernel
theorem dX7_sees_137 : decode cX7_sees 137 = .ok (.iconst 1, 1) := by decide +kernel
theorem dX7_sees_138 : decode cX7_sees 138 = .ok (.iadd, 1) := by decide +kernel
theorem dX7_sees_139 : decode cX7_sees 139 = .ok (.iastore, 1) := by decide +kernel
theorem dX7_sees_140 : decode cX7_sees 140 = .ok (.aload_n 0, 1) := by decide +kernel
theorem dX7_sees_141 : decode cX7_sees 141 = .ok (.getfield 7, 3) := by decide +kernel
theorem dX7_sees_144 : decode cX7_sees 144 = .ok (.iload 4, 2) := by decide +kernel
theorem dX7_sees_146 : decode cX7_sees 146 = .ok (.iconst 2, 1) := by decide +kernel
theorem dX7_sees_147 : decode cX7_sees 147 = .ok (.iadd, 1) := by decide +kernel
theorem dX7_sees_148 : decode cX7_sees 148 = .ok (.dup2, 1) := by decide +kernel
theorem dX7_sees_149 : decode cX7_sees 149 = .ok (.iaload, 1) := by decide +kernel
theorem dX7_sees_150 : decode cX7_sees 150 = .ok (.iload_n 2, 1) := by decide +kernel
theorem dX7_sees_151 : decode cX7_sees 151 = .ok (.aload_n 0, 1) := by decide +kernel
theorem dX7_sees_152 : decode cX7_sees 152 = .ok (.getfield 7, 3) := by decide +kernel
theorem dX7_sees_155 : decode cX7_sees 155 = .ok (.iload_n 1, 1) := by decide +kernel
theorem dX7_sees_156 : decode cX7_sees 156 = .ok (.iconst 3, 1) := by decide +kernel
theorem dX7_sees_157 : decode cX7_sees 157 = .ok (.iadd, 1) := by decide +kernel
theorem dX7_sees_158 : decode cX7_sees 158 = .ok (.iaload, 1) := by decide +kernel
theorem dX7_sees_159 : decode cX7_sees 159 = .ok (.if_icmp .ne 7, 3) := by decide +kernel
theorem dX7_sees_162 : decode cX7_sees 162 = .ok (.iconst 0, 1) := by decide +kernel
theorem dX7_sees_163 : decode cX7_sees 163 = .ok (.goto 4, 3) := by decide +kernel
theorem dX7_sees_166 : decode cX7_sees 166 = .ok (.iconst 1, 1) := by decide +kernel
theorem dX7_sees_167 : decode cX7_sees 167 = .ok (.iadd, 1) := by decide +kernel
theorem dX7_sees_168 : decode cX7_sees 168 = .ok (.iastore, 1) := by decide +kernel
theorem dX7_sees_169 : decode cX7_sees 169 = .ok (.return_, 1) := by decide +kernel
set_option maxRecDepth 20000 in
theorem ggX7_reads_X7_shows : GoodIn wsX7_reads wsX7_shows := goodIn_r _ [6, 1, 7, 8, 9, 5, 10, 11, 12, 13, 14, 15, 16, 17] (by decide +kernel) (by decide +kernel)
set_option maxRecDepth 20000 in
theorem gX7_reads_X7_shows : GoodIn wsX7_reads (wsV RX7 50 RX7 yX7_shows wsX7_shows) := goodIn_app (goodIn_of _ (by decide +kernel)) ggX7_reads_X7_shows
theorem dX7_reads_0 : decode cX7_reads 0 = .ok (.aload_n 0, 1) := by decide +kernel
theorem dX7_reads_1 : decode cX7_reads 1 = .ok (.getfield 7, 3) := by decide +kernel
theorem dX7_reads_4 : decode cX7_reads 4 = .ok (.iload_n 1, 1) := by decide +kernel
theorem dX7_reads_5 : decode cX7_reads 5 = .ok (.sipush 129, 3) := by decide +kernel
theorem dX7_reads_8 : decode cX7_reads 8 = .ok (.iadd, 1) := by decide +kernel
theorem dX7_reads_9 : decode cX7_reads 9 = .ok (.aload_n 0, 1) := by decide +kernel
theorem dX7_reads_10 : decode cX7_reads 10 = .ok (.getfield 7, 3) := by decide +kernel
theorem dX7_reads_13 : decode cX7_reads 13 = .ok (.iload_n 1, 1) := by decide +kernel
theorem dX7_reads_14 : decode cX7_reads 14 = .ok (.bipush 7, 2) := by decide +kernel
theorem dX7_reads_16 : decode cX7_reads 16 = .ok (.iadd, 1) := by decide +kernel
theorem dX7_reads_17 : decode cX7_reads 17 = .ok (.iaload, 1) := by decide +kernel
theorem dX7_reads_18 : decode cX7_reads 18 = .ok (.iadd, 1) := by decide +kernel
theorem dX7_reads_19 : decode cX7_reads 19 = .ok (.sipush 2048, 3) := by decide +kernel
theorem dX7_reads_22 : decode cX7_reads 22 = .ok (.aload_n 0, 1) := by decide +kernel
theorem dX7_reads_23 : decode cX7_reads 23 = .ok (.getfield 7, 3) := by decide +kernel
theorem dX7_reads_26 : decode cX7_reads 26 = .ok (.iload_n 1, 1) := by decide +kernel
theorem dX7_reads_27 : decode cX7_reads 27 = .ok (.iconst 2, 1) := by decide +kernel
theorem dX7_reads_28 : decode cX7_reads 28 = .ok (.iadd, 1) := by decide +kernel
theorem dX7_reads_29 : decode cX7_reads 29 = .ok (.iaload, 1) := by decide +kernel
theorem dX7_reads_30 : decode cX7_reads 30 = .ok (.imul, 1) := by decide +kernel
theorem dX7_reads_31 : decode cX7_reads 31 = .ok (.bipush 64, 2) := by decide +kernel
theorem dX7_reads_33 : decode cX7_reads 33 = .ok (.aload_n 0, 1) := by decide +kernel
theorem dX7_reads_34 : decode cX7_reads 34 = .ok (.iload_n 1, 1) := by decide +kernel
theorem dX7_reads_35 : decode cX7_reads 35 = .ok (.invokevirtual 50, 3) := by decide +kernel
theorem dX7_reads_38 : decode cX7_reads 38 = .ok (.imul, 1) := by decide +kernel
theorem dX7_reads_39 : decode cX7_reads 39 = .ok (.iadd, 1) := by decide +kernel
theorem dX7_reads_40 : decode cX7_reads 40 = .ok (.iconst 2, 1) := by decide +kernel
theorem dX7_reads_41 : decode cX7_reads 41 = .ok (.aload_n 0, 1) := by decide +kernel
theorem dX7_reads_42 : decode cX7_reads 42 = .ok (.getfield 7, 3) := by decide +kernel
theorem dX7_reads_45 : decode cX7_reads 45 = .ok (.iload_n 1, 1) := by decide +kernel
theorem dX7_reads_46 : decode cX7_reads 46 = .ok (.iconst 3, 1) := by decide +kernel
theorem dX7_reads_47 : decode cX7_reads 47 = .ok (.iadd, 1) := by decide +kernel
theorem dX7_reads_48 : decode cX7_reads 48 = .ok (.iaload, 1) := by decide +kernel
theorem dX7_reads_49 : decode cX7_reads 49 = .ok (.imul, 1) := by decide +kernel
theorem dX7_reads_50 : decode cX7_reads 50 = .ok (.iadd, 1) := by decide +kernel
theorem dX7_reads_51 : decode cX7_reads 51 = .ok (.iload_n 2, 1) := by decide +kernel
theorem dX7_reads_52 : decode cX7_reads 52 = .ok (.iadd, 1) := by decide +kernel
theorem dX7_reads_53 : decode cX7_reads 53 = .ok (.iastore, 1) := by decide +kernel
theorem dX7_reads_54 : decode cX7_reads 54 = .ok (.aload_n 0, 1) := by decide +kernel
theorem dX7_reads_55 : decode cX7_reads 55 = .ok (.getfield 7, 3) := by decide +kernel
theorem dX7_reads_58 : decode cX7_reads 58 = .ok (.iload_n 1, 1) := by decide +kernel
theorem dX7_reads_59 : decode cX7_reads 59 = .ok (.bipush 7, 2) := by decide +kernel
theorem dX7_reads_61 : decode cX7_reads 61 = .ok (.iadd, 1) := by decide +kernel
theorem dX7_reads_62 : decode cX7_reads 62 = .ok (.dup2, 1) := by decide +kernel
theorem dX7_reads_63 : decode cX7_reads 63 = .ok (.iaload, 1) := by decide +kernel
theorem dX7_reads_64 : decode cX7_reads 64 = .ok (.iconst 1, 1) := by decide +kernel
theorem dX7_reads_65 : decode cX7_reads 65 = .ok (.iadd, 1) := by decide +kernel
theorem dX7_reads_66 : decode cX7_reads 66 = .ok (.iastore, 1) := by decide +kernel
theorem dX7_reads_67 : decode cX7_reads 67 = .ok (.return_, 1) := by decide +kernel
set_option maxRecDepth 20000 in
theorem ggX7_passesOne_X7_stages : GoodIn wsX7_passesOne wsX7_stages := goodIn_r _ [6, 1, 38, 39, 40, 41, 42, 43, 44] (by decide +kernel) (by decide +kernel)
set_option maxRecDepth 20000 in
theorem gX7_passesOne_X7_stages : GoodIn wsX7_passesOne (wsV RX7 34 RX7 yX7_stages wsX7_stages) := goodIn_app (goodIn_of _ (by decide +kernel)) ggX7_passesOne_X7_stages
set_option maxRecDepth 20000 in
theorem ggX7_passesOne_X7_due : GoodIn wsX7_passesOne wsX7_due := goodIn_r _ [9] (by decide +kernel) (by decide +kernel)
set_option maxRecDepth 20000 in
theorem gX7_passesOne_X7_due : GoodIn wsX7_passesOne (va_wsS RX7 38 yX7_due wsX7_due) := goodIn_app (goodIn_of _ (by decide +kernel)) ggX7_passesOne_X7_due
set_option maxRecDepth 20000 in
theorem ggX7_passesOne_X7_done : GoodIn wsX7_passesOne wsX7_done := goodIn_r _ [13, 1, 2, 3, 4, 5, 6, 14, 15, 16, 17, 7, 8, 9, 38, 39, 40, 41, 42, 43, 44] (by decide +kernel) (by decide +kernel)
set_option maxRecDepth 20000 in
theorem gX7_passesOne_X7_done : GoodIn wsX7_passesOne (wsV RX7 53 RX7 yX7_done wsX7_done) := goodIn_app (goodIn_of _ (by decide +kernel)) ggX7_passesOne_X7_done
set_option maxRecDepth 20000 in
theorem ggX7_passesOne_X7_sees : GoodIn wsX7_passesOne wsX7_sees := goodIn_r _ [21, 1, 22, 23, 24, 5, 25, 2, 3, 4, 6, 38, 39, 40, 41, 42, 43, 44] (by decide +kernel) (by decide +kernel)
set_option maxRecDepth 20000 in
theorem gX7_passesOne_X7_sees : GoodIn wsX7_passesOne (wsV RX7 56 RX7 yX7_sees wsX7_sees) := goodIn_app (goodIn_of _ (by decide +kernel)) ggX7_passesOne_X7_sees
set_option maxRecDepth 20000 in
theorem ggX7_passesOne_X7_allOnWay : GoodIn wsX7_passesOne wsX7_allOnWay := goodIn_r _ [29, 2, 3, 4, 5, 6, 1, 30, 31, 32, 33, 7, 8, 9, 38, 39, 40, 41, 42, 43, 44] (by decide +kernel) (by decide +kernel)
set_option maxRecDepth 20000 in
theorem gX7_passesOne_X7_allOnWay : GoodIn wsX7_passesOne (wsV RX7 59 RX7 yX7_allOnWay wsX7_allOnWay) := goodIn_app (goodIn_of _ (by decide +kernel)) ggX7_passesOne_X7_allOnWay
set_option maxRecDepth 20000 in
theorem ggX7_passesOne_X7_reads : GoodIn wsX7_passesOne wsX7_reads := goodIn_r _ [37, 1, 22, 23, 24, 5, 25, 2, 3, 4, 6, 38, 39, 40, 41, 42, 43, 44] (by decide +kernel) (by decide +kernel)
set_option maxRecDepth 20000 in
theorem gX7_passesOne_X7_reads : GoodIn wsX7_passesOne (wsV RX7 62 RX7 yX7_reads wsX7_reads) := goodIn_app (goodIn_of _ (by decide +kernel)) ggX7_passesOne_X7_reads
theorem dX7_passesOne_0 : decode cX7_passesOne 0 = .ok (.iconst 0, 1) := by decide +kernel
theorem dX7_passesOne_1 : decode cX7_passesOne 1 = .ok (.istore_n 2, 1) := by decide +kernel
theorem dX7_passesOne_2 : decode cX7_passesOne 2 = .ok (.iconst 0, 1) := by decide +kernel
theorem dX7_passesOne_3 : decode cX7_passesOne 3 = .ok (.istore_n 3, 1) := by decide +kernel
theorem dX7_passesOne_4 : decode cX7_passesOne 4 = .ok (.iload_n 3, 1) := by decide +kernel
theorem dX7_passesOne_5 : decode cX7_passesOne 5 = .ok (.aload_n 0, 1) := by decide +kernel
theorem dX7_passesOne_6 : decode cX7_passesOne 6 = .ok (.iload_n 1, 1) := by decide +kernel
theorem dX7_passesOne_7 : decode cX7_passesOne 7 = .ok (.invokevirtual 34, 3) := by decide +kernel
theorem dX7_passesOne_10 : decode cX7_passesOne 10 = .ok (.if_icmp .ge 42, 3) := by decide +kernel
theorem dX7_passesOne_13 : decode cX7_passesOne 13 = .ok (.aload_n 0, 1) := by decide +kernel
theorem dX7_passesOne_14 : decode cX7_passesOne 14 = .ok (.getfield 7, 3) := by decide +kernel
theorem dX7_passesOne_17 : decode cX7_passesOne 17 = .ok (.iload_n 1, 1) := by decide +kernel
theorem dX7_passesOne_18 : decode cX7_passesOne 18 = .ok (.iload_n 3, 1) := by decide +kernel
theorem dX7_passesOne_19 : decode cX7_passesOne 19 = .ok (.iconst 0, 1) := by decide +kernel
theorem dX7_passesOne_20 : decode cX7_passesOne 20 = .ok (.invokestatic 38, 3) := by decide +kernel
theorem dX7_passesOne_23 : decode cX7_passesOne 23 = .ok (.iaload, 1) := by decide +kernel
theorem dX7_passesOne_24 : decode cX7_passesOne 24 = .ok (.istore 4, 2) := by decide +kernel
theorem dX7_passesOne_26 : decode cX7_passesOne 26 = .ok (.iload 4, 2) := by decide +kernel
theorem dX7_passesOne_28 : decode cX7_passesOne 28 = .ok (.ifCond .le 18, 3) := by decide +kernel
theorem dX7_passesOne_31 : decode cX7_passesOne 31 = .ok (.aload_n 0, 1) := by decide +kernel
theorem dX7_passesOne_32 : decode cX7_passesOne 32 = .ok (.iload_n 1, 1) := by decide +kernel
theorem dX7_passesOne_33 : decode cX7_passesOne 33 = .ok (.iload_n 3, 1) := by decide +kernel
theorem dX7_passesOne_34 : decode cX7_passesOne 34 = .ok (.invokevirtual 53, 3) := by decide +kernel
theorem dX7_passesOne_37 : decode cX7_passesOne 37 = .ok (.iinc 2 1, 3) := by decide +kernel
theorem dX7_passesOne_40 : decode cX7_passesOne 40 = .ok (.iinc 4 (-1), 3) := by decide +kernel
theorem dX7_passesOne_43 : decode cX7_passesOne 43 = .ok (.goto (-17), 3) := by decide +kernel
theorem dX7_passesOne_46 : decode cX7_passesOne 46 = .ok (.iinc 3 1, 3) := by decide +kernel
theorem dX7_passesOne_49 : decode cX7_passesOne 49 = .ok (.goto (-45), 3) := by decide +kernel
theorem dX7_passesOne_52 : decode cX7_passesOne 52 = .ok (.iload_n 2, 1) := by decide +kernel
theorem dX7_passesOne_53 : decode cX7_passesOne 53 = .ok (.ifCond .le 24, 3) := by decide +kernel
theorem dX7_passesOne_56 : decode cX7_passesOne 56 = .ok (.aload_n 0, 1) := by decide +kernel
theorem dX7_passesOne_57 : decode cX7_passesOne 57 = .ok (.getfield 7, 3) := by decide +kernel
theorem dX7_passesOne_60 : decode cX7_passesOne 60 = .ok (.iload_n 1, 1) := by decide +kernel
theorem dX7_passesOne_61 : decode cX7_passesOne 61 = .ok (.iconst 5, 1) := by decide +kernel
theorem dX7_passesOne_62 : decode cX7_passesOne 62 = .ok (.iadd, 1) := by decide +kernel
theorem dX7_passesOne_63 : decode cX7_passesOne 63 = .ok (.aload_n 0, 1) := by decide +kernel
theorem dX7_passesOne_64 : decode cX7_passesOne 64 = .ok (.getfield 7, 3) := by decide +kernel
theorem dX7_passesOne_67 : decode cX7_passesOne 67 = .ok (.iload_n 1, 1) := by decide +kernel
theorem dX7_passesOne_68 : decode cX7_passesOne 68 = .ok (.iconst 2, 1) := by decide +kernel
theorem dX7_passesOne_69 : decode cX7_passesOne 69 = .ok (.iadd, 1) := by decide +kernel
theorem dX7_passesOne_70 : decode cX7_passesOne 70 = .ok (.iaload, 1) := by decide +kernel
theorem dX7_passesOne_71 : decode cX7_passesOne 71 = .ok (.iastore, 1) := by decide +kernel
theorem dX7_passesOne_72 : decode cX7_passesOne 72 = .ok (.aload_n 0, 1) := by decide +kernel
theorem dX7_passesOne_73 : decode cX7_passesOne 73 = .ok (.iload_n 1, 1) := by decide +kernel
theorem dX7_passesOne_74 : decode cX7_passesOne 74 = .ok (.invokevirtual 56, 3) := by decide +kernel
theorem dX7_passesOne_77 : decode cX7_passesOne 77 = .ok (.iconst 0, 1) := by decide +kernel
theorem dX7_passesOne_78 : decode cX7_passesOne 78 = .ok (.istore_n 3, 1) := by decide +kernel
theorem dX7_passesOne_79 : decode cX7_passesOne 79 = .ok (.iload_n 3, 1) := by decide +kernel
theorem dX7_passesOne_80 : decode cX7_passesOne 80 = .ok (.iconst 5, 1) := by decide +kernel
theorem dX7_passesOne_81 : decode cX7_passesOne 81 = .ok (.if_icmp .ge 64, 3) := by decide +kernel
theorem dX7_passesOne_84 : decode cX7_passesOne 84 = .ok (.iconst 0, 1) := by decide +kernel
theorem dX7_passesOne_85 : decode cX7_passesOne 85 = .ok (.istore 4, 2) := by decide +kernel
theorem dX7_passesOne_87 : decode cX7_passesOne 87 = .ok (.iload 4, 2) := by decide +kernel
theorem dX7_passesOne_89 : decode cX7_passesOne 89 = .ok (.bipush 20, 2) := by decide +kernel
theorem dX7_passesOne_91 : decode cX7_passesOne 91 = .ok (.if_icmp .ge 35, 3) := by decide +kernel
theorem dX7_passesOne_94 : decode cX7_passesOne 94 = .ok (.aload_n 0, 1) := by decide +kernel
theorem dX7_passesOne_95 : decode cX7_passesOne 95 = .ok (.getfield 7, 3) := by decide +kernel
theorem dX7_passesOne_98 : decode cX7_passesOne 98 = .ok (.iload_n 1, 1) := by decide +kernel
theorem dX7_passesOne_99 : decode cX7_passesOne 99 = .ok (.iload_n 3, 1) := by decide +kernel
theorem dX7_passesOne_100 : decode cX7_passesOne 100 = .ok (.iload 4, 2) := by decide +kernel
theorem dX7_passesOne_102 : decode cX7_passesOne 102 = .ok (.invokestatic 38, 3) := by decide +kernel
theorem dX7_passesOne_105 : decode cX7_passesOne 105 = .ok (.aload_n 0, 1) := by decide +kernel
theorem dX7_passesOne_106 : decode cX7_passesOne 106 = .ok (.getfield 7, 3) := by decide +kernel
theorem dX7_passesOne_109 : decode cX7_passesOne 109 = .ok (.iload_n 1, 1) := by decide +kernel
theorem dX7_passesOne_110 : decode cX7_passesOne 110 = .ok (.iload_n 3, 1) := by decide +kernel
theorem dX7_passesOne_111 : decode cX7_passesOne 111 = .ok (.iload 4, 2) := by decide +kernel
theorem dX7_passesOne_113 : decode cX7_passesOne 113 = .ok (.iconst 1, 1) := by decide +kernel
theorem dX7_passesOne_114 : decode cX7_passesOne 114 = .ok (.iadd, 1) := by decide +kernel
theorem dX7_passesOne_115 : decode cX7_passesOne 115 = .ok (.invokestatic 38, 3) := by decide +kernel
theorem dX7_passesOne_118 : decode cX7_passesOne 118 = .ok (.iaload, 1) := by decide +kernel
theorem dX7_passesOne_119 : decode cX7_passesOne 119 = .ok (.iastore, 1) := by decide +kernel
theorem dX7_passesOne_120 : decode cX7_passesOne 120 = .ok (.iinc 4 1, 3) := by decide +kernel
theorem dX7_passesOne_123 : decode cX7_passesOne 123 = .ok (.goto (-36), 3) := by decide +kernel
theorem dX7_passesOne_126 : decode cX7_passesOne 126 = .ok (.aload_n 0, 1) := by decide +kernel
theorem dX7_passesOne_127 : decode cX7_passesOne 127 = .ok (.getfield 7, 3) := by decide +kernel
theorem dX7_passesOne_130 : decode cX7_passesOne 130 = .ok (.iload_n 1, 1) := by decide +kernel
theorem dX7_passesOne_131 : decode cX7_passesOne 131 = .ok (.iload_n 3, 1) := by decide +kernel
theorem dX7_passesOne_132 : decode cX7_passesOne 132 = .ok (.bipush 20, 2) := by decide +kernel
theorem dX7_passesOne_134 : decode cX7_passesOne 134 = .ok (.invokestatic 38, 3) := by decide +kernel
theorem dX7_passesOne_137 : decode cX7_passesOne 137 = .ok (.iconst 0, 1) := by decide +kernel
theorem dX7_passesOne_138 : decode cX7_passesOne 138 = .ok (.iastore, 1) := by decide +kernel
theorem dX7_passesOne_139 : decode cX7_passesOne 139 = .ok (.iinc 3 1, 3) := by decide +kernel
theorem dX7_passesOne_142 : decode cX7_passesOne 142 = .ok (.goto (-63), 3) := by decide +kernel
theorem dX7_passesOne_145 : decode cX7_passesOne 145 = .ok (.aload_n 0, 1) := by decide +kernel
theorem dX7_passesOne_146 : decode cX7_passesOne 146 = .ok (.getfield 7, 3) := by decide +kernel
theorem dX7_passesOne_149 : decode cX7_passesOne 149 = .ok (.iload_n 1, 1) := by decide +kernel
theorem dX7_passesOne_150 : decode cX7_passesOne 150 = .ok (.iconst 5, 1) := by decide +kernel
theorem dX7_passesOne_151 : decode cX7_passesOne 151 = .ok (.iadd, 1) := by decide +kernel
theorem dX7_passesOne_152 : decode cX7_passesOne 152 = .ok (.iaload, 1) := by decide +kernel
theorem dX7_passesOne_153 : decode cX7_passesOne 153 = .ok (.ifCond .lt 33, 3) := by decide +kernel
theorem dX7_passesOne_156 : decode cX7_passesOne 156 = .ok (.aload_n 0, 1) := by decide +kernel
theorem dX7_passesOne_157 : decode cX7_passesOne 157 = .ok (.getfield 7, 3) := by decide +kernel
theorem dX7_passesOne_160 : decode cX7_passesOne 160 = .ok (.iload_n 1, 1) := by decide +kernel
theorem dX7_passesOne_161 : decode cX7_passesOne 161 = .ok (.iconst 2, 1) := by decide +kernel
theorem dX7_passesOne_162 : decode cX7_passesOne 162 = .ok (.iadd, 1) := by decide +kernel
theorem dX7_passesOne_163 : decode cX7_passesOne 163 = .ok (.iaload, 1) := by decide +kernel
theorem dX7_passesOne_164 : decode cX7_passesOne 164 = .ok (.aload_n 0, 1) := by decide +kernel
theorem dX7_passesOne_165 : decode cX7_passesOne 165 = .ok (.getfield 7, 3) := by decide +kernel
theorem dX7_passesOne_168 : decode cX7_passesOne 168 = .ok (.iload_n 1, 1) := by decide +kernel
theorem dX7_passesOne_169 : decode cX7_passesOne 169 = .ok (.iconst 5, 1) := by decide +kernel
theorem dX7_passesOne_170 : decode cX7_passesOne 170 = .ok (.iadd, 1) := by decide +kernel
theorem dX7_passesOne_171 : decode cX7_passesOne 171 = .ok (.iaload, 1) := by decide +kernel
theorem dX7_passesOne_172 : decode cX7_passesOne 172 = .ok (.isub, 1) := by decide +kernel
theorem dX7_passesOne_173 : decode cX7_passesOne 173 = .ok (.aload_n 0, 1) := by decide +kernel
theorem dX7_passesOne_174 : decode cX7_passesOne 174 = .ok (.getfield 7, 3) := by decide +kernel
theorem dX7_passesOne_177 : decode cX7_passesOne 177 = .ok (.iload_n 1, 1) := by decide +kernel
theorem dX7_passesOne_178 : decode cX7_passesOne 178 = .ok (.iconst 0, 1) := by decide +kernel
theorem dX7_passesOne_179 : decode cX7_passesOne 179 = .ok (.iadd, 1) := by decide +kernel
theorem dX7_passesOne_180 : decode cX7_passesOne 180 = .ok (.iconst 1, 1) := by decide +kernel
theorem dX7_passesOne_181 : decode cX7_passesOne 181 = .ok (.iadd, 1) := by decide +kernel
theorem dX7_passesOne_182 : decode cX7_passesOne 182 = .ok (.iaload, 1) := by decide +kernel
theorem dX7_passesOne_183 : decode cX7_passesOne 183 = .ok (.if_icmp .lt 7, 3) := by decide +kernel
theorem dX7_passesOne_186 : decode cX7_passesOne 186 = .ok (.iconst 1, 1) := by decide +kernel
theorem dX7_passesOne_187 : decode cX7_passesOne 187 = .ok (.goto 4, 3) := by decide +kernel
theorem dX7_passesOne_190 : decode cX7_passesOne 190 = .ok (.iconst 0, 1) := by decide +kernel
theorem dX7_passesOne_191 : decode cX7_passesOne 191 = .ok (.istore_n 3, 1) := by decide +kernel
theorem dX7_passesOne_192 : decode cX7_passesOne 192 = .ok (.aload_n 0, 1) := by decide +kernel
theorem dX7_passesOne_193 : decode cX7_passesOne 193 = .ok (.getfield 7, 3) := by decide +kernel
theorem dX7_passesOne_196 : decode cX7_passesOne 196 = .ok (.iload_n 1, 1) := by decide +kernel
theorem dX7_passesOne_197 : decode cX7_passesOne 197 = .ok (.bipush 6, 2) := by decide +kernel
theorem dX7_passesOne_199 : decode cX7_passesOne 199 = .ok (.iadd, 1) := by decide +kernel
theorem dX7_passesOne_200 : decode cX7_passesOne 200 = .ok (.iaload, 1) := by decide +kernel
theorem dX7_passesOne_201 : decode cX7_passesOne 201 = .ok (.iconst 1, 1) := by decide +kernel
theorem dX7_passesOne_202 : decode cX7_passesOne 202 = .ok (.if_icmp .ne 31, 3) := by decide +kernel
theorem dX7_passesOne_205 : decode cX7_passesOne 205 = .ok (.aload_n 0, 1) := by decide +kernel
theorem dX7_passesOne_206 : decode cX7_passesOne 206 = .ok (.iload_n 1, 1) := by decide +kernel
theorem dX7_passesOne_207 : decode cX7_passesOne 207 = .ok (.invokevirtual 59, 3) := by decide +kernel
theorem dX7_passesOne_210 : decode cX7_passesOne 210 = .ok (.ifCond .ne 23, 3) := by decide +kernel
theorem dX7_passesOne_213 : decode cX7_passesOne 213 = .ok (.iload_n 3, 1) := by decide +kernel
theorem dX7_passesOne_214 : decode cX7_passesOne 214 = .ok (.ifCond .eq 19, 3) := by decide +kernel
theorem dX7_passesOne_217 : decode cX7_passesOne 217 = .ok (.aload_n 0, 1) := by decide +kernel
theorem dX7_passesOne_218 : decode cX7_passesOne 218 = .ok (.getfield 7, 3) := by decide +kernel
theorem dX7_passesOne_221 : decode cX7_passesOne 221 = .ok (.iload_n 1, 1) := by decide +kernel
theorem dX7_passesOne_222 : decode cX7_passesOne 222 = .ok (.bipush 6, 2) := by decide +kernel
theorem dX7_passesOne_224 : decode cX7_passesOne 224 = .ok (.iadd, 1) := by decide +kernel
theorem dX7_passesOne_225 : decode cX7_passesOne 225 = .ok (.iconst 0, 1) := by decide +kernel
theorem dX7_passesOne_226 : decode cX7_passesOne 226 = .ok (.iastore, 1) := by decide +kernel
theorem dX7_passesOne_227 : decode cX7_passesOne 227 = .ok (.aload_n 0, 1) := by decide +kernel
theorem dX7_passesOne_228 : decode cX7_passesOne 228 = .ok (.iload_n 1, 1) := by decide +kernel
theorem dX7_passesOne_229 : decode cX7_passesOne 229 = .ok (.iconst 1, 1) := by decide +kernel
theorem dX7_passesOne_230 : decode cX7_passesOne 230 = .ok (.invokevirtual 62, 3) := by decide +kernel
theorem dX7_passesOne_233 : decode cX7_passesOne 233 = .ok (.aload_n 0, 1) := by decide +kernel
theorem dX7_passesOne_234 : decode cX7_passesOne 234 = .ok (.getfield 7, 3) := by decide +kernel
theorem dX7_passesOne_237 : decode cX7_passesOne 237 = .ok (.iload_n 1, 1) := by decide +kernel
theorem dX7_passesOne_238 : decode cX7_passesOne 238 = .ok (.iconst 2, 1) := by decide +kernel
theorem dX7_passesOne_239 : decode cX7_passesOne 239 = .ok (.iadd, 1) := by decide +kernel
theorem dX7_passesOne_240 : decode cX7_passesOne 240 = .ok (.dup2, 1) := by decide +kernel
theorem dX7_passesOne_241 : decode cX7_passesOne 241 = .ok (.iaload, 1) := by decide +kernel
theorem dX7_passesOne_242 : decode cX7_passesOne 242 = .ok (.iconst 1, 1) := by decide +kernel
theorem dX7_passesOne_243 : decode cX7_passesOne 243 = .ok (.iadd, 1) := by decide +kernel
theorem dX7_passesOne_244 : decode cX7_passesOne 244 = .ok (.iastore, 1) := by decide +kernel
theorem dX7_passesOne_245 : decode cX7_passesOne 245 = .ok (.iload_n 2, 1) := by decide +kernel
theorem dX7_passesOne_246 : decode cX7_passesOne 246 = .ok (.ireturn, 1) := by decide +kernel
set_option maxRecDepth 20000 in
theorem ggX7_passes_X7_passesOne : GoodIn wsX7_passes wsX7_passesOne := goodIn_r _ [5, 6, 7, 8, 9, 4, 10, 11, 12, 13, 14, 15, 16, 17, 18, 19, 20, 21, 22, 23, 24, 25, 26, 27, 28, 29, 30, 31, 32, 33, 34, 35, 36, 37, 38, 39, 40, 41, 42, 43, 44, 45, 46, 47, 48] (by decide +kernel) (by decide +kernel)
set_option maxRecDepth 20000 in
theorem gX7_passes_X7_passesOne : GoodIn wsX7_passes (wsV RX7 65 RX7 yX7_passesOne wsX7_passesOne) := goodIn_app (goodIn_of _ (by decide +kernel)) ggX7_passes_X7_passesOne
theorem dX7_passes_0 : decode cX7_passes 0 = .ok (.iconst 0, 1) := by decide +kernel
theorem dX7_passes_1 : decode cX7_passes 1 = .ok (.istore_n 3, 1) := by decide +kernel
theorem dX7_passes_2 : decode cX7_passes 2 = .ok (.iconst 0, 1) := by decide +kernel
theorem dX7_passes_3 : decode cX7_passes 3 = .ok (.istore 4, 2) := by decide +kernel
theorem dX7_passes_5 : decode cX7_passes 5 = .ok (.iload 4, 2) := by decide +kernel
theorem dX7_passes_7 : decode cX7_passes 7 = .ok (.iload_n 2, 1) := by decide +kernel
theorem dX7_passes_8 : decode cX7_passes 8 = .ok (.if_icmp .ge 17, 3) := by decide +kernel
theorem dX7_passes_11 : decode cX7_passes 11 = .ok (.iload_n 3, 1) := by decide +kernel
theorem dX7_passes_12 : decode cX7_passes 12 = .ok (.aload_n 0, 1) := by decide +kernel
theorem dX7_passes_13 : decode cX7_passes 13 = .ok (.iload_n 1, 1) := by decide +kernel
theorem dX7_passes_14 : decode cX7_passes 14 = .ok (.invokevirtual 65, 3) := by decide +kernel
theorem dX7_passes_17 : decode cX7_passes 17 = .ok (.iadd, 1) := by decide +kernel
theorem dX7_passes_18 : decode cX7_passes 18 = .ok (.istore_n 3, 1) := by decide +kernel
theorem dX7_passes_19 : decode cX7_passes 19 = .ok (.iinc 4 1, 3) := by decide +kernel
theorem dX7_passes_22 : decode cX7_passes 22 = .ok (.goto (-17), 3) := by decide +kernel
theorem dX7_passes_25 : decode cX7_passes 25 = .ok (.iload_n 3, 1) := by decide +kernel
theorem dX7_passes_26 : decode cX7_passes 26 = .ok (.ireturn, 1) := by decide +kernel
set_option maxRecDepth 20000 in
theorem ggX7_clockNow_X7_clocks : GoodIn wsX7_clockNow wsX7_clocks := goodIn_r _ [6, 1, 7, 8, 9, 5, 10, 11, 12, 13, 14, 15, 16, 17, 18, 19, 20, 21, 22, 23, 24] (by decide +kernel) (by decide +kernel)
set_option maxRecDepth 20000 in
theorem gX7_clockNow_X7_clocks : GoodIn wsX7_clockNow (wsV RX7 68 RX7 yX7_clocks wsX7_clocks) := goodIn_app (goodIn_of _ (by decide +kernel)) ggX7_clockNow_X7_clocks
theorem dX7_clockNow_0 : decode cX7_clockNow 0 = .ok (.aload_n 0, 1) := by decide +kernel
theorem dX7_clockNow_1 : decode cX7_clockNow 1 = .ok (.getfield 7, 3) := by decide +kernel
theorem dX7_clockNow_4 : decode cX7_clockNow 4 = .ok (.iconst 4, 1) := by decide +kernel
theorem dX7_clockNow_5 : decode cX7_clockNow 5 = .ok (.iaload, 1) := by decide +kernel
theorem dX7_clockNow_6 : decode cX7_clockNow 6 = .ok (.aload_n 0, 1) := by decide +kernel
theorem dX7_clockNow_7 : decode cX7_clockNow 7 = .ok (.getfield 7, 3) := by decide +kernel
theorem dX7_clockNow_10 : decode cX7_clockNow 10 = .ok (.iconst 2, 1) := by decide +kernel
theorem dX7_clockNow_11 : decode cX7_clockNow 11 = .ok (.iaload, 1) := by decide +kernel
theorem dX7_clockNow_12 : decode cX7_clockNow 12 = .ok (.if_icmp .ne 6, 3) := by decide +kernel
theorem dX7_clockNow_15 : decode cX7_clockNow 15 = .ok (.bipush (-5), 2) := by decide +kernel
theorem dX7_clockNow_17 : decode cX7_clockNow 17 = .ok (.ireturn, 1) := by decide +kernel
theorem dX7_clockNow_18 : decode cX7_clockNow 18 = .ok (.aload_n 0, 1) := by decide +kernel
theorem dX7_clockNow_19 : decode cX7_clockNow 19 = .ok (.iconst 0, 1) := by decide +kernel
theorem dX7_clockNow_20 : decode cX7_clockNow 20 = .ok (.invokevirtual 68, 3) := by decide +kernel
theorem dX7_clockNow_23 : decode cX7_clockNow 23 = .ok (.aload_n 0, 1) := by decide +kernel
theorem dX7_clockNow_24 : decode cX7_clockNow 24 = .ok (.getfield 7, 3) := by decide +kernel
theorem dX7_clockNow_27 : decode cX7_clockNow 27 = .ok (.iconst 3, 1) := by decide +kernel
theorem dX7_clockNow_28 : decode cX7_clockNow 28 = .ok (.iaload, 1) := by decide +kernel
theorem dX7_clockNow_29 : decode cX7_clockNow 29 = .ok (.ireturn, 1) := by decide +kernel
set_option maxRecDepth 20000 in
theorem ggX7_whyNotPass_X7_in : GoodIn wsX7_whyNotPass wsX7_in := goodIn_r _ [5] (by decide +kernel) (by decide +kernel)
set_option maxRecDepth 20000 in
theorem gX7_whyNotPass_X7_in : GoodIn wsX7_whyNotPass (va_wsS RX7 71 yX7_in wsX7_in) := goodIn_app (goodIn_of _ (by decide +kernel)) ggX7_whyNotPass_X7_in
theorem dX7_whyNotPass_0 : decode cX7_whyNotPass 0 = .ok (.iload_n 1, 1) := by decide +kernel
theorem dX7_whyNotPass_1 : decode cX7_whyNotPass 1 = .ok (.iconst 1, 1) := by decide +kernel
theorem dX7_whyNotPass_2 : decode cX7_whyNotPass 2 = .ok (.bipush 99, 2) := by decide +kernel
theorem dX7_whyNotPass_4 : decode cX7_whyNotPass 4 = .ok (.invokestatic 71, 3) := by decide +kernel
theorem dX7_whyNotPass_7 : decode cX7_whyNotPass 7 = .ok (.ifCond .ne 8, 3) := by decide +kernel
theorem dX7_whyNotPass_10 : decode cX7_whyNotPass 10 = .ok (.bipush (-2), 2) := by decide +kernel
theorem dX7_whyNotPass_12 : decode cX7_whyNotPass 12 = .ok (.goto 23, 3) := by decide +kernel
theorem dX7_whyNotPass_15 : decode cX7_whyNotPass 15 = .ok (.aload_n 0, 1) := by decide +kernel
theorem dX7_whyNotPass_16 : decode cX7_whyNotPass 16 = .ok (.getfield 7, 3) := by decide +kernel
theorem dX7_whyNotPass_19 : decode cX7_whyNotPass 19 = .ok (.iconst 2, 1) := by decide +kernel
theorem dX7_whyNotPass_20 : decode cX7_whyNotPass 20 = .ok (.iaload, 1) := by decide +kernel
theorem dX7_whyNotPass_21 : decode cX7_whyNotPass 21 = .ok (.iload_n 1, 1) := by decide +kernel
theorem dX7_whyNotPass_22 : decode cX7_whyNotPass 22 = .ok (.iadd, 1) := by decide +kernel
theorem dX7_whyNotPass_23 : decode cX7_whyNotPass 23 = .ok (.sipush 9999, 3) := by decide +kernel
theorem dX7_whyNotPass_26 : decode cX7_whyNotPass 26 = .ok (.if_icmp .le 8, 3) := by decide +kernel
theorem dX7_whyNotPass_29 : decode cX7_whyNotPass 29 = .ok (.bipush (-5), 2) := by decide +kernel
theorem dX7_whyNotPass_31 : decode cX7_whyNotPass 31 = .ok (.goto 4, 3) := by decide +kernel
theorem dX7_whyNotPass_34 : decode cX7_whyNotPass 34 = .ok (.iconst 0, 1) := by decide +kernel
theorem dX7_whyNotPass_35 : decode cX7_whyNotPass 35 = .ok (.ireturn, 1) := by decide +kernel
set_option maxRecDepth 20000 in
theorem ggX7_whyNotDelay_X7_stages : GoodIn wsX7_whyNotDelay wsX7_stages := goodIn_r _ [5, 6, 10, 11, 12, 13, 14, 15, 16] (by decide +kernel) (by decide +kernel)
set_option maxRecDepth 20000 in
theorem gX7_whyNotDelay_X7_stages : GoodIn wsX7_whyNotDelay (wsV RX7 34 RX7 yX7_stages wsX7_stages) := goodIn_app (goodIn_of _ (by decide +kernel)) ggX7_whyNotDelay_X7_stages
set_option maxRecDepth 20000 in
theorem ggX7_whyNotDelay_X7_in : GoodIn wsX7_whyNotDelay wsX7_in := goodIn_r _ [9] (by decide +kernel) (by decide +kernel)
set_option maxRecDepth 20000 in
theorem gX7_whyNotDelay_X7_in : GoodIn wsX7_whyNotDelay (va_wsS RX7 71 yX7_in wsX7_in) := goodIn_app (goodIn_of _ (by decide +kernel)) ggX7_whyNotDelay_X7_in
theorem dX7_whyNotDelay_0 : decode cX7_whyNotDelay 0 = .ok (.iload_n 1, 1) := by decide +kernel
theorem dX7_whyNotDelay_1 : decode cX7_whyNotDelay 1 = .ok (.iconst 0, 1) := by decide +kernel
theorem dX7_whyNotDelay_2 : decode cX7_whyNotDelay 2 = .ok (.aload_n 0, 1) := by decide +kernel
theorem dX7_whyNotDelay_3 : decode cX7_whyNotDelay 3 = .ok (.iconst 0, 1) := by decide +kernel
theorem dX7_whyNotDelay_4 : decode cX7_whyNotDelay 4 = .ok (.invokevirtual 34, 3) := by decide +kernel
theorem dX7_whyNotDelay_7 : decode cX7_whyNotDelay 7 = .ok (.iconst 1, 1) := by decide +kernel
theorem dX7_whyNotDelay_8 : decode cX7_whyNotDelay 8 = .ok (.isub, 1) := by decide +kernel
theorem dX7_whyNotDelay_9 : decode cX7_whyNotDelay 9 = .ok (.invokestatic 71, 3) := by decide +kernel
theorem dX7_whyNotDelay_12 : decode cX7_whyNotDelay 12 = .ok (.ifCond .ne 7, 3) := by decide +kernel
theorem dX7_whyNotDelay_15 : decode cX7_whyNotDelay 15 = .ok (.iconst (-1), 1) := by decide +kernel
theorem dX7_whyNotDelay_16 : decode cX7_whyNotDelay 16 = .ok (.goto 19, 3) := by decide +kernel
theorem dX7_whyNotDelay_19 : decode cX7_whyNotDelay 19 = .ok (.iload_n 2, 1) := by decide +kernel
theorem dX7_whyNotDelay_20 : decode cX7_whyNotDelay 20 = .ok (.iconst 1, 1) := by decide +kernel
theorem dX7_whyNotDelay_21 : decode cX7_whyNotDelay 21 = .ok (.bipush 20, 2) := by decide +kernel
theorem dX7_whyNotDelay_23 : decode cX7_whyNotDelay 23 = .ok (.invokestatic 71, 3) := by decide +kernel
theorem dX7_whyNotDelay_26 : decode cX7_whyNotDelay 26 = .ok (.ifCond .eq 7, 3) := by decide +kernel
theorem dX7_whyNotDelay_29 : decode cX7_whyNotDelay 29 = .ok (.iconst 0, 1) := by decide +kernel
theorem dX7_whyNotDelay_30 : decode cX7_whyNotDelay 30 = .ok (.goto 5, 3) := by decide +kernel
theorem dX7_whyNotDelay_33 : decode cX7_whyNotDelay 33 = .ok (.bipush (-2), 2) := by decide +kernel
theorem dX7_whyNotDelay_35 : decode cX7_whyNotDelay 35 = .ok (.ireturn, 1) := by decide +kernel
theorem dX7_whyNotRead_0 : decode cX7_whyNotRead 0 = .ok (.aload_n 0, 1) := by decide +kernel
theorem dX7_whyNotRead_1 : decode cX7_whyNotRead 1 = .ok (.getfield 7, 3) := by decide +kernel
theorem dX7_whyNotRead_4 : decode cX7_whyNotRead 4 = .ok (.bipush 7, 2) := by decide +kernel
theorem dX7_whyNotRead_6 : decode cX7_whyNotRead 6 = .ok (.iaload, 1) := by decide +kernel
theorem dX7_whyNotRead_7 : decode cX7_whyNotRead 7 = .ok (.aload_n 0, 1) := by decide +kernel
theorem dX7_whyNotRead_8 : decode cX7_whyNotRead 8 = .ok (.getfield 7, 3) := by decide +kernel
theorem dX7_whyNotRead_11 : decode cX7_whyNotRead 11 = .ok (.bipush 6, 2) := by decide +kernel
theorem dX7_whyNotRead_13 : decode cX7_whyNotRead 13 = .ok (.iaload, 1) := by decide +kernel
theorem dX7_whyNotRead_14 : decode cX7_whyNotRead 14 = .ok (.iadd, 1) := by decide +kernel
theorem dX7_whyNotRead_15 : decode cX7_whyNotRead 15 = .ok (.bipush 99, 2) := by decide +kernel
theorem dX7_whyNotRead_17 : decode cX7_whyNotRead 17 = .ok (.if_icmp .lt 8, 3) := by decide +kernel
theorem dX7_whyNotRead_20 : decode cX7_whyNotRead 20 = .ok (.bipush (-4), 2) := by decide +kernel
theorem dX7_whyNotRead_22 : decode cX7_whyNotRead 22 = .ok (.goto 4, 3) := by decide +kernel
theorem dX7_whyNotRead_25 : decode cX7_whyNotRead 25 = .ok (.iconst 0, 1) := by decide +kernel
theorem dX7_whyNotRead_26 : decode cX7_whyNotRead 26 = .ok (.ireturn, 1) := by decide +kernel
set_option maxRecDepth 20000 in
theorem ggX7_whyNotLatch_X7_whyNotRead : GoodIn wsX7_whyNotLatch wsX7_whyNotRead := goodIn_r _ [6, 1, 7, 8, 9, 10, 11, 12, 13] (by decide +kernel) (by decide +kernel)
set_option maxRecDepth 20000 in
theorem gX7_whyNotLatch_X7_whyNotRead : GoodIn wsX7_whyNotLatch (wsV RX7 75 RX7 yX7_whyNotRead wsX7_whyNotRead) := goodIn_app (goodIn_of _ (by decide +kernel)) ggX7_whyNotLatch_X7_whyNotRead
theorem dX7_whyNotLatch_0 : decode cX7_whyNotLatch 0 = .ok (.aload_n 0, 1) := by decide +kernel
theorem dX7_whyNotLatch_1 : decode cX7_whyNotLatch 1 = .ok (.getfield 7, 3) := by decide +kernel
theorem dX7_whyNotLatch_4 : decode cX7_whyNotLatch 4 = .ok (.bipush 6, 2) := by decide +kernel
theorem dX7_whyNotLatch_6 : decode cX7_whyNotLatch 6 = .ok (.iaload, 1) := by decide +kernel
theorem dX7_whyNotLatch_7 : decode cX7_whyNotLatch 7 = .ok (.iconst 1, 1) := by decide +kernel
theorem dX7_whyNotLatch_8 : decode cX7_whyNotLatch 8 = .ok (.if_icmp .ne 8, 3) := by decide +kernel
theorem dX7_whyNotLatch_11 : decode cX7_whyNotLatch 11 = .ok (.bipush (-5), 2) := by decide +kernel
theorem dX7_whyNotLatch_13 : decode cX7_whyNotLatch 13 = .ok (.goto 7, 3) := by decide +kernel
theorem dX7_whyNotLatch_16 : decode cX7_whyNotLatch 16 = .ok (.aload_n 0, 1) := by decide +kernel
theorem dX7_whyNotLatch_17 : decode cX7_whyNotLatch 17 = .ok (.invokevirtual 75, 3) := by decide +kernel
theorem dX7_whyNotLatch_20 : decode cX7_whyNotLatch 20 = .ok (.ireturn, 1) := by decide +kernel
set_option maxRecDepth 20000 in
theorem ggX7_set_X7_in : GoodIn wsX7_set wsX7_in := goodIn_r _ [5] (by decide +kernel) (by decide +kernel)
set_option maxRecDepth 20000 in
theorem gX7_set_X7_in : GoodIn wsX7_set (va_wsS RX7 71 yX7_in wsX7_in) := goodIn_app (goodIn_of _ (by decide +kernel)) ggX7_set_X7_in
set_option maxRecDepth 20000 in
theorem ggX7_set_X7_remembers : GoodIn wsX7_set wsX7_remembers := goodIn_r _ [9, 10, 11, 1, 16, 17, 18, 19, 20, 21, 22] (by decide +kernel) (by decide +kernel)
set_option maxRecDepth 20000 in
theorem gX7_set_X7_remembers : GoodIn wsX7_set (wsV RX7 79 RX7 yX7_remembers wsX7_remembers) := goodIn_app (goodIn_of _ (by decide +kernel)) ggX7_set_X7_remembers
set_option maxRecDepth 20000 in
theorem ggX7_set_X7_begins : GoodIn wsX7_set wsX7_begins := goodIn_r _ [15, 1, 16, 17, 18, 19, 20, 21, 22] (by decide +kernel) (by decide +kernel)
set_option maxRecDepth 20000 in
theorem gX7_set_X7_begins : GoodIn wsX7_set (wsV RX7 26 RX7 yX7_begins wsX7_begins) := goodIn_app (goodIn_of _ (by decide +kernel)) ggX7_set_X7_begins
theorem dX7_set_0 : decode cX7_set 0 = .ok (.iload_n 1, 1) := by decide +kernel
theorem dX7_set_1 : decode cX7_set 1 = .ok (.ifCond .ne 12, 3) := by decide +kernel
theorem dX7_set_4 : decode cX7_set 4 = .ok (.iload_n 2, 1) := by decide +kernel
theorem dX7_set_5 : decode cX7_set 5 = .ok (.iconst 1, 1) := by decide +kernel
theorem dX7_set_6 : decode cX7_set 6 = .ok (.iconst 5, 1) := by decide +kernel
theorem dX7_set_7 : decode cX7_set 7 = .ok (.invokestatic 71, 3) := by decide +kernel
theorem dX7_set_10 : decode cX7_set 10 = .ok (.goto 23, 3) := by decide +kernel
theorem dX7_set_13 : decode cX7_set 13 = .ok (.iload_n 1, 1) := by decide +kernel
theorem dX7_set_14 : decode cX7_set 14 = .ok (.iconst 1, 1) := by decide +kernel
theorem dX7_set_15 : decode cX7_set 15 = .ok (.if_icmp .ne 17, 3) := by decide +kernel
theorem dX7_set_18 : decode cX7_set 18 = .ok (.iload_n 2, 1) := by decide +kernel
theorem dX7_set_19 : decode cX7_set 19 = .ok (.iconst 0, 1) := by decide +kernel
theorem dX7_set_20 : decode cX7_set 20 = .ok (.bipush 20, 2) := by decide +kernel
theorem dX7_set_22 : decode cX7_set 22 = .ok (.invokestatic 71, 3) := by decide +kernel
theorem dX7_set_25 : decode cX7_set 25 = .ok (.ifCond .eq 7, 3) := by decide +kernel
theorem dX7_set_28 : decode cX7_set 28 = .ok (.iconst 1, 1) := by decide +kernel
theorem dX7_set_29 : decode cX7_set 29 = .ok (.goto 4, 3) := by decide +kernel
theorem dX7_set_32 : decode cX7_set 32 = .ok (.iconst 0, 1) := by decide +kernel
theorem dX7_set_33 : decode cX7_set 33 = .ok (.istore_n 3, 1) := by decide +kernel
theorem dX7_set_34 : decode cX7_set 34 = .ok (.iload_n 3, 1) := by decide +kernel
theorem dX7_set_35 : decode cX7_set 35 = .ok (.ifCond .ne 6, 3) := by decide +kernel
theorem dX7_set_38 : decode cX7_set 38 = .ok (.bipush (-2), 2) := by decide +kernel
theorem dX7_set_40 : decode cX7_set 40 = .ok (.ireturn, 1) := by decide +kernel
theorem dX7_set_41 : decode cX7_set 41 = .ok (.aload_n 0, 1) := by decide +kernel
theorem dX7_set_42 : decode cX7_set 42 = .ok (.invokevirtual 79, 3) := by decide +kernel
theorem dX7_set_45 : decode cX7_set 45 = .ok (.aload_n 0, 1) := by decide +kernel
theorem dX7_set_46 : decode cX7_set 46 = .ok (.getfield 7, 3) := by decide +kernel
theorem dX7_set_49 : decode cX7_set 49 = .ok (.iconst 0, 1) := by decide +kernel
theorem dX7_set_50 : decode cX7_set 50 = .ok (.iload_n 1, 1) := by decide +kernel
theorem dX7_set_51 : decode cX7_set 51 = .ok (.iadd, 1) := by decide +kernel
theorem dX7_set_52 : decode cX7_set 52 = .ok (.iaload, 1) := by decide +kernel
theorem dX7_set_53 : decode cX7_set 53 = .ok (.istore 4, 2) := by decide +kernel
theorem dX7_set_55 : decode cX7_set 55 = .ok (.aload_n 0, 1) := by decide +kernel
theorem dX7_set_56 : decode cX7_set 56 = .ok (.getfield 7, 3) := by decide +kernel
theorem dX7_set_59 : decode cX7_set 59 = .ok (.iconst 0, 1) := by decide +kernel
theorem dX7_set_60 : decode cX7_set 60 = .ok (.iload_n 1, 1) := by decide +kernel
theorem dX7_set_61 : decode cX7_set 61 = .ok (.iadd, 1) := by decide +kernel
theorem dX7_set_62 : decode cX7_set 62 = .ok (.iload_n 2, 1) := by decide +kernel
theorem dX7_set_63 : decode cX7_set 63 = .ok (.iastore, 1) := by decide +kernel
theorem dX7_set_64 : decode cX7_set 64 = .ok (.iload_n 1, 1) := by decide +kernel
theorem dX7_set_65 : decode cX7_set 65 = .ok (.ifCond .ne 8, 3) := by decide +kernel
theorem dX7_set_68 : decode cX7_set 68 = .ok (.aload_n 0, 1) := by decide +kernel
theorem dX7_set_69 : decode cX7_set 69 = .ok (.iconst 0, 1) := by decide +kernel
theorem dX7_set_70 : decode cX7_set 70 = .ok (.invokevirtual 26, 3) := by decide +kernel
theorem dX7_set_73 : decode cX7_set 73 = .ok (.iload 4, 2) := by decide +kernel
theorem dX7_set_75 : decode cX7_set 75 = .ok (.ireturn, 1) := by decide +kernel
set_option maxRecDepth 20000 in
theorem ggX7_delay_X7_whyNotDelay : GoodIn wsX7_delay wsX7_whyNotDelay := goodIn_r _ [6, 7, 8, 9, 5, 10, 1, 11, 12, 13, 20, 21, 22, 23, 24, 25, 26] (by decide +kernel) (by decide +kernel)
set_option maxRecDepth 20000 in
theorem gX7_delay_X7_whyNotDelay : GoodIn wsX7_delay (wsV RX7 82 RX7 yX7_whyNotDelay wsX7_whyNotDelay) := goodIn_app (goodIn_of _ (by decide +kernel)) ggX7_delay_X7_whyNotDelay
set_option maxRecDepth 20000 in
theorem ggX7_delay_X7_remembers : GoodIn wsX7_delay wsX7_remembers := goodIn_r _ [17, 18, 19, 1, 20, 21, 22, 23, 24, 25, 26] (by decide +kernel) (by decide +kernel)
set_option maxRecDepth 20000 in
theorem gX7_delay_X7_remembers : GoodIn wsX7_delay (wsV RX7 79 RX7 yX7_remembers wsX7_remembers) := goodIn_app (goodIn_of _ (by decide +kernel)) ggX7_delay_X7_remembers
theorem dX7_delay_0 : decode cX7_delay 0 = .ok (.aload_n 0, 1) := by decide +kernel
theorem dX7_delay_1 : decode cX7_delay 1 = .ok (.iload_n 1, 1) := by decide +kernel
theorem dX7_delay_2 : decode cX7_delay 2 = .ok (.iload_n 2, 1) := by decide +kernel
theorem dX7_delay_3 : decode cX7_delay 3 = .ok (.invokevirtual 82, 3) := by decide +kernel
theorem dX7_delay_6 : decode cX7_delay 6 = .ok (.istore_n 3, 1) := by decide +kernel
theorem dX7_delay_7 : decode cX7_delay 7 = .ok (.iload_n 3, 1) := by decide +kernel
theorem dX7_delay_8 : decode cX7_delay 8 = .ok (.ifCond .ge 5, 3) := by decide +kernel
theorem dX7_delay_11 : decode cX7_delay 11 = .ok (.iload_n 3, 1) := by decide +kernel
theorem dX7_delay_12 : decode cX7_delay 12 = .ok (.ireturn, 1) := by decide +kernel
theorem dX7_delay_13 : decode cX7_delay 13 = .ok (.aload_n 0, 1) := by decide +kernel
theorem dX7_delay_14 : decode cX7_delay 14 = .ok (.invokevirtual 79, 3) := by decide +kernel
theorem dX7_delay_17 : decode cX7_delay 17 = .ok (.aload_n 0, 1) := by decide +kernel
theorem dX7_delay_18 : decode cX7_delay 18 = .ok (.getfield 7, 3) := by decide +kernel
