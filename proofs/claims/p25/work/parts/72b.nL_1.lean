theorem dL_cell_0 : decode cL_cell 0 = .ok (.iload_n 1, 1) := by decide +kernel
theorem dL_cell_1 : decode cL_cell 1 = .ok (.aload_n 0, 1) := by decide +kernel
theorem dL_cell_2 : decode cL_cell 2 = .ok (.arraylength, 1) := by decide +kernel
theorem dL_cell_3 : decode cL_cell 3 = .ok (.if_icmp .ge 9, 3) := by decide +kernel
theorem dL_cell_6 : decode cL_cell 6 = .ok (.aload_n 0, 1) := by decide +kernel
theorem dL_cell_7 : decode cL_cell 7 = .ok (.iload_n 1, 1) := by decide +kernel
theorem dL_cell_8 : decode cL_cell 8 = .ok (.iaload, 1) := by decide +kernel
theorem dL_cell_9 : decode cL_cell 9 = .ok (.goto 15, 3) := by decide +kernel
theorem dL_cell_12 : decode cL_cell 12 = .ok (.sipush 7919, 3) := by decide +kernel
theorem dL_cell_15 : decode cL_cell 15 = .ok (.iload_n 1, 1) := by decide +kernel
theorem dL_cell_16 : decode cL_cell 16 = .ok (.iconst 3, 1) := by decide +kernel
theorem dL_cell_17 : decode cL_cell 17 = .ok (.iadd, 1) := by decide +kernel
theorem dL_cell_18 : decode cL_cell 18 = .ok (.imul, 1) := by decide +kernel
theorem dL_cell_19 : decode cL_cell 19 = .ok (.iload_n 1, 1) := by decide +kernel
theorem dL_cell_20 : decode cL_cell 20 = .ok (.bipush 11, 2) := by decide +kernel
theorem dL_cell_22 : decode cL_cell 22 = .ok (.iadd, 1) := by decide +kernel
theorem dL_cell_23 : decode cL_cell 23 = .ok (.imul, 1) := by decide +kernel
theorem dL_cell_24 : decode cL_cell 24 = .ok (.ireturn, 1) := by decide +kernel
theorem dL_low_0 : decode cL_low 0 = .ok (.iload_n 0, 1) := by decide +kernel
theorem dL_low_1 : decode cL_low 1 = .ok (.ldc 7, 2) := by decide +kernel
theorem dL_low_3 : decode cL_low 3 = .ok (.iand, 1) := by decide +kernel
theorem dL_low_4 : decode cL_low 4 = .ok (.iload_n 1, 1) := by decide +kernel
theorem dL_low_5 : decode cL_low 5 = .ok (.irem, 1) := by decide +kernel
theorem dL_low_6 : decode cL_low 6 = .ok (.ireturn, 1) := by decide +kernel
set_option maxRecDepth 20000 in
theorem ggL_isCounter_X6_count : GoodIn wsL_isCounter wsX6_count := goodIn_r _ [5, 6, 7, 8, 9, 10, 11, 12, 13, 14, 15, 16, 17, 18, 19, 20, 21, 22, 23, 24, 25, 26, 27, 28, 29, 30, 31, 32, 33, 34, 35, 36, 37, 38, 39, 40, 41, 42, 43, 44, 45, 46, 47, 48, 49, 50, 51, 52, 53, 54, 55, 119, 120, 121, 122, 123, 124, 125, 126, 127, 128, 129, 130, 131, 132, 133, 134, 135, 136, 137, 138, 139, 140, 141, 142, 143, 144, 145, 146, 147, 148, 149, 150, 151, 152, 153, 154] rfl (by decide +kernel)
set_option maxRecDepth 20000 in
theorem gL_isCounter_X6_count : GoodIn wsL_isCounter (wsV RL 8 RX6 yX6_count wsX6_count) := goodIn_app (goodIn_of _ (by decide +kernel)) ggL_isCounter_X6_count
set_option maxRecDepth 20000 in
theorem ggL_isCounter_X6_of : GoodIn wsL_isCounter wsX6_of := goodIn_r _ [59, 6, 7, 60, 61, 62, 63, 64, 65, 66, 67, 68, 69, 70, 71, 72, 73, 74, 75, 76, 77, 78, 79, 80, 81, 82, 119, 120, 121, 122, 123, 124, 125, 126, 127, 128, 129, 130, 131, 132, 133, 134, 135, 136, 137, 138, 139] rfl (by decide +kernel)
set_option maxRecDepth 20000 in
theorem gL_isCounter_X6_of : GoodIn wsL_isCounter (wsV RL 14 RX6 yX6_of wsX6_of) := goodIn_app (goodIn_of _ (by decide +kernel)) ggL_isCounter_X6_of
set_option maxRecDepth 20000 in
theorem ggL_isCounter_X6_stillIn : GoodIn wsL_isCounter wsX6_stillIn := goodIn_r _ [86, 87, 6, 7, 11, 88, 89, 90, 65, 91, 82, 67, 72, 92, 93, 94, 95, 96, 97, 98, 77, 99, 100, 101, 102, 103, 104, 105, 106, 107, 108, 109, 110, 111, 112, 113, 114, 119, 120, 121, 122, 123, 124, 125, 126, 127, 128, 129, 130, 131, 132, 133, 134, 135, 136, 137, 138, 139] rfl (by decide +kernel)
set_option maxRecDepth 20000 in
theorem gL_isCounter_X6_stillIn : GoodIn wsL_isCounter (wsV RL 18 RX6 yX6_stillIn wsX6_stillIn) := goodIn_app (goodIn_of _ (by decide +kernel)) ggL_isCounter_X6_stillIn
set_option maxRecDepth 20000 in
theorem ggL_isCounter_X6_showsIn : GoodIn wsL_isCounter wsX6_showsIn := goodIn_r _ [118, 87, 6, 7, 9, 88, 89, 90, 65, 91, 82, 67, 72, 92, 93, 94, 95, 96, 97, 98, 77, 99, 100, 101, 102, 103, 104, 105, 106, 107, 108, 109, 110, 111, 112, 113, 114, 119, 120, 121, 122, 123, 124, 125, 126, 127, 128, 129, 130, 131, 132, 133, 134, 135, 136, 137, 138, 139] rfl (by decide +kernel)
set_option maxRecDepth 20000 in
theorem gL_isCounter_X6_showsIn : GoodIn wsL_isCounter (wsV RL 22 RX6 yX6_showsIn wsX6_showsIn) := goodIn_app (goodIn_of _ (by decide +kernel)) ggL_isCounter_X6_showsIn
theorem dL_isCounter_0 : decode cL_isCounter 0 = .ok (.aload_n 0, 1) := by decide +kernel
theorem dL_isCounter_1 : decode cL_isCounter 1 = .ok (.bipush 10, 2) := by decide +kernel
theorem dL_isCounter_3 : decode cL_isCounter 3 = .ok (.invokevirtual 8, 3) := by decide +kernel
theorem dL_isCounter_6 : decode cL_isCounter 6 = .ok (.istore_n 1, 1) := by decide +kernel
theorem dL_isCounter_7 : decode cL_isCounter 7 = .ok (.iconst 0, 1) := by decide +kernel
theorem dL_isCounter_8 : decode cL_isCounter 8 = .ok (.istore_n 2, 1) := by decide +kernel
theorem dL_isCounter_9 : decode cL_isCounter 9 = .ok (.iconst 0, 1) := by decide +kernel
theorem dL_isCounter_10 : decode cL_isCounter 10 = .ok (.istore_n 3, 1) := by decide +kernel
theorem dL_isCounter_11 : decode cL_isCounter 11 = .ok (.iconst 0, 1) := by decide +kernel
theorem dL_isCounter_12 : decode cL_isCounter 12 = .ok (.istore 4, 2) := by decide +kernel
theorem dL_isCounter_14 : decode cL_isCounter 14 = .ok (.iload 4, 2) := by decide +kernel
theorem dL_isCounter_16 : decode cL_isCounter 16 = .ok (.iload_n 1, 1) := by decide +kernel
theorem dL_isCounter_17 : decode cL_isCounter 17 = .ok (.if_icmp .ge 157, 3) := by decide +kernel
theorem dL_isCounter_20 : decode cL_isCounter 20 = .ok (.aload_n 0, 1) := by decide +kernel
theorem dL_isCounter_21 : decode cL_isCounter 21 = .ok (.iload 4, 2) := by decide +kernel
theorem dL_isCounter_23 : decode cL_isCounter 23 = .ok (.iconst 1, 1) := by decide +kernel
theorem dL_isCounter_24 : decode cL_isCounter 24 = .ok (.invokevirtual 14, 3) := by decide +kernel
theorem dL_isCounter_27 : decode cL_isCounter 27 = .ok (.istore 5, 2) := by decide +kernel
theorem dL_isCounter_29 : decode cL_isCounter 29 = .ok (.aload_n 0, 1) := by decide +kernel
theorem dL_isCounter_30 : decode cL_isCounter 30 = .ok (.iload 4, 2) := by decide +kernel
theorem dL_isCounter_32 : decode cL_isCounter 32 = .ok (.iconst 3, 1) := by decide +kernel
theorem dL_isCounter_33 : decode cL_isCounter 33 = .ok (.invokevirtual 14, 3) := by decide +kernel
theorem dL_isCounter_36 : decode cL_isCounter 36 = .ok (.istore 6, 2) := by decide +kernel
theorem dL_isCounter_38 : decode cL_isCounter 38 = .ok (.iload_n 2, 1) := by decide +kernel
theorem dL_isCounter_39 : decode cL_isCounter 39 = .ok (.iload 5, 2) := by decide +kernel
theorem dL_isCounter_41 : decode cL_isCounter 41 = .ok (.iload 4, 2) := by decide +kernel
theorem dL_isCounter_43 : decode cL_isCounter 43 = .ok (.ishl, 1) := by decide +kernel
theorem dL_isCounter_44 : decode cL_isCounter 44 = .ok (.iadd, 1) := by decide +kernel
theorem dL_isCounter_45 : decode cL_isCounter 45 = .ok (.istore_n 2, 1) := by decide +kernel
theorem dL_isCounter_46 : decode cL_isCounter 46 = .ok (.iload_n 3, 1) := by decide +kernel
theorem dL_isCounter_47 : decode cL_isCounter 47 = .ok (.aload_n 0, 1) := by decide +kernel
theorem dL_isCounter_48 : decode cL_isCounter 48 = .ok (.iload 4, 2) := by decide +kernel
theorem dL_isCounter_50 : decode cL_isCounter 50 = .ok (.iconst 2, 1) := by decide +kernel
theorem dL_isCounter_51 : decode cL_isCounter 51 = .ok (.invokevirtual 14, 3) := by decide +kernel
theorem dL_isCounter_54 : decode cL_isCounter 54 = .ok (.iadd, 1) := by decide +kernel
theorem dL_isCounter_55 : decode cL_isCounter 55 = .ok (.istore_n 3, 1) := by decide +kernel
theorem dL_isCounter_56 : decode cL_isCounter 56 = .ok (.iload 5, 2) := by decide +kernel
theorem dL_isCounter_58 : decode cL_isCounter 58 = .ok (.aload_n 0, 1) := by decide +kernel
theorem dL_isCounter_59 : decode cL_isCounter 59 = .ok (.iload 4, 2) := by decide +kernel
theorem dL_isCounter_61 : decode cL_isCounter 61 = .ok (.iconst 4, 1) := by decide +kernel
theorem dL_isCounter_62 : decode cL_isCounter 62 = .ok (.invokevirtual 14, 3) := by decide +kernel
theorem dL_isCounter_65 : decode cL_isCounter 65 = .ok (.iconst 2, 1) := by decide +kernel
theorem dL_isCounter_66 : decode cL_isCounter 66 = .ok (.irem, 1) := by decide +kernel
theorem dL_isCounter_67 : decode cL_isCounter 67 = .ok (.if_icmp .ne 63, 3) := by decide +kernel
theorem dL_isCounter_70 : decode cL_isCounter 70 = .ok (.aload_n 0, 1) := by decide +kernel
theorem dL_isCounter_71 : decode cL_isCounter 71 = .ok (.iload 4, 2) := by decide +kernel
theorem dL_isCounter_73 : decode cL_isCounter 73 = .ok (.iconst 2, 1) := by decide +kernel
theorem dL_isCounter_74 : decode cL_isCounter 74 = .ok (.invokevirtual 14, 3) := by decide +kernel
theorem dL_isCounter_77 : decode cL_isCounter 77 = .ok (.ifCond .ne 7, 3) := by decide +kernel
theorem dL_isCounter_80 : decode cL_isCounter 80 = .ok (.iconst 1, 1) := by decide +kernel
theorem dL_isCounter_81 : decode cL_isCounter 81 = .ok (.goto 4, 3) := by decide +kernel
theorem dL_isCounter_84 : decode cL_isCounter 84 = .ok (.iconst 0, 1) := by decide +kernel
theorem dL_isCounter_85 : decode cL_isCounter 85 = .ok (.iload 6, 2) := by decide +kernel
theorem dL_isCounter_87 : decode cL_isCounter 87 = .ok (.bipush (-6), 2) := by decide +kernel
theorem dL_isCounter_89 : decode cL_isCounter 89 = .ok (.if_icmp .ne 7, 3) := by decide +kernel
theorem dL_isCounter_92 : decode cL_isCounter 92 = .ok (.iconst 1, 1) := by decide +kernel
theorem dL_isCounter_93 : decode cL_isCounter 93 = .ok (.goto 4, 3) := by decide +kernel
theorem dL_isCounter_96 : decode cL_isCounter 96 = .ok (.iconst 0, 1) := by decide +kernel
theorem dL_isCounter_97 : decode cL_isCounter 97 = .ok (.if_icmp .ne 33, 3) := by decide +kernel
theorem dL_isCounter_100 : decode cL_isCounter 100 = .ok (.iload 6, 2) := by decide +kernel
theorem dL_isCounter_102 : decode cL_isCounter 102 = .ok (.bipush 20, 2) := by decide +kernel
theorem dL_isCounter_104 : decode cL_isCounter 104 = .ok (.if_icmp .gt 26, 3) := by decide +kernel
theorem dL_isCounter_107 : decode cL_isCounter 107 = .ok (.aload_n 0, 1) := by decide +kernel
theorem dL_isCounter_108 : decode cL_isCounter 108 = .ok (.iload 4, 2) := by decide +kernel
theorem dL_isCounter_110 : decode cL_isCounter 110 = .ok (.iconst 0, 1) := by decide +kernel
theorem dL_isCounter_111 : decode cL_isCounter 111 = .ok (.invokevirtual 14, 3) := by decide +kernel
theorem dL_isCounter_114 : decode cL_isCounter 114 = .ok (.iconst 1, 1) := by decide +kernel
theorem dL_isCounter_115 : decode cL_isCounter 115 = .ok (.if_icmp .lt 15, 3) := by decide +kernel
theorem dL_isCounter_118 : decode cL_isCounter 118 = .ok (.aload_n 0, 1) := by decide +kernel
theorem dL_isCounter_119 : decode cL_isCounter 119 = .ok (.iload 4, 2) := by decide +kernel
theorem dL_isCounter_121 : decode cL_isCounter 121 = .ok (.iconst 0, 1) := by decide +kernel
theorem dL_isCounter_122 : decode cL_isCounter 122 = .ok (.invokevirtual 14, 3) := by decide +kernel
theorem dL_isCounter_125 : decode cL_isCounter 125 = .ok (.bipush 20, 2) := by decide +kernel
theorem dL_isCounter_127 : decode cL_isCounter 127 = .ok (.if_icmp .le 5, 3) := by decide +kernel
theorem dL_isCounter_130 : decode cL_isCounter 130 = .ok (.iconst 0, 1) := by decide +kernel
theorem dL_isCounter_131 : decode cL_isCounter 131 = .ok (.ireturn, 1) := by decide +kernel
theorem dL_isCounter_132 : decode cL_isCounter 132 = .ok (.iload 4, 2) := by decide +kernel
theorem dL_isCounter_134 : decode cL_isCounter 134 = .ok (.ifCond .le 34, 3) := by decide +kernel
theorem dL_isCounter_137 : decode cL_isCounter 137 = .ok (.aload_n 0, 1) := by decide +kernel
theorem dL_isCounter_138 : decode cL_isCounter 138 = .ok (.iload 4, 2) := by decide +kernel
theorem dL_isCounter_140 : decode cL_isCounter 140 = .ok (.iconst 4, 1) := by decide +kernel
theorem dL_isCounter_141 : decode cL_isCounter 141 = .ok (.invokevirtual 14, 3) := by decide +kernel
theorem dL_isCounter_144 : decode cL_isCounter 144 = .ok (.aload_n 0, 1) := by decide +kernel
theorem dL_isCounter_145 : decode cL_isCounter 145 = .ok (.iload 4, 2) := by decide +kernel
theorem dL_isCounter_147 : decode cL_isCounter 147 = .ok (.iconst 2, 1) := by decide +kernel
theorem dL_isCounter_148 : decode cL_isCounter 148 = .ok (.invokevirtual 14, 3) := by decide +kernel
theorem dL_isCounter_151 : decode cL_isCounter 151 = .ok (.iadd, 1) := by decide +kernel
theorem dL_isCounter_152 : decode cL_isCounter 152 = .ok (.aload_n 0, 1) := by decide +kernel
theorem dL_isCounter_153 : decode cL_isCounter 153 = .ok (.iload 4, 2) := by decide +kernel
theorem dL_isCounter_155 : decode cL_isCounter 155 = .ok (.iconst 1, 1) := by decide +kernel
theorem dL_isCounter_156 : decode cL_isCounter 156 = .ok (.isub, 1) := by decide +kernel
theorem dL_isCounter_157 : decode cL_isCounter 157 = .ok (.iconst 4, 1) := by decide +kernel
theorem dL_isCounter_158 : decode cL_isCounter 158 = .ok (.invokevirtual 14, 3) := by decide +kernel
theorem dL_isCounter_161 : decode cL_isCounter 161 = .ok (.iconst 2, 1) := by decide +kernel
theorem dL_isCounter_162 : decode cL_isCounter 162 = .ok (.idiv, 1) := by decide +kernel
theorem dL_isCounter_163 : decode cL_isCounter 163 = .ok (.if_icmp .eq 5, 3) := by decide +kernel
theorem dL_isCounter_166 : decode cL_isCounter 166 = .ok (.iconst 0, 1) := by decide +kernel
theorem dL_isCounter_167 : decode cL_isCounter 167 = .ok (.ireturn, 1) := by decide +kernel
theorem dL_isCounter_168 : decode cL_isCounter 168 = .ok (.iinc 4 1, 3) := by decide +kernel
theorem dL_isCounter_171 : decode cL_isCounter 171 = .ok (.goto (-157), 3) := by decide +kernel
theorem dL_isCounter_174 : decode cL_isCounter 174 = .ok (.aload_n 0, 1) := by decide +kernel
theorem dL_isCounter_175 : decode cL_isCounter 175 = .ok (.iconst 0, 1) := by decide +kernel
theorem dL_isCounter_176 : decode cL_isCounter 176 = .ok (.iconst 4, 1) := by decide +kernel
theorem dL_isCounter_177 : decode cL_isCounter 177 = .ok (.invokevirtual 14, 3) := by decide +kernel
theorem dL_isCounter_180 : decode cL_isCounter 180 = .ok (.aload_n 0, 1) := by decide +kernel
theorem dL_isCounter_181 : decode cL_isCounter 181 = .ok (.iconst 0, 1) := by decide +kernel
theorem dL_isCounter_182 : decode cL_isCounter 182 = .ok (.iconst 2, 1) := by decide +kernel
theorem dL_isCounter_183 : decode cL_isCounter 183 = .ok (.invokevirtual 14, 3) := by decide +kernel
theorem dL_isCounter_186 : decode cL_isCounter 186 = .ok (.iadd, 1) := by decide +kernel
theorem dL_isCounter_187 : decode cL_isCounter 187 = .ok (.istore 4, 2) := by decide +kernel
theorem dL_isCounter_189 : decode cL_isCounter 189 = .ok (.iload_n 3, 1) := by decide +kernel
theorem dL_isCounter_190 : decode cL_isCounter 190 = .ok (.ifCond .ne 7, 3) := by decide +kernel
theorem dL_isCounter_193 : decode cL_isCounter 193 = .ok (.iconst 1, 1) := by decide +kernel
theorem dL_isCounter_194 : decode cL_isCounter 194 = .ok (.goto 4, 3) := by decide +kernel
theorem dL_isCounter_197 : decode cL_isCounter 197 = .ok (.iconst 0, 1) := by decide +kernel
theorem dL_isCounter_198 : decode cL_isCounter 198 = .ok (.istore 5, 2) := by decide +kernel
theorem dL_isCounter_200 : decode cL_isCounter 200 = .ok (.aload_n 0, 1) := by decide +kernel
theorem dL_isCounter_201 : decode cL_isCounter 201 = .ok (.iconst 1, 1) := by decide +kernel
theorem dL_isCounter_202 : decode cL_isCounter 202 = .ok (.invokevirtual 8, 3) := by decide +kernel
theorem dL_isCounter_205 : decode cL_isCounter 205 = .ok (.iload_n 2, 1) := by decide +kernel
theorem dL_isCounter_206 : decode cL_isCounter 206 = .ok (.if_icmp .ne 80, 3) := by decide +kernel
theorem dL_isCounter_209 : decode cL_isCounter 209 = .ok (.aload_n 0, 1) := by decide +kernel
theorem dL_isCounter_210 : decode cL_isCounter 210 = .ok (.iconst 3, 1) := by decide +kernel
theorem dL_isCounter_211 : decode cL_isCounter 211 = .ok (.invokevirtual 8, 3) := by decide +kernel
theorem dL_isCounter_214 : decode cL_isCounter 214 = .ok (.iload_n 3, 1) := by decide +kernel
theorem dL_isCounter_215 : decode cL_isCounter 215 = .ok (.if_icmp .ne 71, 3) := by decide +kernel
theorem dL_isCounter_218 : decode cL_isCounter 218 = .ok (.aload_n 0, 1) := by decide +kernel
theorem dL_isCounter_219 : decode cL_isCounter 219 = .ok (.iconst 2, 1) := by decide +kernel
theorem dL_isCounter_220 : decode cL_isCounter 220 = .ok (.invokevirtual 8, 3) := by decide +kernel
theorem dL_isCounter_223 : decode cL_isCounter 223 = .ok (.iload 4, 2) := by decide +kernel
theorem dL_isCounter_225 : decode cL_isCounter 225 = .ok (.iconst 1, 1) := by decide +kernel
theorem dL_isCounter_226 : decode cL_isCounter 226 = .ok (.iload_n 1, 1) := by decide +kernel
theorem dL_isCounter_227 : decode cL_isCounter 227 = .ok (.ishl, 1) := by decide +kernel
theorem dL_isCounter_228 : decode cL_isCounter 228 = .ok (.irem, 1) := by decide +kernel
theorem dL_isCounter_229 : decode cL_isCounter 229 = .ok (.if_icmp .ne 57, 3) := by decide +kernel
theorem dL_isCounter_232 : decode cL_isCounter 232 = .ok (.iload 5, 2) := by decide +kernel
theorem dL_isCounter_234 : decode cL_isCounter 234 = .ok (.ifCond .eq 12, 3) := by decide +kernel
theorem dL_isCounter_237 : decode cL_isCounter 237 = .ok (.iload_n 2, 1) := by decide +kernel
theorem dL_isCounter_238 : decode cL_isCounter 238 = .ok (.aload_n 0, 1) := by decide +kernel
theorem dL_isCounter_239 : decode cL_isCounter 239 = .ok (.iconst 2, 1) := by decide +kernel
theorem dL_isCounter_240 : decode cL_isCounter 240 = .ok (.invokevirtual 8, 3) := by decide +kernel
theorem dL_isCounter_243 : decode cL_isCounter 243 = .ok (.if_icmp .ne 43, 3) := by decide +kernel
theorem dL_isCounter_246 : decode cL_isCounter 246 = .ok (.aload_n 0, 1) := by decide +kernel
theorem dL_isCounter_247 : decode cL_isCounter 247 = .ok (.iload_n 1, 1) := by decide +kernel
theorem dL_isCounter_248 : decode cL_isCounter 248 = .ok (.iconst 0, 1) := by decide +kernel
theorem dL_isCounter_249 : decode cL_isCounter 249 = .ok (.invokevirtual 14, 3) := by decide +kernel
theorem dL_isCounter_252 : decode cL_isCounter 252 = .ok (.iconst (-1), 1) := by decide +kernel
theorem dL_isCounter_253 : decode cL_isCounter 253 = .ok (.if_icmp .ne 33, 3) := by decide +kernel
theorem dL_isCounter_256 : decode cL_isCounter 256 = .ok (.aload_n 0, 1) := by decide +kernel
theorem dL_isCounter_257 : decode cL_isCounter 257 = .ok (.invokevirtual 18, 3) := by decide +kernel
theorem dL_isCounter_260 : decode cL_isCounter 260 = .ok (.ifCond .ne 7, 3) := by decide +kernel
theorem dL_isCounter_263 : decode cL_isCounter 263 = .ok (.iconst 1, 1) := by decide +kernel
theorem dL_isCounter_264 : decode cL_isCounter 264 = .ok (.goto 4, 3) := by decide +kernel
theorem dL_isCounter_267 : decode cL_isCounter 267 = .ok (.iconst 0, 1) := by decide +kernel
theorem dL_isCounter_268 : decode cL_isCounter 268 = .ok (.iload 5, 2) := by decide +kernel
theorem dL_isCounter_270 : decode cL_isCounter 270 = .ok (.if_icmp .ne 16, 3) := by decide +kernel
theorem dL_isCounter_273 : decode cL_isCounter 273 = .ok (.aload_n 0, 1) := by decide +kernel
theorem dL_isCounter_274 : decode cL_isCounter 274 = .ok (.iconst 0, 1) := by decide +kernel
theorem dL_isCounter_275 : decode cL_isCounter 275 = .ok (.invokevirtual 22, 3) := by decide +kernel
theorem dL_isCounter_278 : decode cL_isCounter 278 = .ok (.iload_n 2, 1) := by decide +kernel
theorem dL_isCounter_279 : decode cL_isCounter 279 = .ok (.if_icmp .ne 7, 3) := by decide +kernel
theorem dL_isCounter_282 : decode cL_isCounter 282 = .ok (.iconst 1, 1) := by decide +kernel
theorem dL_isCounter_283 : decode cL_isCounter 283 = .ok (.goto 4, 3) := by decide +kernel
theorem dL_isCounter_286 : decode cL_isCounter 286 = .ok (.iconst 0, 1) := by decide +kernel
theorem dL_isCounter_287 : decode cL_isCounter 287 = .ok (.ireturn, 1) := by decide +kernel
set_option maxRecDepth 20000 in
theorem ggL_areSeen_X6_seen : GoodIn wsL_areSeen wsX6_seen := goodIn_r _ [5, 6, 7, 8, 9, 10, 11, 12, 13, 14, 15, 16, 17, 77, 78, 79, 80, 81, 82, 83, 84, 85, 86, 87, 88, 89, 90, 91, 92, 93, 94, 95] rfl (by decide +kernel)
set_option maxRecDepth 20000 in
theorem gL_areSeen_X6_seen : GoodIn wsL_areSeen (wsV RL 25 RX6 yX6_seen wsX6_seen) := goodIn_app (goodIn_of _ (by decide +kernel)) ggL_areSeen_X6_seen
set_option maxRecDepth 20000 in
theorem ggL_areSeen_X6_count : GoodIn wsL_areSeen wsX6_count := goodIn_r _ [21, 6, 22, 23, 24, 25, 26, 27, 28, 7, 29, 30, 31, 32, 33, 34, 35, 36, 37, 38, 39, 40, 41, 42, 43, 44, 45, 46, 47, 48, 49, 50, 11, 51, 15, 52, 53, 54, 55, 56, 57, 58, 16, 59, 60, 61, 62, 63, 64, 65, 66, 77, 78, 79, 80, 81, 82, 83, 84, 85, 86, 87, 88, 89, 90, 96, 97, 98, 99, 100, 101, 102, 103, 104, 105, 106, 107, 108, 109, 110, 111, 112, 91, 92, 93, 94, 95] rfl (by decide +kernel)
set_option maxRecDepth 20000 in
theorem gL_areSeen_X6_count : GoodIn wsL_areSeen (wsV RL 8 RX6 yX6_count wsX6_count) := goodIn_app (goodIn_of _ (by decide +kernel)) ggL_areSeen_X6_count
set_option maxRecDepth 20000 in
theorem ggL_areSeen_X6_reading : GoodIn wsL_areSeen wsX6_reading := goodIn_r _ [70, 6, 27, 71, 72, 73, 39, 74, 41, 46, 75, 47, 76, 42, 43, 44, 45, 77, 78, 79, 80, 81, 82, 83, 84, 85, 86, 87, 88, 89, 90, 103, 104, 105, 106, 107] rfl (by decide +kernel)
set_option maxRecDepth 20000 in
theorem gL_areSeen_X6_reading : GoodIn wsL_areSeen (wsV RL 28 RX6 yX6_reading wsX6_reading) := goodIn_app (goodIn_of _ (by decide +kernel)) ggL_areSeen_X6_reading
theorem dL_areSeen_0 : decode cL_areSeen 0 = .ok (.iconst 0, 1) := by decide +kernel
theorem dL_areSeen_1 : decode cL_areSeen 1 = .ok (.istore_n 1, 1) := by decide +kernel
theorem dL_areSeen_2 : decode cL_areSeen 2 = .ok (.iconst 0, 1) := by decide +kernel
theorem dL_areSeen_3 : decode cL_areSeen 3 = .ok (.istore_n 2, 1) := by decide +kernel
theorem dL_areSeen_4 : decode cL_areSeen 4 = .ok (.iconst (-1), 1) := by decide +kernel
theorem dL_areSeen_5 : decode cL_areSeen 5 = .ok (.istore_n 3, 1) := by decide +kernel
theorem dL_areSeen_6 : decode cL_areSeen 6 = .ok (.iconst 0, 1) := by decide +kernel
theorem dL_areSeen_7 : decode cL_areSeen 7 = .ok (.istore 4, 2) := by decide +kernel
theorem dL_areSeen_9 : decode cL_areSeen 9 = .ok (.iconst 0, 1) := by decide +kernel
theorem dL_areSeen_10 : decode cL_areSeen 10 = .ok (.istore 5, 2) := by decide +kernel
theorem dL_areSeen_12 : decode cL_areSeen 12 = .ok (.iload 5, 2) := by decide +kernel
theorem dL_areSeen_14 : decode cL_areSeen 14 = .ok (.bipush 33, 2) := by decide +kernel
theorem dL_areSeen_16 : decode cL_areSeen 16 = .ok (.if_icmp .ge 139, 3) := by decide +kernel
theorem dL_areSeen_19 : decode cL_areSeen 19 = .ok (.aload_n 0, 1) := by decide +kernel
theorem dL_areSeen_20 : decode cL_areSeen 20 = .ok (.iload 5, 2) := by decide +kernel
theorem dL_areSeen_22 : decode cL_areSeen 22 = .ok (.iconst 0, 1) := by decide +kernel
theorem dL_areSeen_23 : decode cL_areSeen 23 = .ok (.invokevirtual 25, 3) := by decide +kernel
theorem dL_areSeen_26 : decode cL_areSeen 26 = .ok (.istore 6, 2) := by decide +kernel
theorem dL_areSeen_28 : decode cL_areSeen 28 = .ok (.iload 6, 2) := by decide +kernel
theorem dL_areSeen_30 : decode cL_areSeen 30 = .ok (.ifCond .ge 6, 3) := by decide +kernel
theorem dL_areSeen_33 : decode cL_areSeen 33 = .ok (.goto 122, 3) := by decide +kernel
theorem dL_areSeen_36 : decode cL_areSeen 36 = .ok (.iinc 4 1, 3) := by decide +kernel
theorem dL_areSeen_39 : decode cL_areSeen 39 = .ok (.iload_n 1, 1) := by decide +kernel
theorem dL_areSeen_40 : decode cL_areSeen 40 = .ok (.iload 6, 2) := by decide +kernel
theorem dL_areSeen_42 : decode cL_areSeen 42 = .ok (.ishr, 1) := by decide +kernel
theorem dL_areSeen_43 : decode cL_areSeen 43 = .ok (.iconst 1, 1) := by decide +kernel
theorem dL_areSeen_44 : decode cL_areSeen 44 = .ok (.iand, 1) := by decide +kernel
theorem dL_areSeen_45 : decode cL_areSeen 45 = .ok (.iconst 1, 1) := by decide +kernel
theorem dL_areSeen_46 : decode cL_areSeen 46 = .ok (.if_icmp .eq 65, 3) := by decide +kernel
theorem dL_areSeen_49 : decode cL_areSeen 49 = .ok (.iload 6, 2) := by decide +kernel
theorem dL_areSeen_51 : decode cL_areSeen 51 = .ok (.iconst 1, 1) := by decide +kernel
theorem dL_areSeen_52 : decode cL_areSeen 52 = .ok (.aload_n 0, 1) := by decide +kernel
theorem dL_areSeen_53 : decode cL_areSeen 53 = .ok (.bipush 10, 2) := by decide +kernel
theorem dL_areSeen_55 : decode cL_areSeen 55 = .ok (.invokevirtual 8, 3) := by decide +kernel
theorem dL_areSeen_58 : decode cL_areSeen 58 = .ok (.ishl, 1) := by decide +kernel
theorem dL_areSeen_59 : decode cL_areSeen 59 = .ok (.if_icmp .ge 52, 3) := by decide +kernel
theorem dL_areSeen_62 : decode cL_areSeen 62 = .ok (.aload_n 0, 1) := by decide +kernel
theorem dL_areSeen_63 : decode cL_areSeen 63 = .ok (.iload 5, 2) := by decide +kernel
theorem dL_areSeen_65 : decode cL_areSeen 65 = .ok (.iconst 1, 1) := by decide +kernel
theorem dL_areSeen_66 : decode cL_areSeen 66 = .ok (.invokevirtual 25, 3) := by decide +kernel
theorem dL_areSeen_69 : decode cL_areSeen 69 = .ok (.iconst 1, 1) := by decide +kernel
theorem dL_areSeen_70 : decode cL_areSeen 70 = .ok (.if_icmp .lt 41, 3) := by decide +kernel
theorem dL_areSeen_73 : decode cL_areSeen 73 = .ok (.aload_n 0, 1) := by decide +kernel
theorem dL_areSeen_74 : decode cL_areSeen 74 = .ok (.iload 5, 2) := by decide +kernel
theorem dL_areSeen_76 : decode cL_areSeen 76 = .ok (.iconst 2, 1) := by decide +kernel
theorem dL_areSeen_77 : decode cL_areSeen 77 = .ok (.invokevirtual 25, 3) := by decide +kernel
theorem dL_areSeen_80 : decode cL_areSeen 80 = .ok (.aload_n 0, 1) := by decide +kernel
theorem dL_areSeen_81 : decode cL_areSeen 81 = .ok (.iload 5, 2) := by decide +kernel
theorem dL_areSeen_83 : decode cL_areSeen 83 = .ok (.iconst 1, 1) := by decide +kernel
theorem dL_areSeen_84 : decode cL_areSeen 84 = .ok (.invokevirtual 25, 3) := by decide +kernel
theorem dL_areSeen_87 : decode cL_areSeen 87 = .ok (.if_icmp .gt 24, 3) := by decide +kernel
theorem dL_areSeen_90 : decode cL_areSeen 90 = .ok (.aload_n 0, 1) := by decide +kernel
theorem dL_areSeen_91 : decode cL_areSeen 91 = .ok (.iload 5, 2) := by decide +kernel
theorem dL_areSeen_93 : decode cL_areSeen 93 = .ok (.iconst 2, 1) := by decide +kernel
theorem dL_areSeen_94 : decode cL_areSeen 94 = .ok (.invokevirtual 25, 3) := by decide +kernel
theorem dL_areSeen_97 : decode cL_areSeen 97 = .ok (.ifCond .lt 14, 3) := by decide +kernel
theorem dL_areSeen_100 : decode cL_areSeen 100 = .ok (.aload_n 0, 1) := by decide +kernel
theorem dL_areSeen_101 : decode cL_areSeen 101 = .ok (.iload 5, 2) := by decide +kernel
theorem dL_areSeen_103 : decode cL_areSeen 103 = .ok (.iconst 3, 1) := by decide +kernel
theorem dL_areSeen_104 : decode cL_areSeen 104 = .ok (.invokevirtual 25, 3) := by decide +kernel
theorem dL_areSeen_107 : decode cL_areSeen 107 = .ok (.iload_n 3, 1) := by decide +kernel
theorem dL_areSeen_108 : decode cL_areSeen 108 = .ok (.if_icmp .gt 5, 3) := by decide +kernel
theorem dL_areSeen_111 : decode cL_areSeen 111 = .ok (.iconst 0, 1) := by decide +kernel
theorem dL_areSeen_112 : decode cL_areSeen 112 = .ok (.ireturn, 1) := by decide +kernel
theorem dL_areSeen_113 : decode cL_areSeen 113 = .ok (.iload_n 1, 1) := by decide +kernel
theorem dL_areSeen_114 : decode cL_areSeen 114 = .ok (.iconst 1, 1) := by decide +kernel
theorem dL_areSeen_115 : decode cL_areSeen 115 = .ok (.iload 6, 2) := by decide +kernel
theorem dL_areSeen_117 : decode cL_areSeen 117 = .ok (.ishl, 1) := by decide +kernel
theorem dL_areSeen_118 : decode cL_areSeen 118 = .ok (.ior, 1) := by decide +kernel
theorem dL_areSeen_119 : decode cL_areSeen 119 = .ok (.istore_n 1, 1) := by decide +kernel
theorem dL_areSeen_120 : decode cL_areSeen 120 = .ok (.iload_n 2, 1) := by decide +kernel
theorem dL_areSeen_121 : decode cL_areSeen 121 = .ok (.aload_n 0, 1) := by decide +kernel
theorem dL_areSeen_122 : decode cL_areSeen 122 = .ok (.iload 5, 2) := by decide +kernel
theorem dL_areSeen_124 : decode cL_areSeen 124 = .ok (.iconst 2, 1) := by decide +kernel
theorem dL_areSeen_125 : decode cL_areSeen 125 = .ok (.invokevirtual 25, 3) := by decide +kernel
theorem dL_areSeen_128 : decode cL_areSeen 128 = .ok (.ifCond .le 10, 3) := by decide +kernel
theorem dL_areSeen_131 : decode cL_areSeen 131 = .ok (.iconst 1, 1) := by decide +kernel
theorem dL_areSeen_132 : decode cL_areSeen 132 = .ok (.iload 6, 2) := by decide +kernel
theorem dL_areSeen_134 : decode cL_areSeen 134 = .ok (.ishl, 1) := by decide +kernel
theorem dL_areSeen_135 : decode cL_areSeen 135 = .ok (.goto 4, 3) := by decide +kernel
theorem dL_areSeen_138 : decode cL_areSeen 138 = .ok (.iconst 0, 1) := by decide +kernel
theorem dL_areSeen_139 : decode cL_areSeen 139 = .ok (.ior, 1) := by decide +kernel
theorem dL_areSeen_140 : decode cL_areSeen 140 = .ok (.istore_n 2, 1) := by decide +kernel
theorem dL_areSeen_141 : decode cL_areSeen 141 = .ok (.aload_n 0, 1) := by decide +kernel
theorem dL_areSeen_142 : decode cL_areSeen 142 = .ok (.iload 5, 2) := by decide +kernel
theorem dL_areSeen_144 : decode cL_areSeen 144 = .ok (.iconst 3, 1) := by decide +kernel
theorem dL_areSeen_145 : decode cL_areSeen 145 = .ok (.invokevirtual 25, 3) := by decide +kernel
theorem dL_areSeen_148 : decode cL_areSeen 148 = .ok (.istore_n 3, 1) := by decide +kernel
theorem dL_areSeen_149 : decode cL_areSeen 149 = .ok (.iinc 5 1, 3) := by decide +kernel
theorem dL_areSeen_152 : decode cL_areSeen 152 = .ok (.goto (-140), 3) := by decide +kernel
theorem dL_areSeen_155 : decode cL_areSeen 155 = .ok (.iconst 0, 1) := by decide +kernel
theorem dL_areSeen_156 : decode cL_areSeen 156 = .ok (.istore 5, 2) := by decide +kernel
theorem dL_areSeen_158 : decode cL_areSeen 158 = .ok (.iconst 0, 1) := by decide +kernel
theorem dL_areSeen_159 : decode cL_areSeen 159 = .ok (.istore 6, 2) := by decide +kernel
theorem dL_areSeen_161 : decode cL_areSeen 161 = .ok (.iload 6, 2) := by decide +kernel
theorem dL_areSeen_163 : decode cL_areSeen 163 = .ok (.aload_n 0, 1) := by decide +kernel
theorem dL_areSeen_164 : decode cL_areSeen 164 = .ok (.iconst 4, 1) := by decide +kernel
theorem dL_areSeen_165 : decode cL_areSeen 165 = .ok (.invokevirtual 8, 3) := by decide +kernel
theorem dL_areSeen_168 : decode cL_areSeen 168 = .ok (.if_icmp .ge 106, 3) := by decide +kernel
theorem dL_areSeen_171 : decode cL_areSeen 171 = .ok (.iload 6, 2) := by decide +kernel
theorem dL_areSeen_173 : decode cL_areSeen 173 = .ok (.bipush 99, 2) := by decide +kernel
theorem dL_areSeen_175 : decode cL_areSeen 175 = .ok (.if_icmp .ge 99, 3) := by decide +kernel
theorem dL_areSeen_178 : decode cL_areSeen 178 = .ok (.aload_n 0, 1) := by decide +kernel
theorem dL_areSeen_179 : decode cL_areSeen 179 = .ok (.iload 6, 2) := by decide +kernel
theorem dL_areSeen_181 : decode cL_areSeen 181 = .ok (.iconst 4, 1) := by decide +kernel
theorem dL_areSeen_182 : decode cL_areSeen 182 = .ok (.invokevirtual 28, 3) := by decide +kernel
theorem dL_areSeen_185 : decode cL_areSeen 185 = .ok (.istore 7, 2) := by decide +kernel
theorem dL_areSeen_187 : decode cL_areSeen 187 = .ok (.iload 5, 2) := by decide +kernel
theorem dL_areSeen_189 : decode cL_areSeen 189 = .ok (.iload 7, 2) := by decide +kernel
theorem dL_areSeen_191 : decode cL_areSeen 191 = .ok (.iadd, 1) := by decide +kernel
theorem dL_areSeen_192 : decode cL_areSeen 192 = .ok (.istore 5, 2) := by decide +kernel
theorem dL_areSeen_194 : decode cL_areSeen 194 = .ok (.iload 7, 2) := by decide +kernel
theorem dL_areSeen_196 : decode cL_areSeen 196 = .ok (.aload_n 0, 1) := by decide +kernel
theorem dL_areSeen_197 : decode cL_areSeen 197 = .ok (.iload 6, 2) := by decide +kernel
theorem dL_areSeen_199 : decode cL_areSeen 199 = .ok (.iconst 0, 1) := by decide +kernel
theorem dL_areSeen_200 : decode cL_areSeen 200 = .ok (.invokevirtual 28, 3) := by decide +kernel
theorem dL_areSeen_203 : decode cL_areSeen 203 = .ok (.aload_n 0, 1) := by decide +kernel
theorem dL_areSeen_204 : decode cL_areSeen 204 = .ok (.iload 6, 2) := by decide +kernel
theorem dL_areSeen_206 : decode cL_areSeen 206 = .ok (.iconst 2, 1) := by decide +kernel
theorem dL_areSeen_207 : decode cL_areSeen 207 = .ok (.invokevirtual 28, 3) := by decide +kernel
theorem dL_areSeen_210 : decode cL_areSeen 210 = .ok (.if_icmp .ne 7, 3) := by decide +kernel
theorem dL_areSeen_213 : decode cL_areSeen 213 = .ok (.iconst 1, 1) := by decide +kernel
theorem dL_areSeen_214 : decode cL_areSeen 214 = .ok (.goto 4, 3) := by decide +kernel
theorem dL_areSeen_217 : decode cL_areSeen 217 = .ok (.iconst 0, 1) := by decide +kernel
theorem dL_areSeen_218 : decode cL_areSeen 218 = .ok (.if_icmp .ne 48, 3) := by decide +kernel
theorem dL_areSeen_221 : decode cL_areSeen 221 = .ok (.iload 6, 2) := by decide +kernel
theorem dL_areSeen_223 : decode cL_areSeen 223 = .ok (.ifCond .le 22, 3) := by decide +kernel
theorem dL_areSeen_226 : decode cL_areSeen 226 = .ok (.aload_n 0, 1) := by decide +kernel
theorem dL_areSeen_227 : decode cL_areSeen 227 = .ok (.iload 6, 2) := by decide +kernel
theorem dL_areSeen_229 : decode cL_areSeen 229 = .ok (.iconst 1, 1) := by decide +kernel
theorem dL_areSeen_230 : decode cL_areSeen 230 = .ok (.invokevirtual 28, 3) := by decide +kernel
theorem dL_areSeen_233 : decode cL_areSeen 233 = .ok (.aload_n 0, 1) := by decide +kernel
theorem dL_areSeen_234 : decode cL_areSeen 234 = .ok (.iload 6, 2) := by decide +kernel
theorem dL_areSeen_236 : decode cL_areSeen 236 = .ok (.iconst 1, 1) := by decide +kernel
theorem dL_areSeen_237 : decode cL_areSeen 237 = .ok (.isub, 1) := by decide +kernel
theorem dL_areSeen_238 : decode cL_areSeen 238 = .ok (.iconst 1, 1) := by decide +kernel
theorem dL_areSeen_239 : decode cL_areSeen 239 = .ok (.invokevirtual 28, 3) := by decide +kernel
theorem dL_areSeen_242 : decode cL_areSeen 242 = .ok (.if_icmp .lt 24, 3) := by decide +kernel
theorem dL_areSeen_245 : decode cL_areSeen 245 = .ok (.aload_n 0, 1) := by decide +kernel
theorem dL_areSeen_246 : decode cL_areSeen 246 = .ok (.iload 6, 2) := by decide +kernel
theorem dL_areSeen_248 : decode cL_areSeen 248 = .ok (.iconst 3, 1) := by decide +kernel
theorem dL_areSeen_249 : decode cL_areSeen 249 = .ok (.invokevirtual 28, 3) := by decide +kernel
theorem dL_areSeen_252 : decode cL_areSeen 252 = .ok (.ifCond .lt 14, 3) := by decide +kernel
theorem dL_areSeen_255 : decode cL_areSeen 255 = .ok (.aload_n 0, 1) := by decide +kernel
theorem dL_areSeen_256 : decode cL_areSeen 256 = .ok (.iload 6, 2) := by decide +kernel
theorem dL_areSeen_258 : decode cL_areSeen 258 = .ok (.iconst 3, 1) := by decide +kernel
theorem dL_areSeen_259 : decode cL_areSeen 259 = .ok (.invokevirtual 28, 3) := by decide +kernel
theorem dL_areSeen_262 : decode cL_areSeen 262 = .ok (.iconst 1, 1) := by decide +kernel
theorem dL_areSeen_263 : decode cL_areSeen 263 = .ok (.if_icmp .le 5, 3) := by decide +kernel
theorem dL_areSeen_266 : decode cL_areSeen 266 = .ok (.iconst 0, 1) := by decide +kernel
theorem dL_areSeen_267 : decode cL_areSeen 267 = .ok (.ireturn, 1) := by decide +kernel
theorem dL_areSeen_268 : decode cL_areSeen 268 = .ok (.iinc 6 1, 3) := by decide +kernel
theorem dL_areSeen_271 : decode cL_areSeen 271 = .ok (.goto (-110), 3) := by decide +kernel
theorem dL_areSeen_274 : decode cL_areSeen 274 = .ok (.aload_n 0, 1) := by decide +kernel
theorem dL_areSeen_275 : decode cL_areSeen 275 = .ok (.bipush 6, 2) := by decide +kernel
theorem dL_areSeen_277 : decode cL_areSeen 277 = .ok (.invokevirtual 8, 3) := by decide +kernel
theorem dL_areSeen_280 : decode cL_areSeen 280 = .ok (.iload_n 1, 1) := by decide +kernel
theorem dL_areSeen_281 : decode cL_areSeen 281 = .ok (.if_icmp .ne 52, 3) := by decide +kernel
theorem dL_areSeen_284 : decode cL_areSeen 284 = .ok (.aload_n 0, 1) := by decide +kernel
theorem dL_areSeen_285 : decode cL_areSeen 285 = .ok (.bipush 7, 2) := by decide +kernel
theorem dL_areSeen_287 : decode cL_areSeen 287 = .ok (.invokevirtual 8, 3) := by decide +kernel
theorem dL_areSeen_290 : decode cL_areSeen 290 = .ok (.iload_n 2, 1) := by decide +kernel
theorem dL_areSeen_291 : decode cL_areSeen 291 = .ok (.if_icmp .ne 42, 3) := by decide +kernel
theorem dL_areSeen_294 : decode cL_areSeen 294 = .ok (.aload_n 0, 1) := by decide +kernel
theorem dL_areSeen_295 : decode cL_areSeen 295 = .ok (.iconst 5, 1) := by decide +kernel
theorem dL_areSeen_296 : decode cL_areSeen 296 = .ok (.invokevirtual 8, 3) := by decide +kernel
theorem dL_areSeen_299 : decode cL_areSeen 299 = .ok (.iload 5, 2) := by decide +kernel
theorem dL_areSeen_301 : decode cL_areSeen 301 = .ok (.if_icmp .ne 32, 3) := by decide +kernel
theorem dL_areSeen_304 : decode cL_areSeen 304 = .ok (.aload_n 0, 1) := by decide +kernel
theorem dL_areSeen_305 : decode cL_areSeen 305 = .ok (.iload 4, 2) := by decide +kernel
theorem dL_areSeen_307 : decode cL_areSeen 307 = .ok (.iconst 0, 1) := by decide +kernel
theorem dL_areSeen_308 : decode cL_areSeen 308 = .ok (.invokevirtual 25, 3) := by decide +kernel
theorem dL_areSeen_311 : decode cL_areSeen 311 = .ok (.iconst (-1), 1) := by decide +kernel
theorem dL_areSeen_312 : decode cL_areSeen 312 = .ok (.if_icmp .ne 21, 3) := by decide +kernel
theorem dL_areSeen_315 : decode cL_areSeen 315 = .ok (.aload_n 0, 1) := by decide +kernel
theorem dL_areSeen_316 : decode cL_areSeen 316 = .ok (.aload_n 0, 1) := by decide +kernel
theorem dL_areSeen_317 : decode cL_areSeen 317 = .ok (.iconst 4, 1) := by decide +kernel
theorem dL_areSeen_318 : decode cL_areSeen 318 = .ok (.invokevirtual 8, 3) := by decide +kernel
theorem dL_areSeen_321 : decode cL_areSeen 321 = .ok (.iconst 0, 1) := by decide +kernel
theorem dL_areSeen_322 : decode cL_areSeen 322 = .ok (.invokevirtual 28, 3) := by decide +kernel
theorem dL_areSeen_325 : decode cL_areSeen 325 = .ok (.iconst (-1), 1) := by decide +kernel
theorem dL_areSeen_326 : decode cL_areSeen 326 = .ok (.if_icmp .ne 7, 3) := by decide +kernel
theorem dL_areSeen_329 : decode cL_areSeen 329 = .ok (.iconst 1, 1) := by decide +kernel
theorem dL_areSeen_330 : decode cL_areSeen 330 = .ok (.goto 4, 3) := by decide +kernel
theorem dL_areSeen_333 : decode cL_areSeen 333 = .ok (.iconst 0, 1) := by decide +kernel
theorem dL_areSeen_334 : decode cL_areSeen 334 = .ok (.ireturn, 1) := by decide +kernel
set_option maxRecDepth 20000 in
theorem ggL_passes_X6_count : GoodIn wsL_passes wsX6_count := goodIn_r _ [5, 6, 7, 8, 9, 10, 11, 12, 13, 14, 15, 16, 17, 18, 19, 20, 21, 22, 23, 24, 25, 26, 27, 28, 29, 30, 31, 32, 33, 34, 35, 36, 37, 38, 39, 40, 41, 42, 43, 44, 45, 46, 47, 48, 49, 50, 51, 52, 53, 54, 55, 196, 197, 198, 199, 200, 201, 202, 203, 204, 205, 206, 207, 208, 209, 210, 211, 212, 213, 214, 215, 216, 217, 218, 219, 220, 221, 222, 223, 224, 225, 226, 227, 228, 229, 230, 231] rfl (by decide +kernel)
set_option maxRecDepth 20000 in
theorem gL_passes_X6_count : GoodIn wsL_passes (wsV RL 8 RX6 yX6_count wsX6_count) := goodIn_app (goodIn_of _ (by decide +kernel)) ggL_passes_X6_count
set_option maxRecDepth 20000 in
theorem ggL_passes_X6_stillIn : GoodIn wsL_passes wsX6_stillIn := goodIn_r _ [59, 60, 6, 7, 11, 61, 62, 63, 64, 65, 66, 67, 68, 69, 70, 71, 72, 73, 74, 75, 76, 77, 78, 79, 80, 81, 82, 83, 84, 85, 86, 87, 88, 89, 90, 91, 92, 196, 197, 198, 199, 200, 201, 202, 203, 204, 205, 206, 207, 208, 209, 210, 211, 212, 213, 214, 215, 216] rfl (by decide +kernel)
set_option maxRecDepth 20000 in
theorem gL_passes_X6_stillIn : GoodIn wsL_passes (wsV RL 18 RX6 yX6_stillIn wsX6_stillIn) := goodIn_app (goodIn_of _ (by decide +kernel)) ggL_passes_X6_stillIn
set_option maxRecDepth 20000 in
theorem ggL_passes_X6_showsIn : GoodIn wsL_passes wsX6_showsIn := goodIn_r _ [96, 60, 6, 7, 9, 61, 62, 63, 64, 65, 66, 67, 68, 69, 70, 71, 72, 73, 74, 75, 76, 77, 78, 79, 80, 81, 82, 83, 84, 85, 86, 87, 88, 89, 90, 91, 92, 196, 197, 198, 199, 200, 201, 202, 203, 204, 205, 206, 207, 208, 209, 210, 211, 212, 213, 214, 215, 216] rfl (by decide +kernel)
set_option maxRecDepth 20000 in
theorem gL_passes_X6_showsIn : GoodIn wsL_passes (wsV RL 22 RX6 yX6_showsIn wsX6_showsIn) := goodIn_app (goodIn_of _ (by decide +kernel)) ggL_passes_X6_showsIn
set_option maxRecDepth 20000 in
theorem ggL_passes_X6_of : GoodIn wsL_passes wsX6_of := goodIn_r _ [100, 6, 7, 101, 102, 103, 104, 105, 64, 106, 67, 107, 108, 109, 110, 68, 111, 112, 113, 114, 76, 115, 116, 117, 118, 66, 196, 197, 198, 199, 200, 201, 202, 203, 204, 205, 206, 207, 208, 209, 210, 211, 212, 213, 214, 215, 216] rfl (by decide +kernel)
set_option maxRecDepth 20000 in
theorem gL_passes_X6_of : GoodIn wsL_passes (wsV RL 14 RX6 yX6_of wsX6_of) := goodIn_app (goodIn_of _ (by decide +kernel)) ggL_passes_X6_of
set_option maxRecDepth 20000 in
theorem ggL_passes_X6_pass : GoodIn wsL_passes wsX6_pass := goodIn_r _ [122, 20, 6, 123, 124, 125, 126, 127, 128, 129, 130, 131, 132, 133, 134, 135, 136, 137, 51, 138, 54, 139, 140, 141, 142, 143, 53, 144, 145, 62, 63, 64, 65, 66, 67, 68, 69, 70, 71, 72, 73, 74, 75, 76, 146, 147, 148, 25, 149, 27, 32, 150, 151, 33, 152, 153, 154, 155, 37, 156, 157, 158, 159, 39, 47, 160, 161, 162, 163, 164, 55, 165, 166, 167, 168, 169, 170, 82, 83, 84, 85, 86, 87, 88, 89, 90, 91, 92, 171, 172, 173, 174, 175, 176, 177, 178, 179, 180, 181, 182, 183, 184, 185, 186, 187, 196, 197, 198, 199, 200, 201, 224, 225, 226, 202, 203, 204, 205, 206, 207, 208, 209, 210, 211, 212, 213, 214, 215, 216, 217, 218, 219, 220, 221, 227, 228, 229, 230, 231] rfl (by decide +kernel)
set_option maxRecDepth 20000 in
theorem gL_passes_X6_pass : GoodIn wsL_passes (wsV RL 31 RX6 yX6_pass wsX6_pass) := goodIn_app (goodIn_of _ (by decide +kernel)) ggL_passes_X6_pass
set_option maxRecDepth 20000 in
theorem ggL_passes_X6_reading : GoodIn wsL_passes wsX6_reading := goodIn_r _ [191, 6, 12, 192, 193, 194, 25, 195, 27, 32, 151, 33, 152, 28, 29, 30, 31, 196, 197, 198, 199, 200, 201, 202, 203, 204, 205, 206, 207, 208, 209, 217, 218, 219, 220, 221] rfl (by decide +kernel)
set_option maxRecDepth 20000 in
theorem gL_passes_X6_reading : GoodIn wsL_passes (wsV RL 28 RX6 yX6_reading wsX6_reading) := goodIn_app (goodIn_of _ (by decide +kernel)) ggL_passes_X6_reading
theorem dL_passes_0 : decode cL_passes 0 = .ok (.aload_n 0, 1) := by decide +kernel
theorem dL_passes_1 : decode cL_passes 1 = .ok (.iconst 0, 1) := by decide +kernel
theorem dL_passes_2 : decode cL_passes 2 = .ok (.invokevirtual 8, 3) := by decide +kernel
theorem dL_passes_5 : decode cL_passes 5 = .ok (.istore_n 2, 1) := by decide +kernel
theorem dL_passes_6 : decode cL_passes 6 = .ok (.aload_n 0, 1) := by decide +kernel
theorem dL_passes_7 : decode cL_passes 7 = .ok (.invokevirtual 18, 3) := by decide +kernel
theorem dL_passes_10 : decode cL_passes 10 = .ok (.istore_n 3, 1) := by decide +kernel
theorem dL_passes_11 : decode cL_passes 11 = .ok (.aload_n 0, 1) := by decide +kernel
theorem dL_passes_12 : decode cL_passes 12 = .ok (.iload_n 1, 1) := by decide +kernel
theorem dL_passes_13 : decode cL_passes 13 = .ok (.invokevirtual 22, 3) := by decide +kernel
theorem dL_passes_16 : decode cL_passes 16 = .ok (.istore 4, 2) := by decide +kernel
theorem dL_passes_18 : decode cL_passes 18 = .ok (.aload_n 0, 1) := by decide +kernel
theorem dL_passes_19 : decode cL_passes 19 = .ok (.iconst 3, 1) := by decide +kernel
theorem dL_passes_20 : decode cL_passes 20 = .ok (.invokevirtual 8, 3) := by decide +kernel
theorem dL_passes_23 : decode cL_passes 23 = .ok (.istore 5, 2) := by decide +kernel
theorem dL_passes_25 : decode cL_passes 25 = .ok (.aload_n 0, 1) := by decide +kernel
theorem dL_passes_26 : decode cL_passes 26 = .ok (.iconst 4, 1) := by decide +kernel
theorem dL_passes_27 : decode cL_passes 27 = .ok (.invokevirtual 8, 3) := by decide +kernel
theorem dL_passes_30 : decode cL_passes 30 = .ok (.istore 6, 2) := by decide +kernel
theorem dL_passes_32 : decode cL_passes 32 = .ok (.aload_n 0, 1) := by decide +kernel
theorem dL_passes_33 : decode cL_passes 33 = .ok (.bipush 9, 2) := by decide +kernel
theorem dL_passes_35 : decode cL_passes 35 = .ok (.invokevirtual 8, 3) := by decide +kernel
theorem dL_passes_38 : decode cL_passes 38 = .ok (.istore 7, 2) := by decide +kernel
theorem dL_passes_40 : decode cL_passes 40 = .ok (.iconst 0, 1) := by decide +kernel
theorem dL_passes_41 : decode cL_passes 41 = .ok (.istore 8, 2) := by decide +kernel
theorem dL_passes_43 : decode cL_passes 43 = .ok (.iconst 0, 1) := by decide +kernel
theorem dL_passes_44 : decode cL_passes 44 = .ok (.istore 9, 2) := by decide +kernel
theorem dL_passes_46 : decode cL_passes 46 = .ok (.iload 9, 2) := by decide +kernel
theorem dL_passes_48 : decode cL_passes 48 = .ok (.aload_n 0, 1) := by decide +kernel
theorem dL_passes_49 : decode cL_passes 49 = .ok (.bipush 10, 2) := by decide +kernel
theorem dL_passes_51 : decode cL_passes 51 = .ok (.invokevirtual 8, 3) := by decide +kernel
theorem dL_passes_54 : decode cL_passes 54 = .ok (.if_icmp .ge 21, 3) := by decide +kernel
theorem dL_passes_57 : decode cL_passes 57 = .ok (.iload 8, 2) := by decide +kernel
theorem dL_passes_59 : decode cL_passes 59 = .ok (.aload_n 0, 1) := by decide +kernel
theorem dL_passes_60 : decode cL_passes 60 = .ok (.iload 9, 2) := by decide +kernel
theorem dL_passes_62 : decode cL_passes 62 = .ok (.iconst 4, 1) := by decide +kernel
theorem dL_passes_63 : decode cL_passes 63 = .ok (.invokevirtual 14, 3) := by decide +kernel
theorem dL_passes_66 : decode cL_passes 66 = .ok (.iadd, 1) := by decide +kernel
theorem dL_passes_67 : decode cL_passes 67 = .ok (.istore 8, 2) := by decide +kernel
theorem dL_passes_69 : decode cL_passes 69 = .ok (.iinc 9 1, 3) := by decide +kernel
theorem dL_passes_72 : decode cL_passes 72 = .ok (.goto (-26), 3) := by decide +kernel
theorem dL_passes_75 : decode cL_passes 75 = .ok (.aload_n 0, 1) := by decide +kernel
theorem dL_passes_76 : decode cL_passes 76 = .ok (.iload_n 1, 1) := by decide +kernel
theorem dL_passes_77 : decode cL_passes 77 = .ok (.invokevirtual 31, 3) := by decide +kernel
theorem dL_passes_80 : decode cL_passes 80 = .ok (.istore 9, 2) := by decide +kernel
