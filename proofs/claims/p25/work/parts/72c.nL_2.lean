theorem dL_passes_82 : decode cL_passes 82 = .ok (.iconst 0, 1) := by decide +kernel
theorem dL_passes_83 : decode cL_passes 83 = .ok (.istore 10, 2) := by decide +kernel
theorem dL_passes_85 : decode cL_passes 85 = .ok (.iload 10, 2) := by decide +kernel
theorem dL_passes_87 : decode cL_passes 87 = .ok (.aload_n 0, 1) := by decide +kernel
theorem dL_passes_88 : decode cL_passes 88 = .ok (.bipush 10, 2) := by decide +kernel
theorem dL_passes_90 : decode cL_passes 90 = .ok (.invokevirtual 8, 3) := by decide +kernel
theorem dL_passes_93 : decode cL_passes 93 = .ok (.if_icmp .ge 21, 3) := by decide +kernel
theorem dL_passes_96 : decode cL_passes 96 = .ok (.iload 8, 2) := by decide +kernel
theorem dL_passes_98 : decode cL_passes 98 = .ok (.aload_n 0, 1) := by decide +kernel
theorem dL_passes_99 : decode cL_passes 99 = .ok (.iload 10, 2) := by decide +kernel
theorem dL_passes_101 : decode cL_passes 101 = .ok (.iconst 4, 1) := by decide +kernel
theorem dL_passes_102 : decode cL_passes 102 = .ok (.invokevirtual 14, 3) := by decide +kernel
theorem dL_passes_105 : decode cL_passes 105 = .ok (.isub, 1) := by decide +kernel
theorem dL_passes_106 : decode cL_passes 106 = .ok (.istore 8, 2) := by decide +kernel
theorem dL_passes_108 : decode cL_passes 108 = .ok (.iinc 10 1, 3) := by decide +kernel
theorem dL_passes_111 : decode cL_passes 111 = .ok (.goto (-26), 3) := by decide +kernel
theorem dL_passes_114 : decode cL_passes 114 = .ok (.iload 9, 2) := by decide +kernel
theorem dL_passes_116 : decode cL_passes 116 = .ok (.iload 8, 2) := by decide +kernel
theorem dL_passes_118 : decode cL_passes 118 = .ok (.ineg, 1) := by decide +kernel
theorem dL_passes_119 : decode cL_passes 119 = .ok (.if_icmp .ne 53, 3) := by decide +kernel
theorem dL_passes_122 : decode cL_passes 122 = .ok (.iload 9, 2) := by decide +kernel
theorem dL_passes_124 : decode cL_passes 124 = .ok (.ifCond .lt 48, 3) := by decide +kernel
theorem dL_passes_127 : decode cL_passes 127 = .ok (.aload_n 0, 1) := by decide +kernel
theorem dL_passes_128 : decode cL_passes 128 = .ok (.iconst 0, 1) := by decide +kernel
theorem dL_passes_129 : decode cL_passes 129 = .ok (.invokevirtual 8, 3) := by decide +kernel
theorem dL_passes_132 : decode cL_passes 132 = .ok (.iload_n 2, 1) := by decide +kernel
theorem dL_passes_133 : decode cL_passes 133 = .ok (.iload_n 1, 1) := by decide +kernel
theorem dL_passes_134 : decode cL_passes 134 = .ok (.iadd, 1) := by decide +kernel
theorem dL_passes_135 : decode cL_passes 135 = .ok (.if_icmp .ne 37, 3) := by decide +kernel
theorem dL_passes_138 : decode cL_passes 138 = .ok (.aload_n 0, 1) := by decide +kernel
theorem dL_passes_139 : decode cL_passes 139 = .ok (.iconst 1, 1) := by decide +kernel
theorem dL_passes_140 : decode cL_passes 140 = .ok (.invokevirtual 8, 3) := by decide +kernel
theorem dL_passes_143 : decode cL_passes 143 = .ok (.iload 4, 2) := by decide +kernel
theorem dL_passes_145 : decode cL_passes 145 = .ok (.if_icmp .ne 27, 3) := by decide +kernel
theorem dL_passes_148 : decode cL_passes 148 = .ok (.aload_n 0, 1) := by decide +kernel
theorem dL_passes_149 : decode cL_passes 149 = .ok (.iconst 4, 1) := by decide +kernel
theorem dL_passes_150 : decode cL_passes 150 = .ok (.invokevirtual 8, 3) := by decide +kernel
theorem dL_passes_153 : decode cL_passes 153 = .ok (.aload_n 0, 1) := by decide +kernel
theorem dL_passes_154 : decode cL_passes 154 = .ok (.bipush 9, 2) := by decide +kernel
theorem dL_passes_156 : decode cL_passes 156 = .ok (.invokevirtual 8, 3) := by decide +kernel
theorem dL_passes_159 : decode cL_passes 159 = .ok (.iadd, 1) := by decide +kernel
theorem dL_passes_160 : decode cL_passes 160 = .ok (.iload 6, 2) := by decide +kernel
theorem dL_passes_162 : decode cL_passes 162 = .ok (.iload 7, 2) := by decide +kernel
theorem dL_passes_164 : decode cL_passes 164 = .ok (.iadd, 1) := by decide +kernel
theorem dL_passes_165 : decode cL_passes 165 = .ok (.if_icmp .ne 7, 3) := by decide +kernel
theorem dL_passes_168 : decode cL_passes 168 = .ok (.iconst 1, 1) := by decide +kernel
theorem dL_passes_169 : decode cL_passes 169 = .ok (.goto 4, 3) := by decide +kernel
theorem dL_passes_172 : decode cL_passes 172 = .ok (.iconst 0, 1) := by decide +kernel
theorem dL_passes_173 : decode cL_passes 173 = .ok (.istore 10, 2) := by decide +kernel
theorem dL_passes_175 : decode cL_passes 175 = .ok (.iload 10, 2) := by decide +kernel
theorem dL_passes_177 : decode cL_passes 177 = .ok (.ifCond .eq 50, 3) := by decide +kernel
theorem dL_passes_180 : decode cL_passes 180 = .ok (.iload_n 3, 1) := by decide +kernel
theorem dL_passes_181 : decode cL_passes 181 = .ok (.iload_n 1, 1) := by decide +kernel
theorem dL_passes_182 : decode cL_passes 182 = .ok (.if_icmp .le 16, 3) := by decide +kernel
theorem dL_passes_185 : decode cL_passes 185 = .ok (.aload_n 0, 1) := by decide +kernel
theorem dL_passes_186 : decode cL_passes 186 = .ok (.invokevirtual 18, 3) := by decide +kernel
theorem dL_passes_189 : decode cL_passes 189 = .ok (.iload_n 3, 1) := by decide +kernel
theorem dL_passes_190 : decode cL_passes 190 = .ok (.iload_n 1, 1) := by decide +kernel
theorem dL_passes_191 : decode cL_passes 191 = .ok (.isub, 1) := by decide +kernel
theorem dL_passes_192 : decode cL_passes 192 = .ok (.if_icmp .ne 35, 3) := by decide +kernel
theorem dL_passes_195 : decode cL_passes 195 = .ok (.goto 18, 3) := by decide +kernel
theorem dL_passes_198 : decode cL_passes 198 = .ok (.aload_n 0, 1) := by decide +kernel
theorem dL_passes_199 : decode cL_passes 199 = .ok (.invokevirtual 18, 3) := by decide +kernel
theorem dL_passes_202 : decode cL_passes 202 = .ok (.ifCond .ne 25, 3) := by decide +kernel
theorem dL_passes_205 : decode cL_passes 205 = .ok (.aload_n 0, 1) := by decide +kernel
theorem dL_passes_206 : decode cL_passes 206 = .ok (.iconst 3, 1) := by decide +kernel
theorem dL_passes_207 : decode cL_passes 207 = .ok (.invokevirtual 8, 3) := by decide +kernel
theorem dL_passes_210 : decode cL_passes 210 = .ok (.ifCond .ne 17, 3) := by decide +kernel
theorem dL_passes_213 : decode cL_passes 213 = .ok (.iload 5, 2) := by decide +kernel
theorem dL_passes_215 : decode cL_passes 215 = .ok (.ifCond .gt 8, 3) := by decide +kernel
theorem dL_passes_218 : decode cL_passes 218 = .ok (.iload 9, 2) := by decide +kernel
theorem dL_passes_220 : decode cL_passes 220 = .ok (.ifCond .ne 7, 3) := by decide +kernel
theorem dL_passes_223 : decode cL_passes 223 = .ok (.iconst 1, 1) := by decide +kernel
theorem dL_passes_224 : decode cL_passes 224 = .ok (.goto 4, 3) := by decide +kernel
theorem dL_passes_227 : decode cL_passes 227 = .ok (.iconst 0, 1) := by decide +kernel
theorem dL_passes_228 : decode cL_passes 228 = .ok (.istore 10, 2) := by decide +kernel
theorem dL_passes_230 : decode cL_passes 230 = .ok (.aload_n 0, 1) := by decide +kernel
theorem dL_passes_231 : decode cL_passes 231 = .ok (.iconst 4, 1) := by decide +kernel
theorem dL_passes_232 : decode cL_passes 232 = .ok (.invokevirtual 8, 3) := by decide +kernel
theorem dL_passes_235 : decode cL_passes 235 = .ok (.iconst 1, 1) := by decide +kernel
theorem dL_passes_236 : decode cL_passes 236 = .ok (.isub, 1) := by decide +kernel
theorem dL_passes_237 : decode cL_passes 237 = .ok (.istore 11, 2) := by decide +kernel
theorem dL_passes_239 : decode cL_passes 239 = .ok (.iload 10, 2) := by decide +kernel
theorem dL_passes_241 : decode cL_passes 241 = .ok (.ifCond .eq 52, 3) := by decide +kernel
theorem dL_passes_244 : decode cL_passes 244 = .ok (.aload_n 0, 1) := by decide +kernel
theorem dL_passes_245 : decode cL_passes 245 = .ok (.iconst 4, 1) := by decide +kernel
theorem dL_passes_246 : decode cL_passes 246 = .ok (.invokevirtual 8, 3) := by decide +kernel
theorem dL_passes_249 : decode cL_passes 249 = .ok (.iload 6, 2) := by decide +kernel
theorem dL_passes_251 : decode cL_passes 251 = .ok (.if_icmp .eq 38, 3) := by decide +kernel
theorem dL_passes_254 : decode cL_passes 254 = .ok (.aload_n 0, 1) := by decide +kernel
theorem dL_passes_255 : decode cL_passes 255 = .ok (.iload 11, 2) := by decide +kernel
theorem dL_passes_257 : decode cL_passes 257 = .ok (.iconst 3, 1) := by decide +kernel
theorem dL_passes_258 : decode cL_passes 258 = .ok (.invokevirtual 28, 3) := by decide +kernel
theorem dL_passes_261 : decode cL_passes 261 = .ok (.iconst 1, 1) := by decide +kernel
theorem dL_passes_262 : decode cL_passes 262 = .ok (.if_icmp .ne 31, 3) := by decide +kernel
theorem dL_passes_265 : decode cL_passes 265 = .ok (.aload_n 0, 1) := by decide +kernel
theorem dL_passes_266 : decode cL_passes 266 = .ok (.iload 11, 2) := by decide +kernel
theorem dL_passes_268 : decode cL_passes 268 = .ok (.iconst 1, 1) := by decide +kernel
theorem dL_passes_269 : decode cL_passes 269 = .ok (.invokevirtual 28, 3) := by decide +kernel
theorem dL_passes_272 : decode cL_passes 272 = .ok (.iload_n 2, 1) := by decide +kernel
theorem dL_passes_273 : decode cL_passes 273 = .ok (.iload_n 1, 1) := by decide +kernel
theorem dL_passes_274 : decode cL_passes 274 = .ok (.iadd, 1) := by decide +kernel
theorem dL_passes_275 : decode cL_passes 275 = .ok (.if_icmp .ge 18, 3) := by decide +kernel
theorem dL_passes_278 : decode cL_passes 278 = .ok (.aload_n 0, 1) := by decide +kernel
theorem dL_passes_279 : decode cL_passes 279 = .ok (.iload 11, 2) := by decide +kernel
theorem dL_passes_281 : decode cL_passes 281 = .ok (.iconst 4, 1) := by decide +kernel
theorem dL_passes_282 : decode cL_passes 282 = .ok (.invokevirtual 28, 3) := by decide +kernel
theorem dL_passes_285 : decode cL_passes 285 = .ok (.iconst 1, 1) := by decide +kernel
theorem dL_passes_286 : decode cL_passes 286 = .ok (.if_icmp .ne 7, 3) := by decide +kernel
theorem dL_passes_289 : decode cL_passes 289 = .ok (.iconst 1, 1) := by decide +kernel
theorem dL_passes_290 : decode cL_passes 290 = .ok (.goto 4, 3) := by decide +kernel
theorem dL_passes_293 : decode cL_passes 293 = .ok (.iconst 0, 1) := by decide +kernel
theorem dL_passes_294 : decode cL_passes 294 = .ok (.ireturn, 1) := by decide +kernel
set_option maxRecDepth 20000 in
theorem ggL_isTest_X6_init : GoodIn wsL_isTest wsX6_init := goodIn_r _ [6, 7, 8, 9, 10, 11, 12, 13, 14, 15, 16, 17, 18, 19, 20, 21, 22, 23, 24, 25, 26, 27, 28, 29, 30, 31, 32, 33, 34, 35, 36, 37, 38, 39, 40, 41, 42, 43, 44, 45, 46, 47, 48, 49, 50, 51, 52, 53, 54, 55, 56, 57, 58, 59, 60, 61, 62, 63, 64, 65, 66, 67, 68, 69, 70, 71, 72, 73, 74, 75, 76, 77, 78, 79, 80, 81, 82, 307, 308, 309, 310, 311, 312, 313, 314, 301, 302, 303, 304, 305, 306, 315, 316, 317, 318, 319, 320, 321, 322, 323, 324, 325, 326, 327, 328, 329, 330, 331, 332, 333, 334, 335, 336] rfl (by decide +kernel)
set_option maxRecDepth 20000 in
theorem gL_isTest_X6_init : GoodIn wsL_isTest (wsX6_init) := ggL_isTest_X6_init
set_option maxRecDepth 20000 in
theorem ggL_isTest_X6_count : GoodIn wsL_isTest wsX6_count := goodIn_r _ [86, 13, 87, 88, 89, 90, 91, 92, 93, 94, 95, 96, 97, 28, 98, 17, 99, 100, 101, 102, 36, 103, 104, 105, 106, 107, 108, 61, 63, 109, 110, 111, 40, 112, 69, 113, 114, 115, 116, 117, 118, 119, 70, 120, 121, 122, 12, 123, 44, 33, 124, 301, 302, 303, 304, 305, 306, 307, 308, 309, 310, 311, 312, 313, 314, 318, 319, 320, 321, 322, 323, 324, 327, 328, 329, 330, 331, 325, 326, 315, 316, 317, 332, 333, 334, 335, 336] rfl (by decide +kernel)
set_option maxRecDepth 20000 in
theorem gL_isTest_X6_count : GoodIn wsL_isTest (wsV RL 8 RX6 yX6_count wsX6_count) := goodIn_app (goodIn_of _ (by decide +kernel)) ggL_isTest_X6_count
set_option maxRecDepth 20000 in
theorem ggL_isTest_X6_set : GoodIn wsL_isTest wsX6_set := goodIn_r _ [128, 17, 13, 129, 130, 131, 16, 132, 77, 133, 134, 135, 136, 137, 138, 139, 140, 141, 12, 142, 33, 37, 41, 42, 143, 43, 44, 144, 145, 146, 147, 23, 148, 149, 49, 150, 151, 51, 152, 153, 154, 155, 52, 53, 156, 157, 158, 36, 159, 104, 61, 160, 62, 63, 64, 161, 162, 163, 40, 164, 165, 68, 166, 69, 70, 71, 167, 168, 169, 170, 171, 172, 173, 174, 175, 176, 177, 178, 179, 54, 55, 56, 57, 180, 181, 182, 183, 184, 185, 186, 187, 188, 189, 190, 191, 192, 193, 194, 195, 196, 301, 302, 303, 304, 305, 306, 315, 316, 317, 307, 308, 309, 310, 311, 312, 313, 314, 318, 319, 320, 321, 322, 323, 324, 327, 328, 329, 330, 331, 332, 333, 334, 335, 336] rfl (by decide +kernel)
set_option maxRecDepth 20000 in
theorem gL_isTest_X6_set : GoodIn wsL_isTest (wsV RL 35 RX6 yX6_set wsX6_set) := goodIn_app (goodIn_of _ (by decide +kernel)) ggL_isTest_X6_set
set_option maxRecDepth 20000 in
theorem ggL_isTest_X6_of : GoodIn wsL_isTest wsX6_of := goodIn_r _ [200, 13, 87, 201, 202, 203, 204, 205, 23, 206, 49, 207, 208, 209, 210, 150, 211, 212, 213, 214, 53, 215, 216, 217, 218, 149, 301, 302, 303, 304, 305, 306, 307, 308, 309, 310, 311, 312, 313, 314, 318, 319, 320, 321, 322, 323, 324] rfl (by decide +kernel)
set_option maxRecDepth 20000 in
theorem gL_isTest_X6_of : GoodIn wsL_isTest (wsV RL 14 RX6 yX6_of wsX6_of) := goodIn_app (goodIn_of _ (by decide +kernel)) ggL_isTest_X6_of
set_option maxRecDepth 20000 in
theorem ggL_isTest_X6_delay : GoodIn wsL_isTest wsX6_delay := goodIn_r _ [222, 17, 13, 129, 130, 131, 16, 132, 77, 133, 134, 135, 136, 137, 138, 139, 140, 141, 12, 142, 33, 37, 41, 42, 143, 43, 44, 144, 145, 146, 147, 23, 148, 149, 49, 150, 151, 51, 152, 153, 154, 155, 52, 53, 156, 157, 158, 36, 159, 104, 61, 160, 62, 63, 64, 161, 162, 163, 40, 164, 165, 68, 166, 69, 70, 71, 223, 224, 225, 226, 227, 228, 204, 205, 206, 193, 194, 195, 196, 301, 302, 303, 304, 305, 306, 315, 316, 317, 307, 308, 309, 310, 311, 312, 313, 314, 318, 319, 320, 321, 322, 323, 324, 327, 328, 329, 330, 331, 332, 333, 334, 335, 336] rfl (by decide +kernel)
set_option maxRecDepth 20000 in
theorem gL_isTest_X6_delay : GoodIn wsL_isTest (wsV RL 38 RX6 yX6_delay wsX6_delay) := goodIn_app (goodIn_of _ (by decide +kernel)) ggL_isTest_X6_delay
set_option maxRecDepth 20000 in
theorem ggL_isTest_X6_clock : GoodIn wsL_isTest wsX6_clock := goodIn_r _ [232, 17, 13, 129, 130, 131, 16, 132, 77, 133, 134, 135, 136, 137, 138, 139, 140, 141, 12, 142, 33, 37, 41, 42, 143, 43, 44, 144, 145, 146, 147, 23, 148, 149, 49, 150, 151, 51, 152, 153, 154, 155, 52, 53, 156, 157, 158, 36, 159, 104, 61, 160, 62, 63, 64, 161, 162, 163, 40, 164, 165, 68, 166, 69, 70, 71, 233, 234, 235, 236, 124, 175, 237, 238, 239, 240, 193, 194, 195, 196, 301, 302, 303, 304, 305, 306, 315, 316, 317, 307, 308, 309, 310, 311, 312, 313, 314, 318, 319, 320, 321, 322, 323, 324, 327, 328, 329, 330, 331, 332, 333, 334, 335, 336] rfl (by decide +kernel)
set_option maxRecDepth 20000 in
theorem gL_isTest_X6_clock : GoodIn wsL_isTest (wsV RL 41 RX6 yX6_clock wsX6_clock) := goodIn_app (goodIn_of _ (by decide +kernel)) ggL_isTest_X6_clock
set_option maxRecDepth 20000 in
theorem ggL_isTest_X6_pass : GoodIn wsL_isTest wsX6_pass := goodIn_r _ [244, 17, 13, 129, 130, 131, 16, 132, 77, 133, 134, 135, 136, 137, 138, 139, 140, 141, 12, 142, 33, 37, 41, 42, 143, 43, 44, 144, 145, 146, 147, 23, 148, 149, 49, 150, 151, 51, 152, 153, 154, 155, 52, 53, 156, 157, 158, 36, 159, 104, 61, 160, 62, 63, 64, 161, 162, 163, 40, 164, 165, 68, 166, 69, 70, 71, 245, 246, 247, 248, 124, 249, 250, 251, 252, 253, 254, 255, 256, 257, 258, 259, 260, 261, 262, 238, 239, 240, 263, 264, 265, 266, 267, 268, 269, 270, 271, 272, 273, 274, 275, 193, 194, 195, 196, 301, 302, 303, 304, 305, 306, 315, 316, 317, 307, 308, 309, 310, 311, 312, 313, 314, 318, 319, 320, 321, 322, 323, 324, 327, 328, 329, 330, 331, 332, 333, 334, 335, 336] rfl (by decide +kernel)
set_option maxRecDepth 20000 in
theorem gL_isTest_X6_pass : GoodIn wsL_isTest (wsV RL 31 RX6 yX6_pass wsX6_pass) := goodIn_app (goodIn_of _ (by decide +kernel)) ggL_isTest_X6_pass
set_option maxRecDepth 20000 in
theorem ggL_isTest_X6_read : GoodIn wsL_isTest wsX6_read := goodIn_r _ [279, 17, 13, 129, 130, 131, 16, 132, 77, 133, 134, 135, 136, 137, 138, 139, 140, 141, 12, 142, 33, 37, 41, 42, 143, 43, 44, 144, 145, 146, 147, 23, 148, 149, 49, 150, 151, 51, 152, 153, 154, 155, 52, 53, 156, 157, 158, 36, 159, 104, 61, 160, 62, 63, 64, 161, 162, 163, 40, 164, 165, 68, 166, 69, 70, 71, 280, 281, 282, 283, 284, 253, 124, 272, 273, 274, 275, 193, 194, 195, 196, 301, 302, 303, 304, 305, 306, 315, 316, 317, 307, 308, 309, 310, 311, 312, 313, 314, 318, 319, 320, 321, 322, 323, 324, 327, 328, 329, 330, 331, 332, 333, 334, 335, 336] rfl (by decide +kernel)
set_option maxRecDepth 20000 in
theorem gL_isTest_X6_read : GoodIn wsL_isTest (wsV RL 44 RX6 yX6_read wsX6_read) := goodIn_app (goodIn_of _ (by decide +kernel)) ggL_isTest_X6_read
set_option maxRecDepth 20000 in
theorem ggL_isTest_X6_wrong : GoodIn wsL_isTest wsX6_wrong := goodIn_r _ [288, 13, 87, 289, 290, 291, 23, 292, 49, 293, 294, 295, 296, 51, 297, 298, 299, 300, 301, 302, 303, 304, 305, 306, 307, 308, 309, 310, 311, 312, 313, 314, 318, 319, 320, 321, 322, 323, 324] rfl (by decide +kernel)
set_option maxRecDepth 20000 in
theorem gL_isTest_X6_wrong : GoodIn wsL_isTest (wsV RL 47 RX6 yX6_wrong wsX6_wrong) := goodIn_app (goodIn_of _ (by decide +kernel)) ggL_isTest_X6_wrong
theorem dL_isTest_0 : decode cL_isTest 0 = .ok (.new 9, 3) := by decide +kernel
theorem dL_isTest_3 : decode cL_isTest 3 = .ok (.dup, 1) := by decide +kernel
theorem dL_isTest_4 : decode cL_isTest 4 = .ok (.invokespecial 34, 3) := by decide +kernel
theorem dL_isTest_7 : decode cL_isTest 7 = .ok (.astore_n 2, 1) := by decide +kernel
theorem dL_isTest_8 : decode cL_isTest 8 = .ok (.aload_n 0, 1) := by decide +kernel
theorem dL_isTest_9 : decode cL_isTest 9 = .ok (.bipush 10, 2) := by decide +kernel
theorem dL_isTest_11 : decode cL_isTest 11 = .ok (.invokevirtual 8, 3) := by decide +kernel
theorem dL_isTest_14 : decode cL_isTest 14 = .ok (.istore_n 3, 1) := by decide +kernel
theorem dL_isTest_15 : decode cL_isTest 15 = .ok (.aload_n 2, 1) := by decide +kernel
theorem dL_isTest_16 : decode cL_isTest 16 = .ok (.iconst 0, 1) := by decide +kernel
theorem dL_isTest_17 : decode cL_isTest 17 = .ok (.iload_n 3, 1) := by decide +kernel
theorem dL_isTest_18 : decode cL_isTest 18 = .ok (.invokevirtual 35, 3) := by decide +kernel
theorem dL_isTest_21 : decode cL_isTest 21 = .ok (.iconst 4, 1) := by decide +kernel
theorem dL_isTest_22 : decode cL_isTest 22 = .ok (.if_icmp .ne 7, 3) := by decide +kernel
theorem dL_isTest_25 : decode cL_isTest 25 = .ok (.iconst 1, 1) := by decide +kernel
theorem dL_isTest_26 : decode cL_isTest 26 = .ok (.goto 4, 3) := by decide +kernel
theorem dL_isTest_29 : decode cL_isTest 29 = .ok (.iconst 0, 1) := by decide +kernel
theorem dL_isTest_30 : decode cL_isTest 30 = .ok (.istore 4, 2) := by decide +kernel
theorem dL_isTest_32 : decode cL_isTest 32 = .ok (.iconst 0, 1) := by decide +kernel
theorem dL_isTest_33 : decode cL_isTest 33 = .ok (.istore 5, 2) := by decide +kernel
theorem dL_isTest_35 : decode cL_isTest 35 = .ok (.iload 5, 2) := by decide +kernel
theorem dL_isTest_37 : decode cL_isTest 37 = .ok (.iload_n 3, 1) := by decide +kernel
theorem dL_isTest_38 : decode cL_isTest 38 = .ok (.if_icmp .ge 38, 3) := by decide +kernel
theorem dL_isTest_41 : decode cL_isTest 41 = .ok (.iload 4, 2) := by decide +kernel
theorem dL_isTest_43 : decode cL_isTest 43 = .ok (.ifCond .eq 24, 3) := by decide +kernel
theorem dL_isTest_46 : decode cL_isTest 46 = .ok (.aload_n 2, 1) := by decide +kernel
theorem dL_isTest_47 : decode cL_isTest 47 = .ok (.iload 5, 2) := by decide +kernel
theorem dL_isTest_49 : decode cL_isTest 49 = .ok (.aload_n 0, 1) := by decide +kernel
theorem dL_isTest_50 : decode cL_isTest 50 = .ok (.iload 5, 2) := by decide +kernel
theorem dL_isTest_52 : decode cL_isTest 52 = .ok (.iconst 0, 1) := by decide +kernel
theorem dL_isTest_53 : decode cL_isTest 53 = .ok (.invokevirtual 14, 3) := by decide +kernel
theorem dL_isTest_56 : decode cL_isTest 56 = .ok (.invokevirtual 38, 3) := by decide +kernel
theorem dL_isTest_59 : decode cL_isTest 59 = .ok (.iconst 3, 1) := by decide +kernel
theorem dL_isTest_60 : decode cL_isTest 60 = .ok (.if_icmp .ne 7, 3) := by decide +kernel
theorem dL_isTest_63 : decode cL_isTest 63 = .ok (.iconst 1, 1) := by decide +kernel
theorem dL_isTest_64 : decode cL_isTest 64 = .ok (.goto 4, 3) := by decide +kernel
theorem dL_isTest_67 : decode cL_isTest 67 = .ok (.iconst 0, 1) := by decide +kernel
theorem dL_isTest_68 : decode cL_isTest 68 = .ok (.istore 4, 2) := by decide +kernel
theorem dL_isTest_70 : decode cL_isTest 70 = .ok (.iinc 5 1, 3) := by decide +kernel
theorem dL_isTest_73 : decode cL_isTest 73 = .ok (.goto (-38), 3) := by decide +kernel
theorem dL_isTest_76 : decode cL_isTest 76 = .ok (.iconst 0, 1) := by decide +kernel
theorem dL_isTest_77 : decode cL_isTest 77 = .ok (.istore 5, 2) := by decide +kernel
theorem dL_isTest_79 : decode cL_isTest 79 = .ok (.iconst 0, 1) := by decide +kernel
theorem dL_isTest_80 : decode cL_isTest 80 = .ok (.istore 6, 2) := by decide +kernel
theorem dL_isTest_82 : decode cL_isTest 82 = .ok (.iload 6, 2) := by decide +kernel
theorem dL_isTest_84 : decode cL_isTest 84 = .ok (.iconst 1, 1) := by decide +kernel
theorem dL_isTest_85 : decode cL_isTest 85 = .ok (.iload_n 3, 1) := by decide +kernel
theorem dL_isTest_86 : decode cL_isTest 86 = .ok (.ishl, 1) := by decide +kernel
theorem dL_isTest_87 : decode cL_isTest 87 = .ok (.if_icmp .ge 66, 3) := by decide +kernel
theorem dL_isTest_90 : decode cL_isTest 90 = .ok (.iload 4, 2) := by decide +kernel
theorem dL_isTest_92 : decode cL_isTest 92 = .ok (.ifCond .eq 61, 3) := by decide +kernel
theorem dL_isTest_95 : decode cL_isTest 95 = .ok (.aload_n 2, 1) := by decide +kernel
theorem dL_isTest_96 : decode cL_isTest 96 = .ok (.invokevirtual 41, 3) := by decide +kernel
theorem dL_isTest_99 : decode cL_isTest 99 = .ok (.iload 6, 2) := by decide +kernel
theorem dL_isTest_101 : decode cL_isTest 101 = .ok (.iconst 1, 1) := by decide +kernel
theorem dL_isTest_102 : decode cL_isTest 102 = .ok (.iadd, 1) := by decide +kernel
theorem dL_isTest_103 : decode cL_isTest 103 = .ok (.iconst 1, 1) := by decide +kernel
theorem dL_isTest_104 : decode cL_isTest 104 = .ok (.iload_n 3, 1) := by decide +kernel
theorem dL_isTest_105 : decode cL_isTest 105 = .ok (.ishl, 1) := by decide +kernel
theorem dL_isTest_106 : decode cL_isTest 106 = .ok (.irem, 1) := by decide +kernel
theorem dL_isTest_107 : decode cL_isTest 107 = .ok (.if_icmp .ne 15, 3) := by decide +kernel
theorem dL_isTest_110 : decode cL_isTest 110 = .ok (.aload_n 2, 1) := by decide +kernel
theorem dL_isTest_111 : decode cL_isTest 111 = .ok (.iload_n 1, 1) := by decide +kernel
theorem dL_isTest_112 : decode cL_isTest 112 = .ok (.invokevirtual 31, 3) := by decide +kernel
theorem dL_isTest_115 : decode cL_isTest 115 = .ok (.ifCond .lt 7, 3) := by decide +kernel
theorem dL_isTest_118 : decode cL_isTest 118 = .ok (.iconst 1, 1) := by decide +kernel
theorem dL_isTest_119 : decode cL_isTest 119 = .ok (.goto 4, 3) := by decide +kernel
theorem dL_isTest_122 : decode cL_isTest 122 = .ok (.iconst 0, 1) := by decide +kernel
theorem dL_isTest_123 : decode cL_isTest 123 = .ok (.istore 4, 2) := by decide +kernel
theorem dL_isTest_125 : decode cL_isTest 125 = .ok (.iload 5, 2) := by decide +kernel
theorem dL_isTest_127 : decode cL_isTest 127 = .ok (.aload_n 2, 1) := by decide +kernel
theorem dL_isTest_128 : decode cL_isTest 128 = .ok (.invokevirtual 44, 3) := by decide +kernel
theorem dL_isTest_131 : decode cL_isTest 131 = .ok (.aload_n 2, 1) := by decide +kernel
theorem dL_isTest_132 : decode cL_isTest 132 = .ok (.iconst 2, 1) := by decide +kernel
theorem dL_isTest_133 : decode cL_isTest 133 = .ok (.invokevirtual 8, 3) := by decide +kernel
theorem dL_isTest_136 : decode cL_isTest 136 = .ok (.if_icmp .ne 7, 3) := by decide +kernel
theorem dL_isTest_139 : decode cL_isTest 139 = .ok (.iconst 0, 1) := by decide +kernel
theorem dL_isTest_140 : decode cL_isTest 140 = .ok (.goto 4, 3) := by decide +kernel
theorem dL_isTest_143 : decode cL_isTest 143 = .ok (.iconst 1, 1) := by decide +kernel
theorem dL_isTest_144 : decode cL_isTest 144 = .ok (.iadd, 1) := by decide +kernel
theorem dL_isTest_145 : decode cL_isTest 145 = .ok (.istore 5, 2) := by decide +kernel
theorem dL_isTest_147 : decode cL_isTest 147 = .ok (.iinc 6 1, 3) := by decide +kernel
theorem dL_isTest_150 : decode cL_isTest 150 = .ok (.goto (-68), 3) := by decide +kernel
theorem dL_isTest_153 : decode cL_isTest 153 = .ok (.iload 4, 2) := by decide +kernel
theorem dL_isTest_155 : decode cL_isTest 155 = .ok (.ifCond .eq 44, 3) := by decide +kernel
theorem dL_isTest_158 : decode cL_isTest 158 = .ok (.aload_n 2, 1) := by decide +kernel
theorem dL_isTest_159 : decode cL_isTest 159 = .ok (.iconst 4, 1) := by decide +kernel
theorem dL_isTest_160 : decode cL_isTest 160 = .ok (.invokevirtual 8, 3) := by decide +kernel
theorem dL_isTest_163 : decode cL_isTest 163 = .ok (.iconst 1, 1) := by decide +kernel
theorem dL_isTest_164 : decode cL_isTest 164 = .ok (.iload_n 3, 1) := by decide +kernel
theorem dL_isTest_165 : decode cL_isTest 165 = .ok (.ishl, 1) := by decide +kernel
theorem dL_isTest_166 : decode cL_isTest 166 = .ok (.if_icmp .ne 33, 3) := by decide +kernel
theorem dL_isTest_169 : decode cL_isTest 169 = .ok (.aload_n 2, 1) := by decide +kernel
theorem dL_isTest_170 : decode cL_isTest 170 = .ok (.iconst 4, 1) := by decide +kernel
theorem dL_isTest_171 : decode cL_isTest 171 = .ok (.invokevirtual 8, 3) := by decide +kernel
theorem dL_isTest_174 : decode cL_isTest 174 = .ok (.aload_n 2, 1) := by decide +kernel
theorem dL_isTest_175 : decode cL_isTest 175 = .ok (.iconst 5, 1) := by decide +kernel
theorem dL_isTest_176 : decode cL_isTest 176 = .ok (.invokevirtual 8, 3) := by decide +kernel
theorem dL_isTest_179 : decode cL_isTest 179 = .ok (.isub, 1) := by decide +kernel
theorem dL_isTest_180 : decode cL_isTest 180 = .ok (.iload 5, 2) := by decide +kernel
theorem dL_isTest_182 : decode cL_isTest 182 = .ok (.if_icmp .ne 17, 3) := by decide +kernel
theorem dL_isTest_185 : decode cL_isTest 185 = .ok (.aload_n 0, 1) := by decide +kernel
theorem dL_isTest_186 : decode cL_isTest 186 = .ok (.iload_n 1, 1) := by decide +kernel
theorem dL_isTest_187 : decode cL_isTest 187 = .ok (.invokevirtual 47, 3) := by decide +kernel
theorem dL_isTest_190 : decode cL_isTest 190 = .ok (.iload 5, 2) := by decide +kernel
theorem dL_isTest_192 : decode cL_isTest 192 = .ok (.if_icmp .ne 7, 3) := by decide +kernel
theorem dL_isTest_195 : decode cL_isTest 195 = .ok (.iconst 1, 1) := by decide +kernel
theorem dL_isTest_196 : decode cL_isTest 196 = .ok (.goto 4, 3) := by decide +kernel
theorem dL_isTest_199 : decode cL_isTest 199 = .ok (.iconst 0, 1) := by decide +kernel
theorem dL_isTest_200 : decode cL_isTest 200 = .ok (.ireturn, 1) := by decide +kernel
set_option maxRecDepth 20000 in
theorem ggL_isSafe_X6_safeGap : GoodIn wsL_isSafe wsX6_safeGap := goodIn_r _ [5, 6, 7, 8, 9, 10, 11, 12, 13, 14, 15, 16, 4, 17, 18, 19, 20, 21, 37, 38, 39, 40, 41, 42, 43, 44, 45, 46, 47, 48, 49, 50, 51, 52, 53, 54, 55, 56, 57] rfl (by decide +kernel)
set_option maxRecDepth 20000 in
theorem gL_isSafe_X6_safeGap : GoodIn wsL_isSafe (wsV RL 50 RX6 yX6_safeGap wsX6_safeGap) := goodIn_app (goodIn_of _ (by decide +kernel)) ggL_isSafe_X6_safeGap
set_option maxRecDepth 20000 in
theorem ggL_isSafe_X6_wrong : GoodIn wsL_isSafe wsX6_wrong := goodIn_r _ [25, 6, 7, 26, 27, 28, 11, 29, 13, 30, 31, 32, 33, 14, 34, 35, 20, 36, 37, 38, 39, 40, 41, 42, 43, 44, 45, 46, 47, 48, 49, 50, 51, 52, 53, 54, 55, 56, 57] rfl (by decide +kernel)
set_option maxRecDepth 20000 in
theorem gL_isSafe_X6_wrong : GoodIn wsL_isSafe (wsV RL 47 RX6 yX6_wrong wsX6_wrong) := goodIn_app (goodIn_of _ (by decide +kernel)) ggL_isSafe_X6_wrong
theorem dL_isSafe_0 : decode cL_isSafe 0 = .ok (.aload_n 0, 1) := by decide +kernel
theorem dL_isSafe_1 : decode cL_isSafe 1 = .ok (.invokevirtual 50, 3) := by decide +kernel
theorem dL_isSafe_4 : decode cL_isSafe 4 = .ok (.istore_n 1, 1) := by decide +kernel
theorem dL_isSafe_5 : decode cL_isSafe 5 = .ok (.bipush 51, 2) := by decide +kernel
theorem dL_isSafe_7 : decode cL_isSafe 7 = .ok (.istore_n 2, 1) := by decide +kernel
theorem dL_isSafe_8 : decode cL_isSafe 8 = .ok (.bipush 50, 2) := by decide +kernel
theorem dL_isSafe_10 : decode cL_isSafe 10 = .ok (.istore_n 3, 1) := by decide +kernel
theorem dL_isSafe_11 : decode cL_isSafe 11 = .ok (.iload_n 3, 1) := by decide +kernel
theorem dL_isSafe_12 : decode cL_isSafe 12 = .ok (.ifCond .le 30, 3) := by decide +kernel
theorem dL_isSafe_15 : decode cL_isSafe 15 = .ok (.iload_n 2, 1) := by decide +kernel
theorem dL_isSafe_16 : decode cL_isSafe 16 = .ok (.iload_n 3, 1) := by decide +kernel
theorem dL_isSafe_17 : decode cL_isSafe 17 = .ok (.iconst 1, 1) := by decide +kernel
theorem dL_isSafe_18 : decode cL_isSafe 18 = .ok (.iadd, 1) := by decide +kernel
theorem dL_isSafe_19 : decode cL_isSafe 19 = .ok (.if_icmp .ne 23, 3) := by decide +kernel
theorem dL_isSafe_22 : decode cL_isSafe 22 = .ok (.aload_n 0, 1) := by decide +kernel
theorem dL_isSafe_23 : decode cL_isSafe 23 = .ok (.iload_n 3, 1) := by decide +kernel
theorem dL_isSafe_24 : decode cL_isSafe 24 = .ok (.invokevirtual 47, 3) := by decide +kernel
theorem dL_isSafe_27 : decode cL_isSafe 27 = .ok (.ifCond .ne 7, 3) := by decide +kernel
theorem dL_isSafe_30 : decode cL_isSafe 30 = .ok (.iload_n 3, 1) := by decide +kernel
theorem dL_isSafe_31 : decode cL_isSafe 31 = .ok (.goto 4, 3) := by decide +kernel
theorem dL_isSafe_34 : decode cL_isSafe 34 = .ok (.iload_n 2, 1) := by decide +kernel
theorem dL_isSafe_35 : decode cL_isSafe 35 = .ok (.istore_n 2, 1) := by decide +kernel
theorem dL_isSafe_36 : decode cL_isSafe 36 = .ok (.iinc 3 (-1), 3) := by decide +kernel
theorem dL_isSafe_39 : decode cL_isSafe 39 = .ok (.goto (-28), 3) := by decide +kernel
theorem dL_isSafe_42 : decode cL_isSafe 42 = .ok (.iload_n 1, 1) := by decide +kernel
theorem dL_isSafe_43 : decode cL_isSafe 43 = .ok (.iload_n 2, 1) := by decide +kernel
theorem dL_isSafe_44 : decode cL_isSafe 44 = .ok (.bipush 51, 2) := by decide +kernel
theorem dL_isSafe_46 : decode cL_isSafe 46 = .ok (.if_icmp .ne 8, 3) := by decide +kernel
theorem dL_isSafe_49 : decode cL_isSafe 49 = .ok (.bipush (-6), 2) := by decide +kernel
theorem dL_isSafe_51 : decode cL_isSafe 51 = .ok (.goto 4, 3) := by decide +kernel
theorem dL_isSafe_54 : decode cL_isSafe 54 = .ok (.iload_n 2, 1) := by decide +kernel
theorem dL_isSafe_55 : decode cL_isSafe 55 = .ok (.if_icmp .ne 7, 3) := by decide +kernel
theorem dL_isSafe_58 : decode cL_isSafe 58 = .ok (.iconst 1, 1) := by decide +kernel
theorem dL_isSafe_59 : decode cL_isSafe 59 = .ok (.goto 4, 3) := by decide +kernel
theorem dL_isSafe_62 : decode cL_isSafe 62 = .ok (.iconst 0, 1) := by decide +kernel
theorem dL_isSafe_63 : decode cL_isSafe 63 = .ok (.ireturn, 1) := by decide +kernel
set_option maxRecDepth 20000 in
theorem ggL_isBlamed_X6_toBlame : GoodIn wsL_isBlamed wsX6_toBlame := goodIn_r _ [5, 6, 7, 8, 9, 10, 4, 11, 12, 13, 14, 15, 16, 17, 18, 19, 20, 21, 22, 23, 24, 25, 26, 149, 150, 151, 152, 153, 154, 155, 156, 157, 158, 159, 160, 161, 162, 163, 164, 165, 166, 167, 168, 169] rfl (by decide +kernel)
set_option maxRecDepth 20000 in
theorem gL_isBlamed_X6_toBlame : GoodIn wsL_isBlamed (wsV RL 53 RX6 yX6_toBlame wsX6_toBlame) := goodIn_app (goodIn_of _ (by decide +kernel)) ggL_isBlamed_X6_toBlame
set_option maxRecDepth 20000 in
theorem ggL_isBlamed_X6_count : GoodIn wsL_isBlamed wsX6_count := goodIn_r _ [30, 6, 7, 31, 32, 33, 34, 35, 36, 37, 38, 8, 39, 40, 41, 42, 43, 44, 45, 46, 47, 48, 49, 50, 51, 52, 53, 54, 55, 56, 57, 58, 59, 60, 61, 62, 63, 64, 65, 66, 67, 68, 69, 70, 71, 72, 73, 74, 75, 76, 77, 149, 150, 151, 152, 153, 154, 155, 156, 157, 158, 159, 160, 161, 162, 163, 164, 165, 166, 167, 168, 169, 170, 171, 172, 173, 174, 175, 176, 177, 178, 179, 180, 181, 182, 183, 184] rfl (by decide +kernel)
set_option maxRecDepth 20000 in
theorem gL_isBlamed_X6_count : GoodIn wsL_isBlamed (wsV RL 8 RX6 yX6_count wsX6_count) := goodIn_app (goodIn_of _ (by decide +kernel)) ggL_isBlamed_X6_count
set_option maxRecDepth 20000 in
theorem ggL_isBlamed_X6_delay : GoodIn wsL_isBlamed wsX6_delay := goodIn_r _ [81, 42, 6, 82, 83, 84, 85, 86, 87, 88, 89, 90, 91, 92, 93, 94, 95, 96, 73, 97, 76, 98, 99, 100, 101, 102, 75, 103, 104, 105, 106, 16, 107, 108, 18, 109, 110, 19, 111, 112, 113, 114, 115, 116, 117, 118, 119, 47, 120, 49, 54, 121, 122, 55, 123, 124, 125, 126, 59, 127, 128, 129, 130, 61, 69, 131, 132, 133, 134, 135, 136, 137, 138, 139, 140, 141, 142, 143, 144, 149, 150, 151, 152, 153, 154, 177, 178, 179, 155, 156, 157, 158, 159, 160, 161, 162, 163, 164, 165, 166, 167, 168, 169, 170, 171, 172, 173, 174, 180, 181, 182, 183, 184] rfl (by decide +kernel)
set_option maxRecDepth 20000 in
theorem gL_isBlamed_X6_delay : GoodIn wsL_isBlamed (wsV RL 38 RX6 yX6_delay wsX6_delay) := goodIn_app (goodIn_of _ (by decide +kernel)) ggL_isBlamed_X6_delay
set_option maxRecDepth 20000 in
theorem ggL_isBlamed_X6_safeGap : GoodIn wsL_isBlamed wsX6_safeGap := goodIn_r _ [148, 6, 7, 13, 14, 15, 16, 17, 18, 19, 20, 21, 4, 22, 23, 24, 25, 26, 149, 150, 151, 152, 153, 154, 155, 156, 157, 158, 159, 160, 161, 162, 163, 164, 165, 166, 167, 168, 169] rfl (by decide +kernel)
set_option maxRecDepth 20000 in
theorem gL_isBlamed_X6_safeGap : GoodIn wsL_isBlamed (wsV RL 50 RX6 yX6_safeGap wsX6_safeGap) := goodIn_app (goodIn_of _ (by decide +kernel)) ggL_isBlamed_X6_safeGap
theorem dL_isBlamed_0 : decode cL_isBlamed 0 = .ok (.aload_n 0, 1) := by decide +kernel
theorem dL_isBlamed_1 : decode cL_isBlamed 1 = .ok (.iconst 0, 1) := by decide +kernel
theorem dL_isBlamed_2 : decode cL_isBlamed 2 = .ok (.invokevirtual 53, 3) := by decide +kernel
theorem dL_isBlamed_5 : decode cL_isBlamed 5 = .ok (.istore_n 1, 1) := by decide +kernel
theorem dL_isBlamed_6 : decode cL_isBlamed 6 = .ok (.aload_n 0, 1) := by decide +kernel
theorem dL_isBlamed_7 : decode cL_isBlamed 7 = .ok (.iconst 1, 1) := by decide +kernel
theorem dL_isBlamed_8 : decode cL_isBlamed 8 = .ok (.invokevirtual 53, 3) := by decide +kernel
theorem dL_isBlamed_11 : decode cL_isBlamed 11 = .ok (.istore_n 2, 1) := by decide +kernel
theorem dL_isBlamed_12 : decode cL_isBlamed 12 = .ok (.iconst (-1), 1) := by decide +kernel
theorem dL_isBlamed_13 : decode cL_isBlamed 13 = .ok (.istore_n 3, 1) := by decide +kernel
theorem dL_isBlamed_14 : decode cL_isBlamed 14 = .ok (.bipush 99, 2) := by decide +kernel
theorem dL_isBlamed_16 : decode cL_isBlamed 16 = .ok (.istore 4, 2) := by decide +kernel
theorem dL_isBlamed_18 : decode cL_isBlamed 18 = .ok (.iconst 0, 1) := by decide +kernel
theorem dL_isBlamed_19 : decode cL_isBlamed 19 = .ok (.istore 5, 2) := by decide +kernel
theorem dL_isBlamed_21 : decode cL_isBlamed 21 = .ok (.iload 5, 2) := by decide +kernel
theorem dL_isBlamed_23 : decode cL_isBlamed 23 = .ok (.aload_n 0, 1) := by decide +kernel
theorem dL_isBlamed_24 : decode cL_isBlamed 24 = .ok (.bipush 10, 2) := by decide +kernel
theorem dL_isBlamed_26 : decode cL_isBlamed 26 = .ok (.invokevirtual 8, 3) := by decide +kernel
theorem dL_isBlamed_29 : decode cL_isBlamed 29 = .ok (.if_icmp .ge 84, 3) := by decide +kernel
theorem dL_isBlamed_32 : decode cL_isBlamed 32 = .ok (.aload_n 0, 1) := by decide +kernel
theorem dL_isBlamed_33 : decode cL_isBlamed 33 = .ok (.iload 5, 2) := by decide +kernel
theorem dL_isBlamed_35 : decode cL_isBlamed 35 = .ok (.iconst 1, 1) := by decide +kernel
theorem dL_isBlamed_36 : decode cL_isBlamed 36 = .ok (.invokevirtual 38, 3) := by decide +kernel
theorem dL_isBlamed_39 : decode cL_isBlamed 39 = .ok (.istore 6, 2) := by decide +kernel
theorem dL_isBlamed_41 : decode cL_isBlamed 41 = .ok (.aload_n 0, 1) := by decide +kernel
theorem dL_isBlamed_42 : decode cL_isBlamed 42 = .ok (.invokevirtual 50, 3) := by decide +kernel
theorem dL_isBlamed_45 : decode cL_isBlamed 45 = .ok (.istore 7, 2) := by decide +kernel
theorem dL_isBlamed_47 : decode cL_isBlamed 47 = .ok (.iload 7, 2) := by decide +kernel
theorem dL_isBlamed_49 : decode cL_isBlamed 49 = .ok (.bipush (-6), 2) := by decide +kernel
theorem dL_isBlamed_51 : decode cL_isBlamed 51 = .ok (.if_icmp .ne 8, 3) := by decide +kernel
theorem dL_isBlamed_54 : decode cL_isBlamed 54 = .ok (.bipush 51, 2) := by decide +kernel
theorem dL_isBlamed_56 : decode cL_isBlamed 56 = .ok (.goto 5, 3) := by decide +kernel
theorem dL_isBlamed_59 : decode cL_isBlamed 59 = .ok (.iload 7, 2) := by decide +kernel
theorem dL_isBlamed_61 : decode cL_isBlamed 61 = .ok (.istore 7, 2) := by decide +kernel
theorem dL_isBlamed_63 : decode cL_isBlamed 63 = .ok (.iload 7, 2) := by decide +kernel
theorem dL_isBlamed_65 : decode cL_isBlamed 65 = .ok (.iload 4, 2) := by decide +kernel
theorem dL_isBlamed_67 : decode cL_isBlamed 67 = .ok (.if_icmp .ge 8, 3) := by decide +kernel
theorem dL_isBlamed_70 : decode cL_isBlamed 70 = .ok (.iload 5, 2) := by decide +kernel
theorem dL_isBlamed_72 : decode cL_isBlamed 72 = .ok (.goto 4, 3) := by decide +kernel
theorem dL_isBlamed_75 : decode cL_isBlamed 75 = .ok (.iload_n 3, 1) := by decide +kernel
theorem dL_isBlamed_76 : decode cL_isBlamed 76 = .ok (.istore_n 3, 1) := by decide +kernel
theorem dL_isBlamed_77 : decode cL_isBlamed 77 = .ok (.iload 7, 2) := by decide +kernel
theorem dL_isBlamed_79 : decode cL_isBlamed 79 = .ok (.iload 4, 2) := by decide +kernel
theorem dL_isBlamed_81 : decode cL_isBlamed 81 = .ok (.if_icmp .ge 8, 3) := by decide +kernel
theorem dL_isBlamed_84 : decode cL_isBlamed 84 = .ok (.iload 7, 2) := by decide +kernel
theorem dL_isBlamed_86 : decode cL_isBlamed 86 = .ok (.goto 5, 3) := by decide +kernel
theorem dL_isBlamed_89 : decode cL_isBlamed 89 = .ok (.iload 4, 2) := by decide +kernel
theorem dL_isBlamed_91 : decode cL_isBlamed 91 = .ok (.istore 4, 2) := by decide +kernel
theorem dL_isBlamed_93 : decode cL_isBlamed 93 = .ok (.aload_n 0, 1) := by decide +kernel
theorem dL_isBlamed_94 : decode cL_isBlamed 94 = .ok (.iload 5, 2) := by decide +kernel
theorem dL_isBlamed_96 : decode cL_isBlamed 96 = .ok (.iload 6, 2) := by decide +kernel
theorem dL_isBlamed_98 : decode cL_isBlamed 98 = .ok (.invokevirtual 38, 3) := by decide +kernel
theorem dL_isBlamed_101 : decode cL_isBlamed 101 = .ok (.iconst 1, 1) := by decide +kernel
theorem dL_isBlamed_102 : decode cL_isBlamed 102 = .ok (.if_icmp .eq 5, 3) := by decide +kernel
theorem dL_isBlamed_105 : decode cL_isBlamed 105 = .ok (.iconst 0, 1) := by decide +kernel
theorem dL_isBlamed_106 : decode cL_isBlamed 106 = .ok (.ireturn, 1) := by decide +kernel
theorem dL_isBlamed_107 : decode cL_isBlamed 107 = .ok (.iinc 5 1, 3) := by decide +kernel
theorem dL_isBlamed_110 : decode cL_isBlamed 110 = .ok (.goto (-89), 3) := by decide +kernel
theorem dL_isBlamed_113 : decode cL_isBlamed 113 = .ok (.iload_n 1, 1) := by decide +kernel
theorem dL_isBlamed_114 : decode cL_isBlamed 114 = .ok (.iload_n 3, 1) := by decide +kernel
theorem dL_isBlamed_115 : decode cL_isBlamed 115 = .ok (.if_icmp .ne 13, 3) := by decide +kernel
theorem dL_isBlamed_118 : decode cL_isBlamed 118 = .ok (.iload_n 2, 1) := by decide +kernel
theorem dL_isBlamed_119 : decode cL_isBlamed 119 = .ok (.iload 4, 2) := by decide +kernel
theorem dL_isBlamed_121 : decode cL_isBlamed 121 = .ok (.if_icmp .ne 7, 3) := by decide +kernel
theorem dL_isBlamed_124 : decode cL_isBlamed 124 = .ok (.iconst 1, 1) := by decide +kernel
theorem dL_isBlamed_125 : decode cL_isBlamed 125 = .ok (.goto 4, 3) := by decide +kernel
theorem dL_isBlamed_128 : decode cL_isBlamed 128 = .ok (.iconst 0, 1) := by decide +kernel
theorem dL_isBlamed_129 : decode cL_isBlamed 129 = .ok (.ireturn, 1) := by decide +kernel
set_option maxRecDepth 20000 in
theorem ggL_does_L_low : GoodIn wsL_does wsL_low := goodIn_r _ [4, 5] rfl (by decide +kernel)
set_option maxRecDepth 20000 in
theorem gL_does_L_low : GoodIn wsL_does (va_wsS RL 56 yL_low wsL_low) := goodIn_app (goodIn_of _ (by decide +kernel)) ggL_does_L_low
set_option maxRecDepth 20000 in
theorem ggL_does_X6_count : GoodIn wsL_does wsX6_count := goodIn_r _ [10, 11, 12, 13, 14, 15, 16, 17, 18, 19, 20, 21, 22, 23, 24, 25, 26, 27, 28, 29, 30, 31, 32, 33, 34, 35, 36, 37, 38, 39, 40, 41, 42, 43, 44, 45, 46, 47, 48, 49, 50, 51, 52, 53, 54, 55, 56, 57, 58, 59, 60, 274, 275, 276, 277, 278, 279, 280, 281, 282, 283, 284, 285, 286, 287, 288, 289, 290, 291, 292, 293, 294, 295, 296, 297, 298, 299, 300, 301, 302, 303, 304, 305, 306, 307, 308, 309] rfl (by decide +kernel)
set_option maxRecDepth 20000 in
theorem gL_does_X6_count : GoodIn wsL_does (wsV RL 8 RX6 yX6_count wsX6_count) := goodIn_app (goodIn_of _ (by decide +kernel)) ggL_does_X6_count
set_option maxRecDepth 20000 in
theorem ggL_does_X6_clock : GoodIn wsL_does wsX6_clock := goodIn_r _ [64, 25, 11, 65, 66, 67, 68, 69, 70, 71, 72, 73, 74, 75, 76, 77, 78, 79, 56, 80, 59, 81, 82, 83, 84, 85, 58, 86, 87, 88, 89, 90, 91, 92, 93, 94, 95, 96, 97, 98, 99, 100, 101, 102, 103, 104, 105, 30, 106, 32, 37, 107, 108, 38, 109, 110, 111, 112, 42, 113, 114, 115, 116, 44, 52, 117, 118, 119, 120, 121, 60, 122, 123, 124, 125, 126, 127, 128, 129, 130, 274, 275, 276, 277, 278, 279, 302, 303, 304, 280, 281, 282, 283, 284, 285, 286, 287, 288, 289, 290, 291, 292, 293, 294, 295, 296, 297, 298, 299, 305, 306, 307, 308, 309] rfl (by decide +kernel)
set_option maxRecDepth 20000 in
theorem gL_does_X6_clock : GoodIn wsL_does (wsV RL 41 RX6 yX6_clock wsX6_clock) := goodIn_app (goodIn_of _ (by decide +kernel)) ggL_does_X6_clock
set_option maxRecDepth 20000 in
theorem ggL_does_X6_of : GoodIn wsL_does wsX6_of := goodIn_r _ [134, 11, 12, 135, 136, 137, 138, 139, 90, 140, 93, 141, 142, 143, 144, 94, 145, 146, 147, 148, 102, 149, 150, 151, 152, 92, 274, 275, 276, 277, 278, 279, 280, 281, 282, 283, 284, 285, 286, 287, 288, 289, 290, 291, 292, 293, 294] rfl (by decide +kernel)
set_option maxRecDepth 20000 in
theorem gL_does_X6_of : GoodIn wsL_does (wsV RL 14 RX6 yX6_of wsX6_of) := goodIn_app (goodIn_of _ (by decide +kernel)) ggL_does_X6_of
set_option maxRecDepth 20000 in
theorem ggL_does_X6_delay : GoodIn wsL_does wsX6_delay := goodIn_r _ [156, 25, 11, 65, 66, 67, 68, 69, 70, 71, 72, 73, 74, 75, 76, 77, 78, 79, 56, 80, 59, 81, 82, 83, 84, 85, 58, 86, 87, 88, 89, 90, 91, 92, 93, 94, 95, 96, 97, 98, 99, 100, 101, 102, 103, 104, 105, 30, 106, 32, 37, 107, 108, 38, 109, 110, 111, 112, 42, 113, 114, 115, 116, 44, 52, 117, 157, 158, 159, 160, 161, 162, 138, 139, 140, 127, 128, 129, 130, 274, 275, 276, 277, 278, 279, 302, 303, 304, 280, 281, 282, 283, 284, 285, 286, 287, 288, 289, 290, 291, 292, 293, 294, 295, 296, 297, 298, 299, 305, 306, 307, 308, 309] rfl (by decide +kernel)
set_option maxRecDepth 20000 in
theorem gL_does_X6_delay : GoodIn wsL_does (wsV RL 38 RX6 yX6_delay wsX6_delay) := goodIn_app (goodIn_of _ (by decide +kernel)) ggL_does_X6_delay
set_option maxRecDepth 20000 in
theorem ggL_does_X6_read : GoodIn wsL_does wsX6_read := goodIn_r _ [166, 25, 11, 65, 66, 67, 68, 69, 70, 71, 72, 73, 74, 75, 76, 77, 78, 79, 56, 80, 59, 81, 82, 83, 84, 85, 58, 86, 87, 88, 89, 90, 91, 92, 93, 94, 95, 96, 97, 98, 99, 100, 101, 102, 103, 104, 105, 30, 106, 32, 37, 107, 108, 38, 109, 110, 111, 112, 42, 113, 114, 115, 116, 44, 52, 117, 167, 168, 169, 170, 171, 172, 60, 173, 174, 175, 176, 127, 128, 129, 130, 274, 275, 276, 277, 278, 279, 302, 303, 304, 280, 281, 282, 283, 284, 285, 286, 287, 288, 289, 290, 291, 292, 293, 294, 295, 296, 297, 298, 299, 305, 306, 307, 308, 309] rfl (by decide +kernel)
set_option maxRecDepth 20000 in
theorem gL_does_X6_read : GoodIn wsL_does (wsV RL 44 RX6 yX6_read wsX6_read) := goodIn_app (goodIn_of _ (by decide +kernel)) ggL_does_X6_read
set_option maxRecDepth 20000 in
theorem ggL_does_X6_reading : GoodIn wsL_does wsX6_reading := goodIn_r _ [180, 11, 17, 181, 182, 183, 30, 184, 32, 37, 108, 38, 109, 33, 34, 35, 36, 274, 275, 276, 277, 278, 279, 280, 281, 282, 283, 284, 285, 286, 287, 295, 296, 297, 298, 299] rfl (by decide +kernel)
set_option maxRecDepth 20000 in
theorem gL_does_X6_reading : GoodIn wsL_does (wsV RL 28 RX6 yX6_reading wsX6_reading) := goodIn_app (goodIn_of _ (by decide +kernel)) ggL_does_X6_reading
set_option maxRecDepth 20000 in
theorem ggL_does_X6_latch : GoodIn wsL_does wsX6_latch := goodIn_r _ [188, 25, 11, 65, 66, 67, 68, 69, 70, 71, 72, 73, 74, 75, 76, 77, 78, 79, 56, 80, 59, 81, 82, 83, 84, 85, 58, 86, 87, 88, 89, 90, 91, 92, 93, 94, 95, 96, 97, 98, 99, 100, 101, 102, 103, 104, 105, 30, 106, 32, 37, 107, 108, 38, 109, 110, 111, 112, 42, 113, 114, 115, 116, 44, 52, 117, 189, 190, 191, 192, 171, 127, 128, 129, 130, 274, 275, 276, 277, 278, 279, 302, 303, 304, 280, 281, 282, 283, 284, 285, 286, 287, 288, 289, 290, 291, 292, 293, 294, 295, 296, 297, 298, 299, 305, 306, 307, 308, 309] rfl (by decide +kernel)
set_option maxRecDepth 20000 in
theorem gL_does_X6_latch : GoodIn wsL_does (wsV RL 61 RX6 yX6_latch wsX6_latch) := goodIn_app (goodIn_of _ (by decide +kernel)) ggL_does_X6_latch
set_option maxRecDepth 20000 in
theorem ggL_does_X6_set : GoodIn wsL_does wsX6_set := goodIn_r _ [196, 25, 11, 65, 66, 67, 68, 69, 70, 71, 72, 73, 74, 75, 76, 77, 78, 79, 56, 80, 59, 81, 82, 83, 84, 85, 58, 86, 87, 88, 89, 90, 91, 92, 93, 94, 95, 96, 97, 98, 99, 100, 101, 102, 103, 104, 105, 30, 106, 32, 37, 107, 108, 38, 109, 110, 111, 112, 42, 113, 114, 115, 116, 44, 52, 117, 197, 198, 199, 200, 201, 202, 203, 204, 122, 205, 206, 207, 208, 209, 210, 211, 212, 213, 214, 215, 216, 217, 218, 219, 220, 221, 222, 223, 224, 225, 127, 128, 129, 130, 274, 275, 276, 277, 278, 279, 302, 303, 304, 280, 281, 282, 283, 284, 285, 286, 287, 288, 289, 290, 291, 292, 293, 294, 295, 296, 297, 298, 299, 305, 306, 307, 308, 309] rfl (by decide +kernel)
set_option maxRecDepth 20000 in
theorem gL_does_X6_set : GoodIn wsL_does (wsV RL 35 RX6 yX6_set wsX6_set) := goodIn_app (goodIn_of _ (by decide +kernel)) ggL_does_X6_set
set_option maxRecDepth 20000 in
theorem ggL_does_L_passes : GoodIn wsL_does wsL_passes := goodIn_r _ [228, 6, 7, 8, 9, 10, 11, 12, 13, 14, 15, 16, 17, 18, 19, 20, 21, 22, 23, 24, 25, 26, 27, 28, 29, 30, 31, 32, 33, 34, 35, 36, 37, 38, 39, 40, 41, 42, 43, 44, 45, 46, 47, 48, 49, 50, 51, 52, 53, 54, 55, 56, 57, 58, 59, 60, 229, 230, 231, 232, 233, 234, 88, 89, 90, 91, 92, 93, 94, 95, 96, 97, 98, 99, 100, 101, 102, 235, 236, 237, 238, 239, 240, 241, 242, 243, 244, 245, 246, 247, 124, 125, 126, 248, 249, 250, 251, 131, 132, 133, 134, 135, 136, 137, 138, 139, 140, 141, 142, 143, 144, 145, 146, 147, 148, 149, 150, 151, 152, 252, 253, 254, 255, 65, 66, 67, 68, 69, 70, 71, 72, 73, 74, 75, 76, 77, 78, 79, 80, 81, 82, 83, 84, 85, 86, 87, 103, 104, 105, 106, 107, 108, 109, 110, 111, 112, 113, 114, 115, 116, 117, 256, 257, 258, 259, 260, 261, 262, 263, 172, 264, 265, 266, 267, 268, 269, 270, 271, 272, 273, 173, 174, 175, 176, 127, 128, 129, 130, 177, 178, 179, 180, 181, 182, 183, 184, 274, 275, 276, 277, 278, 279, 280, 281, 282, 283, 284, 285, 286, 287, 288, 289, 290, 291, 292, 293, 294, 295, 296, 297, 298, 299, 300, 301, 302, 303, 304, 305, 306, 307, 308, 309] rfl (by decide +kernel)
set_option maxRecDepth 20000 in
theorem gL_does_L_passes : GoodIn wsL_does (va_wsS RL 64 yL_passes wsL_passes) := goodIn_app (goodIn_of _ (by decide +kernel)) ggL_does_L_passes
theorem dL_does_0 : decode cL_does 0 = .ok (.iload_n 1, 1) := by decide +kernel
theorem dL_does_1 : decode cL_does 1 = .ok (.iconst 4, 1) := by decide +kernel
theorem dL_does_2 : decode cL_does 2 = .ok (.ishr, 1) := by decide +kernel
theorem dL_does_3 : decode cL_does 3 = .ok (.bipush 6, 2) := by decide +kernel
theorem dL_does_5 : decode cL_does 5 = .ok (.invokestatic 56, 3) := by decide +kernel
theorem dL_does_8 : decode cL_does 8 = .ok (.istore_n 2, 1) := by decide +kernel
theorem dL_does_9 : decode cL_does 9 = .ok (.aload_n 0, 1) := by decide +kernel
theorem dL_does_10 : decode cL_does 10 = .ok (.iconst 4, 1) := by decide +kernel
theorem dL_does_11 : decode cL_does 11 = .ok (.invokevirtual 8, 3) := by decide +kernel
theorem dL_does_14 : decode cL_does 14 = .ok (.aload_n 0, 1) := by decide +kernel
theorem dL_does_15 : decode cL_does 15 = .ok (.bipush 9, 2) := by decide +kernel
theorem dL_does_17 : decode cL_does 17 = .ok (.invokevirtual 8, 3) := by decide +kernel
theorem dL_does_20 : decode cL_does 20 = .ok (.iadd, 1) := by decide +kernel
theorem dL_does_21 : decode cL_does 21 = .ok (.istore_n 3, 1) := by decide +kernel
theorem dL_does_22 : decode cL_does 22 = .ok (.iload_n 1, 1) := by decide +kernel
theorem dL_does_23 : decode cL_does 23 = .ok (.bipush 16, 2) := by decide +kernel
theorem dL_does_25 : decode cL_does 25 = .ok (.invokestatic 56, 3) := by decide +kernel
theorem dL_does_28 : decode cL_does 28 = .ok (.tableswitch 569 0 9 #[56, 56, 56, 56, 56, 135, 223, 342, 402, 458], 56) := by decide +kernel
theorem dL_does_84 : decode cL_does 84 = .ok (.aload_n 0, 1) := by decide +kernel
theorem dL_does_85 : decode cL_does 85 = .ok (.iconst 2, 1) := by decide +kernel
theorem dL_does_86 : decode cL_does 86 = .ok (.invokevirtual 8, 3) := by decide +kernel
theorem dL_does_89 : decode cL_does 89 = .ok (.istore 4, 2) := by decide +kernel
theorem dL_does_91 : decode cL_does 91 = .ok (.aload_n 0, 1) := by decide +kernel
theorem dL_does_92 : decode cL_does 92 = .ok (.invokevirtual 41, 3) := by decide +kernel
theorem dL_does_95 : decode cL_does 95 = .ok (.istore 5, 2) := by decide +kernel
theorem dL_does_97 : decode cL_does 97 = .ok (.iload 5, 2) := by decide +kernel
theorem dL_does_99 : decode cL_does 99 = .ok (.bipush (-5), 2) := by decide +kernel
theorem dL_does_101 : decode cL_does 101 = .ok (.if_icmp .ne 29, 3) := by decide +kernel
theorem dL_does_104 : decode cL_does 104 = .ok (.aload_n 0, 1) := by decide +kernel
theorem dL_does_105 : decode cL_does 105 = .ok (.iconst 2, 1) := by decide +kernel
theorem dL_does_106 : decode cL_does 106 = .ok (.invokevirtual 8, 3) := by decide +kernel
theorem dL_does_109 : decode cL_does 109 = .ok (.iload 4, 2) := by decide +kernel
theorem dL_does_111 : decode cL_does 111 = .ok (.if_icmp .ne 15, 3) := by decide +kernel
theorem dL_does_114 : decode cL_does 114 = .ok (.aload_n 0, 1) := by decide +kernel
theorem dL_does_115 : decode cL_does 115 = .ok (.iconst 3, 1) := by decide +kernel
theorem dL_does_116 : decode cL_does 116 = .ok (.invokevirtual 8, 3) := by decide +kernel
theorem dL_does_119 : decode cL_does 119 = .ok (.ifCond .le 7, 3) := by decide +kernel
theorem dL_does_122 : decode cL_does 122 = .ok (.iconst 1, 1) := by decide +kernel
theorem dL_does_123 : decode cL_does 123 = .ok (.goto 39, 3) := by decide +kernel
theorem dL_does_126 : decode cL_does 126 = .ok (.iconst 0, 1) := by decide +kernel
theorem dL_does_127 : decode cL_does 127 = .ok (.goto 35, 3) := by decide +kernel
theorem dL_does_130 : decode cL_does 130 = .ok (.iload 5, 2) := by decide +kernel
theorem dL_does_132 : decode cL_does 132 = .ok (.iload 4, 2) := by decide +kernel
theorem dL_does_134 : decode cL_does 134 = .ok (.iconst 1, 1) := by decide +kernel
theorem dL_does_135 : decode cL_does 135 = .ok (.iadd, 1) := by decide +kernel
