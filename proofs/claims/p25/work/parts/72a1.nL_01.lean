set_option maxRecDepth 20000 in
theorem wsL_in_r6 : ∀ w ∈ wsL_law_r6, w ∈ lw_tbl := lw_memr _ [342, 343, 344, 43, 377, 378, 379, 380, 381, 382, 383, 384, 162, 216, 218, 0, 219, 164, 220, 221, 222, 223, 130, 134] rfl
set_option maxRecDepth 20000 in
theorem wsL_in_r7 : ∀ w ∈ wsL_law_r7, w ∈ lw_tbl := lw_memr _ [224, 225, 226, 227, 42, 48, 51, 228, 230, 229, 17, 231, 232, 233, 234, 235, 236, 237, 238, 239, 106, 240, 385, 386] rfl
set_option maxRecDepth 20000 in
theorem wsL_in_r8 : ∀ w ∈ wsL_law_r8, w ∈ lw_tbl := lw_memr _ [387, 388, 212, 213, 214, 215, 389, 266, 267, 268, 269, 397, 398, 8, 399, 400, 401, 402, 403, 56, 58, 404, 279, 280] rfl
set_option maxRecDepth 20000 in
theorem wsL_in_r9 : ∀ w ∈ wsL_law_r9, w ∈ lw_tbl := lw_memr _ [281, 405, 406, 407, 408, 409, 410, 411, 412, 413, 414, 415, 416, 417, 418, 419, 420, 421, 422, 423, 424, 425, 426, 295] rfl
set_option maxRecDepth 20000 in
theorem wsL_in_r10 : ∀ w ∈ wsL_law_r10, w ∈ lw_tbl := lw_memr _ [296, 297, 298, 300, 4, 301, 302, 303, 304, 305, 427, 428, 429, 430, 390, 391, 392, 480, 481, 482, 393, 394, 395, 396] rfl
