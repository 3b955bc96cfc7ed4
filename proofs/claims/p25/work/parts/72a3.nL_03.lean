set_option maxRecDepth 20000 in
theorem wsL_in_r16 : ∀ w ∈ wsL_law_r16, w ∈ lw_tbl := lw_memr _ [347, 348, 349, 350, 351, 352, 353, 355, 7, 356, 357, 358, 18, 359, 470, 471, 472, 473, 474, 475, 476, 367, 368, 369] rfl
set_option maxRecDepth 20000 in
theorem wsL_in_r17 : ∀ w ∈ wsL_law_r17, w ∈ lw_tbl := lw_memr _ [370, 371, 372, 373, 374, 375, 376, 477, 478, 479, 360, 361, 362, 363, 364, 365, 366] rfl
set_option maxRecDepth 20000 in
theorem wsL_in_f0 : ∀ w ∈ wsX00, w ∈ lw_tbl := lw_memr _ [136, 138, 140, 142, 144, 146, 148, 150] rfl
set_option maxRecDepth 20000 in
theorem wsL_in_f1 : ∀ w ∈ wsX10, w ∈ lw_tbl := lw_memr _ [166, 168, 170] rfl
set_option maxRecDepth 20000 in
theorem wsL_in_f2 : ∀ w ∈ wsX20, w ∈ lw_tbl := lw_memr _ [183, 185] rfl
