set_option maxRecDepth 20000 in
theorem wsL_in_f3 : ∀ w ∈ wsX30, w ∈ lw_tbl := lw_memr _ [89, 91, 93, 95, 97] rfl
set_option maxRecDepth 20000 in
theorem wsL_in_f4 : ∀ w ∈ wsX40, w ∈ lw_tbl := lw_memr _ [111, 113, 115, 117, 119] rfl
set_option maxRecDepth 20000 in
theorem wsL_in_f5 : ∀ w ∈ wsX50, w ∈ lw_tbl := lw_memr _ [60, 62, 64, 66, 68, 70, 72] rfl
set_option maxRecDepth 20000 in
theorem wsL_in_f6 : ∀ w ∈ wsX60, w ∈ lw_tbl := lw_memr _ [195, 197, 199, 201, 203, 205] rfl
