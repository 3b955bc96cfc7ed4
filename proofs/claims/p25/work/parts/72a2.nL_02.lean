set_option maxRecDepth 20000 in
theorem wsL_in_r11 : ∀ w ∈ wsL_law_r11, w ∈ lw_tbl := lw_memr _ [453, 454, 455, 456, 457, 458, 459, 460, 46, 461, 270, 271, 272, 273, 274, 275, 276, 277, 55, 278, 462, 463, 464, 465] rfl
set_option maxRecDepth 20000 in
theorem wsL_in_r12 : ∀ w ∈ wsL_law_r12, w ∈ lw_tbl := lw_memr _ [466, 467, 468, 469, 83, 49, 314, 315, 316, 317, 442, 443, 444, 445, 446, 447, 448, 449, 483, 484, 485, 486, 487, 488] rfl
set_option maxRecDepth 20000 in
theorem wsL_in_r13 : ∀ w ∈ wsL_law_r13, w ∈ lw_tbl := lw_memr _ [489, 490, 208, 209, 210, 211, 241, 242, 243, 244, 245, 247, 1, 248, 249, 250, 251, 252, 253, 254, 255, 256, 257, 258] rfl
set_option maxRecDepth 20000 in
theorem wsL_in_r14 : ∀ w ∈ wsL_law_r14, w ∈ lw_tbl := lw_memr _ [259, 260, 261, 262, 264, 2, 265, 491, 492, 493, 282, 283, 284, 285, 286, 287, 288, 289, 290, 292, 3, 293, 294, 306] rfl
set_option maxRecDepth 20000 in
theorem wsL_in_r15 : ∀ w ∈ wsL_law_r15, w ∈ lw_tbl := lw_memr _ [307, 308, 309, 310, 312, 5, 313, 53, 431, 432, 433, 434, 435, 436, 437, 438, 439, 440, 441, 450, 451, 452, 345, 346] rfl
