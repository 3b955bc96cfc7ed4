set_option maxRecDepth 20000 in
theorem ggL_law_X6_init : GoodIn wsL_law wsX6_init := goodIn_r _ [9, 10, 11, 12, 13, 14, 15, 16, 17, 18, 19, 20, 21, 22, 23, 24, 25, 26, 27, 28, 29, 30, 31, 32, 33, 34, 35, 36, 37, 38, 39, 40, 41, 42, 43, 44, 45, 46, 47, 48, 49, 50, 51, 52, 53, 54, 55, 56, 57, 58, 59, 60, 61, 62, 63, 64, 65, 66, 67, 68, 69, 70, 71, 72, 73, 74, 75, 76, 77, 78, 79, 80, 81, 82, 83, 84, 85, 713, 714, 715, 716, 717, 718, 719, 720, 700, 701, 702, 703, 704, 705, 721, 722, 723, 724, 725, 726, 727, 728, 729, 730, 731, 732, 733, 734, 735, 736, 737, 738, 739, 740, 741, 742] (by decide +kernel) (by decide +kernel)
set_option maxRecDepth 20000 in
theorem gL_law_X6_init : GoodIn wsL_law (wsX6_init) := ggL_law_X6_init
set_option maxRecDepth 20000 in
theorem ggL_law_X7_init : GoodIn wsL_law wsX7_init := goodIn_r _ [88, 89, 11, 12, 53, 90, 91, 92, 22, 93, 94, 95, 96, 97, 5, 98, 706, 707, 708, 709, 710, 711, 712] (by decide +kernel) (by decide +kernel)
set_option maxRecDepth 20000 in
theorem gL_law_X7_init : GoodIn wsL_law (wsX7_init) := ggL_law_X7_init
set_option maxRecDepth 20000 in
theorem ggL_law_X6_set : GoodIn wsL_law wsX6_set := goodIn_r _ [102, 20, 16, 103, 104, 105, 19, 106, 80, 107, 108, 109, 110, 111, 112, 113, 114, 115, 15, 116, 36, 40, 44, 45, 117, 46, 47, 118, 119, 120, 121, 26, 122, 123, 52, 124, 125, 54, 126, 127, 128, 129, 55, 56, 130, 131, 132, 39, 133, 134, 64, 135, 65, 66, 67, 136, 137, 138, 43, 139, 140, 71, 141, 72, 73, 74, 142, 143, 144, 145, 146, 147, 148, 149, 150, 151, 152, 153, 154, 57, 58, 59, 60, 155, 156, 157, 158, 159, 160, 161, 162, 163, 164, 165, 166, 167, 168, 169, 170, 171, 700, 701, 702, 703, 704, 705, 721, 722, 723, 713, 714, 715, 716, 717, 718, 719, 720, 724, 725, 726, 727, 728, 729, 730, 733, 734, 735, 736, 737, 738, 739, 740, 741, 742] (by decide +kernel) (by decide +kernel)
set_option maxRecDepth 20000 in
theorem gL_law_X6_set : GoodIn wsL_law (wsV RL 13 RX6 yX6_set wsX6_set) := goodIn_app (goodIn_of _ (by decide +kernel)) ggL_law_X6_set
set_option maxRecDepth 20000 in
theorem ggL_law_X7_set : GoodIn wsL_law wsX7_set := goodIn_r _ [175, 90, 176, 177, 5, 178, 179, 180, 181, 182, 183, 91, 95, 96, 97, 98, 706, 707, 708, 709, 710, 711, 712] (by decide +kernel) (by decide +kernel)
set_option maxRecDepth 20000 in
theorem gL_law_X7_set : GoodIn wsL_law (wsV RL 17 RX7 yX7_set wsX7_set) := goodIn_app (goodIn_of _ (by decide +kernel)) ggL_law_X7_set
set_option maxRecDepth 20000 in
theorem ggL_law_X6_delay : GoodIn wsL_law wsX6_delay := goodIn_r _ [187, 20, 16, 103, 104, 105, 19, 106, 80, 107, 108, 109, 110, 111, 112, 113, 114, 115, 15, 116, 36, 40, 44, 45, 117, 46, 47, 118, 119, 120, 121, 26, 122, 123, 52, 124, 125, 54, 126, 127, 128, 129, 55, 56, 130, 131, 132, 39, 133, 134, 64, 135, 65, 66, 67, 136, 137, 138, 43, 139, 140, 71, 141, 72, 73, 74, 188, 189, 190, 191, 192, 193, 194, 195, 196, 168, 169, 170, 171, 700, 701, 702, 703, 704, 705, 721, 722, 723, 713, 714, 715, 716, 717, 718, 719, 720, 724, 725, 726, 727, 728, 729, 730, 733, 734, 735, 736, 737, 738, 739, 740, 741, 742] (by decide +kernel) (by decide +kernel)
set_option maxRecDepth 20000 in
theorem gL_law_X6_delay : GoodIn wsL_law (wsV RL 18 RX6 yX6_delay wsX6_delay) := goodIn_app (goodIn_of _ (by decide +kernel)) ggL_law_X6_delay
set_option maxRecDepth 20000 in
theorem ggL_law_X7_delay : GoodIn wsL_law wsX7_delay := goodIn_r _ [200, 90, 201, 202, 203, 5, 204, 205, 206, 207, 208, 176, 177, 178, 179, 180, 181, 182, 183, 91, 706, 707, 708, 709, 710, 711, 712] (by decide +kernel) (by decide +kernel)
set_option maxRecDepth 20000 in
theorem gL_law_X7_delay : GoodIn wsL_law (wsV RL 21 RX7 yX7_delay wsX7_delay) := goodIn_app (goodIn_of _ (by decide +kernel)) ggL_law_X7_delay
set_option maxRecDepth 20000 in
theorem ggL_law_X6_clock : GoodIn wsL_law wsX6_clock := goodIn_r _ [212, 20, 16, 103, 104, 105, 19, 106, 80, 107, 108, 109, 110, 111, 112, 113, 114, 115, 15, 116, 36, 40, 44, 45, 117, 46, 47, 118, 119, 120, 121, 26, 122, 123, 52, 124, 125, 54, 126, 127, 128, 129, 55, 56, 130, 131, 132, 39, 133, 134, 64, 135, 65, 66, 67, 136, 137, 138, 43, 139, 140, 71, 141, 72, 73, 74, 213, 214, 215, 216, 217, 150, 218, 219, 220, 221, 168, 169, 170, 171, 700, 701, 702, 703, 704, 705, 721, 722, 723, 713, 714, 715, 716, 717, 718, 719, 720, 724, 725, 726, 727, 728, 729, 730, 733, 734, 735, 736, 737, 738, 739, 740, 741, 742] (by decide +kernel) (by decide +kernel)
set_option maxRecDepth 20000 in
theorem gL_law_X6_clock : GoodIn wsL_law (wsV RL 22 RX6 yX6_clock wsX6_clock) := goodIn_app (goodIn_of _ (by decide +kernel)) ggL_law_X6_clock
set_option maxRecDepth 20000 in
theorem ggL_law_X7_clock : GoodIn wsL_law wsX7_clock := goodIn_r _ [225, 90, 179, 180, 181, 5, 182, 183, 91, 226, 227, 228, 229, 230, 231, 232, 233, 205, 206, 207, 208, 234, 235, 236, 237, 238, 239, 240, 706, 707, 708, 709, 710, 711, 712] (by decide +kernel) (by decide +kernel)
set_option maxRecDepth 20000 in
theorem gL_law_X7_clock : GoodIn wsL_law (wsV RL 26 RX7 yX7_clock wsX7_clock) := goodIn_app (goodIn_of _ (by decide +kernel)) ggL_law_X7_clock
set_option maxRecDepth 20000 in
theorem ggL_law_X6_pass : GoodIn wsL_law wsX6_pass := goodIn_r _ [244, 20, 16, 103, 104, 105, 19, 106, 80, 107, 108, 109, 110, 111, 112, 113, 114, 115, 15, 116, 36, 40, 44, 45, 117, 46, 47, 118, 119, 120, 121, 26, 122, 123, 52, 124, 125, 54, 126, 127, 128, 129, 55, 56, 130, 131, 132, 39, 133, 134, 64, 135, 65, 66, 67, 136, 137, 138, 43, 139, 140, 71, 141, 72, 73, 74, 245, 246, 247, 248, 217, 249, 250, 251, 252, 253, 254, 255, 256, 257, 258, 259, 260, 261, 262, 219, 220, 221, 263, 264, 265, 266, 267, 268, 269, 270, 271, 272, 273, 274, 275, 168, 169, 170, 171, 700, 701, 702, 703, 704, 705, 721, 722, 723, 713, 714, 715, 716, 717, 718, 719, 720, 724, 725, 726, 727, 728, 729, 730, 733, 734, 735, 736, 737, 738, 739, 740, 741, 742] (by decide +kernel) (by decide +kernel)
set_option maxRecDepth 20000 in
theorem gL_law_X6_pass : GoodIn wsL_law (wsV RL 27 RX6 yX6_pass wsX6_pass) := goodIn_app (goodIn_of _ (by decide +kernel)) ggL_law_X6_pass
set_option maxRecDepth 20000 in
theorem ggL_law_X7_pass : GoodIn wsL_law wsX7_pass := goodIn_r _ [279, 280, 281, 282, 5, 283, 90, 176, 177, 178, 179, 180, 181, 182, 183, 91, 284, 285, 286, 287, 288, 289, 290, 291, 205, 206, 207, 208, 238, 239, 240, 292, 293, 294, 295, 234, 235, 236, 237, 296, 297, 298, 299, 300, 301, 302, 303, 304, 305, 306, 307, 308, 309, 310, 311, 312, 313, 314, 315, 706, 707, 708, 709, 710, 711, 712] (by decide +kernel) (by decide +kernel)
set_option maxRecDepth 20000 in
theorem gL_law_X7_pass : GoodIn wsL_law (wsV RL 31 RX7 yX7_pass wsX7_pass) := goodIn_app (goodIn_of _ (by decide +kernel)) ggL_law_X7_pass
set_option maxRecDepth 20000 in
theorem ggL_law_X6_read : GoodIn wsL_law wsX6_read := goodIn_r _ [319, 20, 16, 103, 104, 105, 19, 106, 80, 107, 108, 109, 110, 111, 112, 113, 114, 115, 15, 116, 36, 40, 44, 45, 117, 46, 47, 118, 119, 120, 121, 26, 122, 123, 52, 124, 125, 54, 126, 127, 128, 129, 55, 56, 130, 131, 132, 39, 133, 134, 64, 135, 65, 66, 67, 136, 137, 138, 43, 139, 140, 71, 141, 72, 73, 74, 320, 321, 322, 323, 324, 253, 217, 272, 273, 274, 275, 168, 169, 170, 171, 700, 701, 702, 703, 704, 705, 721, 722, 723, 713, 714, 715, 716, 717, 718, 719, 720, 724, 725, 726, 727, 728, 729, 730, 733, 734, 735, 736, 737, 738, 739, 740, 741, 742] (by decide +kernel) (by decide +kernel)
set_option maxRecDepth 20000 in
theorem gL_law_X6_read : GoodIn wsL_law (wsV RL 32 RX6 yX6_read wsX6_read) := goodIn_app (goodIn_of _ (by decide +kernel)) ggL_law_X6_read
set_option maxRecDepth 20000 in
theorem ggL_law_X7_read : GoodIn wsL_law wsX7_read := goodIn_r _ [328, 329, 330, 331, 5, 332, 90, 179, 180, 181, 182, 183, 91, 312, 313, 314, 315, 300, 301, 302, 303, 205, 206, 207, 208, 706, 707, 708, 709, 710, 711, 712] (by decide +kernel) (by decide +kernel)
set_option maxRecDepth 20000 in
theorem gL_law_X7_read : GoodIn wsL_law (wsV RL 35 RX7 yX7_read wsX7_read) := goodIn_app (goodIn_of _ (by decide +kernel)) ggL_law_X7_read
set_option maxRecDepth 20000 in
theorem ggL_law_X6_latch : GoodIn wsL_law wsX6_latch := goodIn_r _ [336, 20, 16, 103, 104, 105, 19, 106, 80, 107, 108, 109, 110, 111, 112, 113, 114, 115, 15, 116, 36, 40, 44, 45, 117, 46, 47, 118, 119, 120, 121, 26, 122, 123, 52, 124, 125, 54, 126, 127, 128, 129, 55, 56, 130, 131, 132, 39, 133, 134, 64, 135, 65, 66, 67, 136, 137, 138, 43, 139, 140, 71, 141, 72, 73, 74, 337, 338, 339, 340, 324, 168, 169, 170, 171, 700, 701, 702, 703, 704, 705, 721, 722, 723, 713, 714, 715, 716, 717, 718, 719, 720, 724, 725, 726, 727, 728, 729, 730, 733, 734, 735, 736, 737, 738, 739, 740, 741, 742] (by decide +kernel) (by decide +kernel)
set_option maxRecDepth 20000 in
theorem gL_law_X6_latch : GoodIn wsL_law (wsV RL 36 RX6 yX6_latch wsX6_latch) := goodIn_app (goodIn_of _ (by decide +kernel)) ggL_law_X6_latch
set_option maxRecDepth 20000 in
theorem ggL_law_X7_latch : GoodIn wsL_law wsX7_latch := goodIn_r _ [344, 90, 345, 346, 347, 5, 348, 329, 330, 331, 332, 179, 180, 181, 182, 183, 91, 706, 707, 708, 709, 710, 711, 712] (by decide +kernel) (by decide +kernel)
set_option maxRecDepth 20000 in
theorem gL_law_X7_latch : GoodIn wsL_law (wsV RL 39 RX7 yX7_latch wsX7_latch) := goodIn_app (goodIn_of _ (by decide +kernel)) ggL_law_X7_latch
set_option maxRecDepth 20000 in
theorem ggL_law_X6_of : GoodIn wsL_law wsX6_of := goodIn_r _ [352, 16, 353, 354, 355, 356, 194, 195, 26, 196, 52, 357, 358, 359, 360, 124, 361, 362, 363, 364, 56, 365, 366, 367, 368, 123, 700, 701, 702, 703, 704, 705, 713, 714, 715, 716, 717, 718, 719, 720, 724, 725, 726, 727, 728, 729, 730] (by decide +kernel) (by decide +kernel)
set_option maxRecDepth 20000 in
theorem gL_law_X6_of : GoodIn wsL_law (wsV RL 40 RX6 yX6_of wsX6_of) := goodIn_app (goodIn_of _ (by decide +kernel)) ggL_law_X6_of
set_option maxRecDepth 20000 in
theorem ggL_law_X7_of : GoodIn wsL_law wsX7_of := goodIn_r _ [372, 90, 205, 206, 207, 5, 208, 176, 177, 178, 308, 309, 310, 311, 238, 239, 240, 373, 374, 375, 376, 706, 707, 708, 709, 710, 711, 712] (by decide +kernel) (by decide +kernel)
set_option maxRecDepth 20000 in
theorem gL_law_X7_of : GoodIn wsL_law (wsV RL 43 RX7 yX7_of wsX7_of) := goodIn_app (goodIn_of _ (by decide +kernel)) ggL_law_X7_of
set_option maxRecDepth 20000 in
theorem ggL_law_X6_reading : GoodIn wsL_law wsX6_reading := goodIn_r _ [380, 16, 381, 382, 383, 384, 39, 385, 134, 64, 65, 66, 67, 386, 387, 388, 389, 700, 701, 702, 703, 704, 705, 713, 714, 715, 716, 717, 718, 719, 720, 733, 734, 735, 736, 737] (by decide +kernel) (by decide +kernel)
set_option maxRecDepth 20000 in
theorem gL_law_X6_reading : GoodIn wsL_law (wsV RL 44 RX6 yX6_reading wsX6_reading) := goodIn_app (goodIn_of _ (by decide +kernel)) ggL_law_X6_reading
set_option maxRecDepth 20000 in
theorem ggL_law_X7_reading : GoodIn wsL_law wsX7_reading := goodIn_r _ [393, 90, 176, 177, 5, 178, 394, 395, 396, 397, 706, 707, 708, 709, 710, 711, 712] (by decide +kernel) (by decide +kernel)
set_option maxRecDepth 20000 in
theorem gL_law_X7_reading : GoodIn wsL_law (wsV RL 47 RX7 yX7_reading wsX7_reading) := goodIn_app (goodIn_of _ (by decide +kernel)) ggL_law_X7_reading
set_option maxRecDepth 20000 in
theorem ggL_law_X6_seen : GoodIn wsL_law wsX6_seen := goodIn_r _ [401, 16, 402, 403, 404, 405, 43, 406, 140, 71, 72, 73, 74, 700, 701, 702, 703, 704, 705, 713, 714, 715, 716, 717, 718, 719, 720, 738, 739, 740, 741, 742] (by decide +kernel) (by decide +kernel)
set_option maxRecDepth 20000 in
theorem gL_law_X6_seen : GoodIn wsL_law (wsV RL 48 RX6 yX6_seen wsX6_seen) := goodIn_app (goodIn_of _ (by decide +kernel)) ggL_law_X6_seen
set_option maxRecDepth 20000 in
theorem ggL_law_X7_seen : GoodIn wsL_law wsX7_seen := goodIn_r _ [410, 90, 176, 177, 5, 178, 706, 707, 708, 709, 710, 711, 712] (by decide +kernel) (by decide +kernel)
set_option maxRecDepth 20000 in
theorem gL_law_X7_seen : GoodIn wsL_law (wsV RL 51 RX7 yX7_seen wsX7_seen) := goodIn_app (goodIn_of _ (by decide +kernel)) ggL_law_X7_seen
set_option maxRecDepth 20000 in
theorem ggL_law_X6_count : GoodIn wsL_law wsX6_count := goodIn_r _ [414, 16, 353, 415, 416, 417, 418, 381, 419, 402, 420, 421, 422, 31, 423, 20, 424, 425, 426, 427, 39, 428, 134, 386, 387, 388, 389, 64, 66, 429, 430, 431, 43, 432, 72, 433, 434, 435, 436, 437, 438, 439, 73, 440, 441, 442, 15, 443, 47, 36, 217, 700, 701, 702, 703, 704, 705, 713, 714, 715, 716, 717, 718, 719, 720, 724, 725, 726, 727, 728, 729, 730, 733, 734, 735, 736, 737, 731, 732, 721, 722, 723, 738, 739, 740, 741, 742] (by decide +kernel) (by decide +kernel)
set_option maxRecDepth 20000 in
theorem gL_law_X6_count : GoodIn wsL_law (wsV RL 52 RX6 yX6_count wsX6_count) := goodIn_app (goodIn_of _ (by decide +kernel)) ggL_law_X6_count
set_option maxRecDepth 20000 in
theorem ggL_law_X7_count : GoodIn wsL_law wsX7_count := goodIn_r _ [447, 90, 448, 183, 300, 301, 302, 5, 303, 205, 206, 207, 208, 304, 305, 306, 307, 308, 309, 310, 311, 238, 239, 240, 449, 450, 451, 452, 394, 395, 396, 397, 453, 454, 455, 456, 706, 707, 708, 709, 710, 711, 712] (by decide +kernel) (by decide +kernel)
set_option maxRecDepth 20000 in
theorem gL_law_X7_count : GoodIn wsL_law (wsV RL 55 RX7 yX7_count wsX7_count) := goodIn_app (goodIn_of _ (by decide +kernel)) ggL_law_X7_count
set_option maxRecDepth 20000 in
theorem ggL_law_X6_stillIn : GoodIn wsL_law wsX6_stillIn := goodIn_r _ [460, 27, 16, 353, 418, 461, 120, 121, 26, 122, 123, 52, 124, 125, 54, 126, 127, 128, 129, 55, 56, 462, 463, 464, 465, 466, 255, 256, 257, 258, 259, 260, 261, 262, 219, 220, 221, 700, 701, 702, 703, 704, 705, 713, 714, 715, 716, 717, 718, 719, 720, 724, 725, 726, 727, 728, 729, 730] (by decide +kernel) (by decide +kernel)
set_option maxRecDepth 20000 in
theorem gL_law_X6_stillIn : GoodIn wsL_law (wsV RL 56 RX6 yX6_stillIn wsX6_stillIn) := goodIn_app (goodIn_of _ (by decide +kernel)) ggL_law_X6_stillIn
set_option maxRecDepth 20000 in
theorem ggL_law_X7_stillIn : GoodIn wsL_law wsX7_stillIn := goodIn_r _ [470, 471, 472, 473, 5, 474, 90, 304, 305, 306, 307, 205, 206, 207, 208, 308, 309, 310, 311, 238, 239, 240, 288, 289, 290, 291, 292, 293, 294, 295, 234, 235, 236, 237, 296, 297, 298, 299, 300, 301, 302, 303, 312, 313, 314, 315, 706, 707, 708, 709, 710, 711, 712] (by decide +kernel) (by decide +kernel)
set_option maxRecDepth 20000 in
theorem gL_law_X7_stillIn : GoodIn wsL_law (wsV RL 59 RX7 yX7_stillIn wsX7_stillIn) := goodIn_app (goodIn_of _ (by decide +kernel)) ggL_law_X7_stillIn
set_option maxRecDepth 20000 in
theorem ggL_law_X6_showsIn : GoodIn wsL_law wsX6_showsIn := goodIn_r _ [478, 27, 16, 353, 416, 461, 120, 121, 26, 122, 123, 52, 124, 125, 54, 126, 127, 128, 129, 55, 56, 462, 463, 464, 465, 466, 255, 256, 257, 258, 259, 260, 261, 262, 219, 220, 221, 700, 701, 702, 703, 704, 705, 713, 714, 715, 716, 717, 718, 719, 720, 724, 725, 726, 727, 728, 729, 730] (by decide +kernel) (by decide +kernel)
set_option maxRecDepth 20000 in
theorem gL_law_X6_showsIn : GoodIn wsL_law (wsV RL 60 RX6 yX6_showsIn wsX6_showsIn) := goodIn_app (goodIn_of _ (by decide +kernel)) ggL_law_X6_showsIn
set_option maxRecDepth 20000 in
theorem ggL_law_X7_showsIn : GoodIn wsL_law wsX7_showsIn := goodIn_r _ [482, 176, 177, 5, 178, 471, 472, 473, 474, 90, 284, 285, 286, 287, 288, 289, 290, 291, 205, 206, 207, 208, 238, 239, 240, 292, 293, 294, 295, 234, 235, 236, 237, 296, 297, 298, 299, 300, 301, 302, 303, 304, 305, 306, 307, 308, 309, 310, 311, 312, 313, 314, 315, 706, 707, 708, 709, 710, 711, 712] (by decide +kernel) (by decide +kernel)
set_option maxRecDepth 20000 in
theorem gL_law_X7_showsIn : GoodIn wsL_law (wsV RL 63 RX7 yX7_showsIn wsX7_showsIn) := goodIn_app (goodIn_of _ (by decide +kernel)) ggL_law_X7_showsIn
set_option maxRecDepth 20000 in
theorem ggL_law_X6_wrong : GoodIn wsL_law wsX6_wrong := goodIn_r _ [486, 16, 353, 487, 488, 489, 26, 490, 52, 491, 492, 493, 494, 54, 495, 496, 497, 498, 700, 701, 702, 703, 704, 705, 713, 714, 715, 716, 717, 718, 719, 720, 724, 725, 726, 727, 728, 729, 730] (by decide +kernel) (by decide +kernel)
set_option maxRecDepth 20000 in
theorem gL_law_X6_wrong : GoodIn wsL_law (wsV RL 64 RX6 yX6_wrong wsX6_wrong) := goodIn_app (goodIn_of _ (by decide +kernel)) ggL_law_X6_wrong
set_option maxRecDepth 20000 in
theorem ggL_law_X7_wrong : GoodIn wsL_law wsX7_wrong := goodIn_r _ [502, 176, 177, 5, 178, 471, 472, 473, 474, 90, 503, 504, 505, 506, 95, 96, 97, 98, 205, 206, 207, 208, 230, 231, 232, 233, 234, 235, 236, 237, 238, 239, 240, 284, 285, 286, 287, 288, 289, 290, 291, 292, 293, 294, 295, 296, 297, 298, 299, 300, 301, 302, 303, 304, 305, 306, 307, 308, 309, 310, 311, 312, 313, 314, 315, 706, 707, 708, 709, 710, 711, 712] (by decide +kernel) (by decide +kernel)
set_option maxRecDepth 20000 in
theorem gL_law_X7_wrong : GoodIn wsL_law (wsV RL 67 RX7 yX7_wrong wsX7_wrong) := goodIn_app (goodIn_of _ (by decide +kernel)) ggL_law_X7_wrong
set_option maxRecDepth 20000 in
theorem ggL_law_X6_safeGap : GoodIn wsL_law wsX6_safeGap := goodIn_r _ [510, 16, 353, 511, 512, 513, 26, 514, 52, 54, 515, 516, 2, 517, 518, 519, 497, 520, 700, 701, 702, 703, 704, 705, 713, 714, 715, 716, 717, 718, 719, 720, 724, 725, 726, 727, 728, 729, 730] (by decide +kernel) (by decide +kernel)
set_option maxRecDepth 20000 in
theorem gL_law_X6_safeGap : GoodIn wsL_law (wsV RL 68 RX6 yX6_safeGap wsX6_safeGap) := goodIn_app (goodIn_of _ (by decide +kernel)) ggL_law_X6_safeGap
set_option maxRecDepth 20000 in
theorem ggL_law_X7_safeGap : GoodIn wsL_law wsX7_safeGap := goodIn_r _ [524, 471, 472, 473, 5, 474, 90, 525, 526, 527, 528, 503, 504, 505, 506, 95, 96, 97, 98, 205, 206, 207, 208, 230, 231, 232, 233, 234, 235, 236, 237, 238, 239, 240, 284, 285, 286, 287, 288, 289, 290, 291, 292, 293, 294, 295, 296, 297, 298, 299, 300, 301, 302, 303, 304, 305, 306, 307, 308, 309, 310, 311, 312, 313, 314, 315, 706, 707, 708, 709, 710, 711, 712] (by decide +kernel) (by decide +kernel)
set_option maxRecDepth 20000 in
theorem gL_law_X7_safeGap : GoodIn wsL_law (wsV RL 71 RX7 yX7_safeGap wsX7_safeGap) := goodIn_app (goodIn_of _ (by decide +kernel)) ggL_law_X7_safeGap
set_option maxRecDepth 20000 in
theorem ggL_law_X6_toBlame : GoodIn wsL_law wsX6_toBlame := goodIn_r _ [532, 16, 353, 421, 533, 534, 2, 535, 354, 511, 512, 513, 26, 514, 52, 54, 515, 516, 517, 518, 519, 497, 520, 700, 701, 702, 703, 704, 705, 713, 714, 715, 716, 717, 718, 719, 720, 724, 725, 726, 727, 728, 729, 730] (by decide +kernel) (by decide +kernel)
set_option maxRecDepth 20000 in
theorem gL_law_X6_toBlame : GoodIn wsL_law (wsV RL 72 RX6 yX6_toBlame wsX6_toBlame) := goodIn_app (goodIn_of _ (by decide +kernel)) ggL_law_X6_toBlame
set_option maxRecDepth 20000 in
theorem ggL_law_X7_toBlame : GoodIn wsL_law wsX7_toBlame := goodIn_r _ [539, 90, 176, 177, 5, 178, 205, 206, 207, 208, 471, 472, 473, 474, 525, 526, 527, 528, 503, 504, 505, 506, 95, 96, 97, 98, 230, 231, 232, 233, 234, 235, 236, 237, 238, 239, 240, 284, 285, 286, 287, 288, 289, 290, 291, 292, 293, 294, 295, 296, 297, 298, 299, 300, 301, 302, 303, 304, 305, 306, 307, 308, 309, 310, 311, 312, 313, 314, 315, 706, 707, 708, 709, 710, 711, 712] (by decide +kernel) (by decide +kernel)
set_option maxRecDepth 20000 in
theorem gL_law_X7_toBlame : GoodIn wsL_law (wsV RL 75 RX7 yX7_toBlame wsX7_toBlame) := goodIn_app (goodIn_of _ (by decide +kernel)) ggL_law_X7_toBlame
set_option maxRecDepth 20000 in
theorem ggL_law_X6_put : GoodIn wsL_law wsX6_put := goodIn_r _ [543, 31, 544, 545, 546, 30, 547, 548, 85, 549, 550, 551, 552, 700, 701, 702, 703, 704, 705, 731, 732] (by decide +kernel) (by decide +kernel)
set_option maxRecDepth 20000 in
theorem gL_law_X6_put : GoodIn wsL_law (wsV RL 78 RX6 yX6_put wsX6_put) := goodIn_app (goodIn_of _ (by decide +kernel)) ggL_law_X6_put
set_option maxRecDepth 20000 in
theorem ggL_law_X7_put : GoodIn wsL_law wsX7_put := goodIn_r _ [556, 557, 448, 94, 176, 177, 5, 178, 706, 707, 708, 709, 710, 711, 712] (by decide +kernel) (by decide +kernel)
set_option maxRecDepth 20000 in
theorem gL_law_X7_put : GoodIn wsL_law (wsV RL 82 RX7 yX7_put wsX7_put) := goodIn_app (goodIn_of _ (by decide +kernel)) ggL_law_X7_put
set_option maxRecDepth 20000 in
theorem ggL_law_X6_wipe : GoodIn wsL_law wsX6_wipe := goodIn_r _ [561, 31, 562, 563, 564, 30, 565, 548, 700, 701, 702, 703, 704, 705, 731, 732] (by decide +kernel) (by decide +kernel)
set_option maxRecDepth 20000 in
theorem gL_law_X6_wipe : GoodIn wsL_law (wsV RL 83 RX6 yX6_wipe wsX6_wipe) := goodIn_app (goodIn_of _ (by decide +kernel)) ggL_law_X6_wipe
set_option maxRecDepth 20000 in
theorem ggL_law_X7_wipe : GoodIn wsL_law wsX7_wipe := goodIn_r _ [569, 448, 706, 707, 708, 709, 710, 711, 712] (by decide +kernel) (by decide +kernel)
set_option maxRecDepth 20000 in
theorem gL_law_X7_wipe : GoodIn wsL_law (wsV RL 86 RX7 yX7_wipe wsX7_wipe) := goodIn_app (goodIn_of _ (by decide +kernel)) ggL_law_X7_wipe
set_option maxRecDepth 20000 in
theorem ggL_law_X6_fault : GoodIn wsL_law wsX6_fault := goodIn_r _ [573, 31, 574, 575, 576, 30, 577, 548, 85, 578, 579, 580, 581, 582, 583, 584, 585, 586, 587, 588, 589, 590, 591, 592, 700, 701, 702, 703, 704, 705, 731, 732] (by decide +kernel) (by decide +kernel)
set_option maxRecDepth 20000 in
theorem gL_law_X6_fault : GoodIn wsL_law (wsV RL 87 RX6 yX6_fault wsX6_fault) := goodIn_app (goodIn_of _ (by decide +kernel)) ggL_law_X6_fault
set_option maxRecDepth 20000 in
theorem ggL_law_X7_fault : GoodIn wsL_law wsX7_fault := goodIn_r _ [596, 448, 597, 598, 599, 5, 600, 601, 602, 603, 604, 94, 605, 606, 607, 608, 176, 177, 178, 609, 610, 611, 612, 706, 707, 708, 709, 710, 711, 712] (by decide +kernel) (by decide +kernel)
set_option maxRecDepth 20000 in
theorem gL_law_X7_fault : GoodIn wsL_law (wsV RL 90 RX7 yX7_fault wsX7_fault) := goodIn_app (goodIn_of _ (by decide +kernel)) ggL_law_X7_fault
set_option maxRecDepth 20000 in
theorem ggL_law_X6_carryOut : GoodIn wsL_law wsX6_carryOut := goodIn_r _ [616, 31, 20, 16, 574, 575, 576, 30, 577, 548, 85, 578, 579, 580, 581, 582, 583, 584, 585, 586, 587, 588, 589, 590, 591, 592, 103, 104, 105, 19, 106, 80, 107, 108, 109, 110, 111, 112, 113, 114, 115, 15, 116, 36, 40, 44, 45, 117, 46, 47, 118, 119, 120, 121, 26, 122, 123, 52, 124, 125, 54, 126, 127, 128, 129, 55, 56, 130, 131, 132, 39, 133, 134, 64, 135, 65, 66, 67, 136, 137, 138, 43, 139, 140, 71, 141, 72, 73, 74, 617, 618, 619, 2, 620, 423, 621, 622, 623, 624, 625, 626, 627, 628, 629, 630, 631, 632, 633, 634, 635, 636, 637, 638, 639, 640, 641, 642, 643, 644, 645, 646, 647, 648, 649, 650, 217, 651, 214, 215, 216, 150, 218, 219, 220, 221, 249, 250, 251, 252, 253, 254, 255, 256, 257, 258, 259, 260, 261, 262, 263, 264, 265, 266, 267, 268, 269, 270, 271, 272, 273, 274, 275, 213, 652, 245, 246, 247, 248, 653, 188, 189, 190, 191, 192, 193, 194, 195, 196, 320, 321, 322, 323, 324, 337, 338, 339, 340, 562, 563, 564, 565, 168, 169, 170, 171, 700, 701, 702, 703, 704, 705, 731, 732, 721, 722, 723, 713, 714, 715, 716, 717, 718, 719, 720, 724, 725, 726, 727, 728, 729, 730, 733, 734, 735, 736, 737, 738, 739, 740, 741, 742] (by decide +kernel) (by decide +kernel)
set_option maxRecDepth 20000 in
theorem gL_law_X6_carryOut : GoodIn wsL_law (wsV RL 91 RX6 yX6_carryOut wsX6_carryOut) := goodIn_app (goodIn_of _ (by decide +kernel)) ggL_law_X6_carryOut
set_option maxRecDepth 20000 in
theorem ggL_law_X7_carryOut : GoodIn wsL_law wsX7_carryOut := goodIn_r _ [657, 448, 658, 594, 595, 5, 596, 597, 598, 599, 600, 601, 602, 603, 604, 94, 605, 606, 607, 608, 176, 177, 178, 609, 610, 611, 612, 179, 180, 181, 182, 183, 91, 90, 659, 660, 661, 662, 663, 664, 665, 666, 280, 281, 282, 283, 230, 231, 232, 233, 205, 206, 207, 208, 234, 235, 236, 237, 238, 239, 240, 288, 289, 290, 291, 292, 293, 294, 295, 296, 297, 298, 299, 300, 301, 302, 303, 304, 305, 306, 307, 308, 309, 310, 311, 312, 313, 314, 315, 667, 668, 669, 670, 226, 227, 228, 229, 284, 285, 286, 287, 201, 202, 203, 204, 329, 330, 331, 332, 345, 346, 347, 348, 706, 707, 708, 709, 710, 711, 712] (by decide +kernel) (by decide +kernel)
set_option maxRecDepth 20000 in
theorem gL_law_X7_carryOut : GoodIn wsL_law (wsV RL 94 RX7 yX7_carryOut wsX7_carryOut) := goodIn_app (goodIn_of _ (by decide +kernel)) ggL_law_X7_carryOut
set_option maxRecDepth 20000 in
theorem ggL_law_X6_undo : GoodIn wsL_law wsX6_undo := goodIn_r _ [674, 20, 16, 675, 676, 677, 19, 678, 112, 80, 107, 108, 109, 110, 111, 113, 114, 115, 15, 116, 36, 40, 44, 45, 117, 46, 47, 118, 119, 120, 121, 26, 122, 123, 52, 124, 125, 54, 126, 127, 128, 129, 55, 56, 130, 131, 132, 39, 133, 134, 64, 135, 65, 66, 67, 136, 137, 138, 43, 139, 140, 71, 141, 72, 73, 74, 700, 701, 702, 703, 704, 705, 721, 722, 723, 713, 714, 715, 716, 717, 718, 719, 720, 724, 725, 726, 727, 728, 729, 730, 733, 734, 735, 736, 737, 738, 739, 740, 741, 742] (by decide +kernel) (by decide +kernel)
set_option maxRecDepth 20000 in
theorem gL_law_X6_undo : GoodIn wsL_law (wsV RL 95 RX6 yX6_undo wsX6_undo) := goodIn_app (goodIn_of _ (by decide +kernel)) ggL_law_X6_undo
set_option maxRecDepth 20000 in
theorem ggL_law_X7_undo : GoodIn wsL_law wsX7_undo := goodIn_r _ [682, 183, 90, 91, 706, 707, 708, 709, 710, 711, 712] (by decide +kernel) (by decide +kernel)
set_option maxRecDepth 20000 in
theorem gL_law_X7_undo : GoodIn wsL_law (wsV RL 98 RX7 yX7_undo wsX7_undo) := goodIn_app (goodIn_of _ (by decide +kernel)) ggL_law_X7_undo
set_option maxRecDepth 20000 in
theorem ggL_law_X6_save : GoodIn wsL_law wsX6_save := goodIn_r _ [686, 21, 16, 23, 417, 687, 114, 115, 15, 116, 36, 40, 44, 45, 117, 46, 47, 118, 119, 120, 121, 26, 122, 123, 52, 124, 125, 54, 126, 127, 128, 129, 55, 56, 130, 131, 132, 39, 133, 134, 64, 135, 65, 66, 67, 136, 137, 138, 43, 139, 140, 71, 141, 72, 73, 74, 700, 701, 702, 703, 704, 705, 713, 714, 715, 716, 717, 718, 719, 720, 724, 725, 726, 727, 728, 729, 730, 733, 734, 735, 736, 737, 738, 739, 740, 741, 742] (by decide +kernel) (by decide +kernel)
set_option maxRecDepth 20000 in
theorem gL_law_X6_save : GoodIn wsL_law (wsV RL 99 RX6 yX6_save wsX6_save) := goodIn_app (goodIn_of _ (by decide +kernel)) ggL_law_X6_save
set_option maxRecDepth 20000 in
theorem ggL_law_X7_save : GoodIn wsL_law wsX7_save := goodIn_r _ [691, 92, 90, 93, 176, 177, 5, 178, 706, 707, 708, 709, 710, 711, 712] (by decide +kernel) (by decide +kernel)
set_option maxRecDepth 20000 in
theorem gL_law_X7_save : GoodIn wsL_law (wsV RL 102 RX7 yX7_save wsX7_save) := goodIn_app (goodIn_of _ (by decide +kernel)) ggL_law_X7_save
set_option maxRecDepth 20000 in
theorem ggL_law_X6_restore : GoodIn wsL_law wsX6_restore := goodIn_r _ [695, 23, 20, 16, 21, 417, 103, 104, 105, 19, 106, 80, 107, 108, 109, 110, 111, 112, 113, 114, 115, 15, 116, 36, 40, 44, 45, 117, 46, 47, 118, 119, 120, 121, 26, 122, 123, 52, 124, 125, 54, 126, 127, 128, 129, 55, 56, 130, 131, 132, 39, 133, 134, 64, 135, 65, 66, 67, 136, 137, 138, 43, 139, 140, 71, 141, 72, 73, 74, 687, 168, 169, 170, 171, 700, 701, 702, 703, 704, 705, 713, 714, 715, 716, 717, 718, 719, 720, 721, 722, 723, 724, 725, 726, 727, 728, 729, 730, 733, 734, 735, 736, 737, 738, 739, 740, 741, 742] (by decide +kernel) (by decide +kernel)
set_option maxRecDepth 20000 in
theorem gL_law_X6_restore : GoodIn wsL_law (wsV RL 103 RX6 yX6_restore wsX6_restore) := goodIn_app (goodIn_of _ (by decide +kernel)) ggL_law_X6_restore
set_option maxRecDepth 20000 in
theorem ggL_law_X7_restore : GoodIn wsL_law wsX7_restore := goodIn_r _ [699, 93, 90, 92, 176, 177, 5, 178, 179, 180, 181, 182, 183, 91, 706, 707, 708, 709, 710, 711, 712] (by decide +kernel) (by decide +kernel)
set_option maxRecDepth 20000 in
theorem gL_law_X7_restore : GoodIn wsL_law (wsV RL 106 RX7 yX7_restore wsX7_restore) := goodIn_app (goodIn_of _ (by decide +kernel)) ggL_law_X7_restore
theorem dL_law_0 : decode cL_law 0 = .ok (.new 7, 3) := by decide +kernel
theorem dL_law_3 : decode cL_law 3 = .ok (.dup, 1) := by decide +kernel
theorem dL_law_4 : decode cL_law 4 = .ok (.invokespecial 9, 3) := by decide +kernel
theorem dL_law_7 : decode cL_law 7 = .ok (.astore_n 1, 1) := by decide +kernel
theorem dL_law_8 : decode cL_law 8 = .ok (.new 10, 3) := by decide +kernel
theorem dL_law_11 : decode cL_law 11 = .ok (.dup, 1) := by decide +kernel
