set_option maxRecDepth 20000 in
theorem ggL_law_X6_put : GoodIn wsL_law wsX6_put := goodIn_s _ [(22, 15), (1, 7), (22, 16), (22, 17), (22, 18), (1, 6), (22, 19), (22, 20), (3, 13), (22, 21), (22, 22), (22, 23), (23, 0), (30, 0), (30, 1), (30, 2), (30, 3), (30, 4), (30, 5), (35, 0), (35, 1)] (by decide +kernel) (by decide +kernel)
set_option maxRecDepth 20000 in
theorem ggL_law_X7_put : GoodIn wsL_law wsX7_put := goodIn_s _ [(23, 4), (23, 5), (18, 16), (3, 22), (7, 8), (7, 9), (0, 5), (7, 10), (31, 0), (31, 1), (31, 2), (31, 3), (31, 4), (31, 5), (31, 6)] (by decide +kernel) (by decide +kernel)
set_option maxRecDepth 20000 in
theorem ggL_law_X6_wipe : GoodIn wsL_law wsX6_wipe := goodIn_s _ [(23, 9), (1, 7), (23, 10), (23, 11), (23, 12), (1, 6), (23, 13), (22, 20), (30, 0), (30, 1), (30, 2), (30, 3), (30, 4), (30, 5), (35, 0), (35, 1)] (by decide +kernel) (by decide +kernel)
set_option maxRecDepth 20000 in
theorem ggL_law_X7_wipe : GoodIn wsL_law wsX7_wipe := goodIn_s _ [(23, 17), (18, 16), (31, 0), (31, 1), (31, 2), (31, 3), (31, 4), (31, 5), (31, 6)] (by decide +kernel) (by decide +kernel)
set_option maxRecDepth 20000 in
theorem ggL_law_X6_fault : GoodIn wsL_law wsX6_fault := goodIn_s _ [(23, 21), (1, 7), (23, 22), (23, 23), (24, 0), (1, 6), (24, 1), (22, 20), (3, 13), (24, 2), (24, 3), (24, 4), (24, 5), (24, 6), (24, 7), (24, 8), (24, 9), (24, 10), (24, 11), (24, 12), (24, 13), (24, 14), (24, 15), (24, 16), (30, 0), (30, 1), (30, 2), (30, 3), (30, 4), (30, 5), (35, 0), (35, 1)] (by decide +kernel) (by decide +kernel)
set_option maxRecDepth 20000 in
theorem ggL_law_X7_fault : GoodIn wsL_law wsX7_fault := goodIn_s _ [(24, 20), (18, 16), (24, 21), (24, 22), (24, 23), (0, 5), (25, 0), (25, 1), (25, 2), (25, 3), (25, 4), (3, 22), (25, 5), (25, 6), (25, 7), (25, 8), (7, 8), (7, 9), (7, 10), (25, 9), (25, 10), (25, 11), (25, 12), (31, 0), (31, 1), (31, 2), (31, 3), (31, 4), (31, 5), (31, 6)] (by decide +kernel) (by decide +kernel)
set_option maxRecDepth 20000 in
theorem ggL_law_X6_carryOut : GoodIn wsL_law wsX6_carryOut := goodIn_s _ [(25, 16), (1, 7), (0, 20), (0, 16), (23, 22), (23, 23), (24, 0), (1, 6), (24, 1), (22, 20), (3, 13), (24, 2), (24, 3), (24, 4), (24, 5), (24, 6), (24, 7), (24, 8), (24, 9), (24, 10), (24, 11), (24, 12), (24, 13), (24, 14), (24, 15), (24, 16), (4, 7), (4, 8), (4, 9), (0, 19), (4, 10), (3, 8), (4, 11), (4, 12), (4, 13), (4, 14), (4, 15), (4, 16), (4, 17), (4, 18), (4, 19), (0, 15), (4, 20), (1, 12), (1, 16), (1, 20), (1, 21), (4, 21), (1, 22), (1, 23), (4, 22), (4, 23), (5, 0), (5, 1), (1, 2), (5, 2), (5, 3), (2, 4), (5, 4), (5, 5), (2, 6), (5, 6), (5, 7), (5, 8), (5, 9), (2, 7), (2, 8), (5, 10), (5, 11), (5, 12), (1, 15), (5, 13), (5, 14), (2, 16), (5, 15), (2, 17), (2, 18), (2, 19), (5, 16), (5, 17), (5, 18), (1, 19), (5, 19), (5, 20), (2, 23), (5, 21), (3, 0), (3, 1), (3, 2), (25, 17), (25, 18), (25, 19), (0, 2), (25, 20), (17, 15), (25, 21), (25, 22), (25, 23), (26, 0), (26, 1), (26, 2), (26, 3), (26, 4), (26, 5), (26, 6), (26, 7), (26, 8), (26, 9), (26, 10), (26, 11), (26, 12), (26, 13), (26, 14), (26, 15), (26, 16), (26, 17), (26, 18), (26, 19), (26, 20), (26, 21), (26, 22), (26, 23), (27, 0), (27, 1), (27, 2), (9, 1), (27, 3), (8, 22), (8, 23), (9, 0), (6, 6), (9, 2), (9, 3), (9, 4), (9, 5), (10, 9), (10, 10), (10, 11), (10, 12), (10, 13), (10, 14), (10, 15), (10, 16), (10, 17), (10, 18), (10, 19), (10, 20), (10, 21), (10, 22), (10, 23), (11, 0), (11, 1), (11, 2), (11, 3), (11, 4), (11, 5), (11, 6), (11, 7), (11, 8), (11, 9), (11, 10), (11, 11), (8, 21), (27, 4), (10, 5), (10, 6), (10, 7), (10, 8), (27, 5), (7, 20), (7, 21), (7, 22), (7, 23), (8, 0), (8, 1), (8, 2), (8, 3), (8, 4), (13, 8), (13, 9), (13, 10), (13, 11), (13, 12), (14, 1), (14, 2), (14, 3), (14, 4), (23, 10), (23, 11), (23, 12), (23, 13), (7, 0), (7, 1), (7, 2), (7, 3), (30, 0), (30, 1), (30, 2), (30, 3), (30, 4), (30, 5), (35, 0), (35, 1), (33, 0), (33, 1), (33, 2), (32, 0), (32, 1), (32, 2), (32, 3), (32, 4), (32, 5), (32, 6), (32, 7), (34, 0), (34, 1), (34, 2), (34, 3), (34, 4), (34, 5), (34, 6), (36, 0), (36, 1), (36, 2), (36, 3), (36, 4), (37, 0), (37, 1), (37, 2), (37, 3), (37, 4)] (by decide +kernel) (by decide +kernel)
set_option maxRecDepth 20000 in
theorem ggL_law_X7_carryOut : GoodIn wsL_law wsX7_carryOut := goodIn_s _ [(27, 9), (18, 16), (27, 10), (24, 18), (24, 19), (0, 5), (24, 20), (24, 21), (24, 22), (24, 23), (25, 0), (25, 1), (25, 2), (25, 3), (25, 4), (3, 22), (25, 5), (25, 6), (25, 7), (25, 8), (7, 8), (7, 9), (7, 10), (25, 9), (25, 10), (25, 11), (25, 12), (7, 11), (7, 12), (7, 13), (7, 14), (7, 15), (3, 19), (3, 18), (27, 11), (27, 12), (27, 13), (27, 14), (27, 15), (27, 16), (27, 17), (27, 18), (11, 16), (11, 17), (11, 18), (11, 19), (9, 14), (9, 15), (9, 16), (9, 17), (8, 13), (8, 14), (8, 15), (8, 16), (9, 18), (9, 19), (9, 20), (9, 21), (9, 22), (9, 23), (10, 0), (12, 0), (12, 1), (12, 2), (12, 3), (12, 4), (12, 5), (12, 6), (12, 7), (12, 8), (12, 9), (12, 10), (12, 11), (12, 12), (12, 13), (12, 14), (12, 15), (12, 16), (12, 17), (12, 18), (12, 19), (12, 20), (12, 21), (12, 22), (12, 23), (13, 0), (13, 1), (13, 2), (13, 3), (27, 19), (27, 20), (27, 21), (27, 22), (9, 10), (9, 11), (9, 12), (9, 13), (11, 20), (11, 21), (11, 22), (11, 23), (8, 9), (8, 10), (8, 11), (8, 12), (13, 17), (13, 18), (13, 19), (13, 20), (14, 9), (14, 10), (14, 11), (14, 12), (31, 0), (31, 1), (31, 2), (31, 3), (31, 4), (31, 5), (31, 6)] (by decide +kernel) (by decide +kernel)
set_option maxRecDepth 20000 in
theorem ggL_law_X6_undo : GoodIn wsL_law wsX6_undo := goodIn_s _ [(28, 2), (0, 20), (0, 16), (28, 3), (28, 4), (28, 5), (0, 19), (28, 6), (4, 16), (3, 8), (4, 11), (4, 12), (4, 13), (4, 14), (4, 15), (4, 17), (4, 18), (4, 19), (0, 15), (4, 20), (1, 12), (1, 16), (1, 20), (1, 21), (4, 21), (1, 22), (1, 23), (4, 22), (4, 23), (5, 0), (5, 1), (1, 2), (5, 2), (5, 3), (2, 4), (5, 4), (5, 5), (2, 6), (5, 6), (5, 7), (5, 8), (5, 9), (2, 7), (2, 8), (5, 10), (5, 11), (5, 12), (1, 15), (5, 13), (5, 14), (2, 16), (5, 15), (2, 17), (2, 18), (2, 19), (5, 16), (5, 17), (5, 18), (1, 19), (5, 19), (5, 20), (2, 23), (5, 21), (3, 0), (3, 1), (3, 2), (30, 0), (30, 1), (30, 2), (30, 3), (30, 4), (30, 5), (33, 0), (33, 1), (33, 2), (32, 0), (32, 1), (32, 2), (32, 3), (32, 4), (32, 5), (32, 6), (32, 7), (34, 0), (34, 1), (34, 2), (34, 3), (34, 4), (34, 5), (34, 6), (36, 0), (36, 1), (36, 2), (36, 3), (36, 4), (37, 0), (37, 1), (37, 2), (37, 3), (37, 4)] (by decide +kernel) (by decide +kernel)
set_option maxRecDepth 20000 in
theorem ggL_law_X7_undo : GoodIn wsL_law wsX7_undo := goodIn_s _ [(28, 10), (7, 15), (3, 18), (3, 19), (31, 0), (31, 1), (31, 2), (31, 3), (31, 4), (31, 5), (31, 6)] (by decide +kernel) (by decide +kernel)
set_option maxRecDepth 20000 in
theorem ggL_law_X6_save : GoodIn wsL_law wsX6_save := goodIn_s _ [(28, 14), (0, 21), (0, 16), (0, 23), (17, 9), (28, 15), (4, 18), (4, 19), (0, 15), (4, 20), (1, 12), (1, 16), (1, 20), (1, 21), (4, 21), (1, 22), (1, 23), (4, 22), (4, 23), (5, 0), (5, 1), (1, 2), (5, 2), (5, 3), (2, 4), (5, 4), (5, 5), (2, 6), (5, 6), (5, 7), (5, 8), (5, 9), (2, 7), (2, 8), (5, 10), (5, 11), (5, 12), (1, 15), (5, 13), (5, 14), (2, 16), (5, 15), (2, 17), (2, 18), (2, 19), (5, 16), (5, 17), (5, 18), (1, 19), (5, 19), (5, 20), (2, 23), (5, 21), (3, 0), (3, 1), (3, 2), (30, 0), (30, 1), (30, 2), (30, 3), (30, 4), (30, 5), (32, 0), (32, 1), (32, 2), (32, 3), (32, 4), (32, 5), (32, 6), (32, 7), (34, 0), (34, 1), (34, 2), (34, 3), (34, 4), (34, 5), (34, 6), (36, 0), (36, 1), (36, 2), (36, 3), (36, 4), (37, 0), (37, 1), (37, 2), (37, 3), (37, 4)] (by decide +kernel) (by decide +kernel)
set_option maxRecDepth 20000 in
theorem ggL_law_X7_save : GoodIn wsL_law wsX7_save := goodIn_s _ [(28, 19), (3, 20), (3, 18), (3, 21), (7, 8), (7, 9), (0, 5), (7, 10), (31, 0), (31, 1), (31, 2), (31, 3), (31, 4), (31, 5), (31, 6)] (by decide +kernel) (by decide +kernel)
set_option maxRecDepth 20000 in
theorem ggL_law_X6_restore : GoodIn wsL_law wsX6_restore := goodIn_s _ [(28, 23), (0, 23), (0, 20), (0, 16), (0, 21), (17, 9), (4, 7), (4, 8), (4, 9), (0, 19), (4, 10), (3, 8), (4, 11), (4, 12), (4, 13), (4, 14), (4, 15), (4, 16), (4, 17), (4, 18), (4, 19), (0, 15), (4, 20), (1, 12), (1, 16), (1, 20), (1, 21), (4, 21), (1, 22), (1, 23), (4, 22), (4, 23), (5, 0), (5, 1), (1, 2), (5, 2), (5, 3), (2, 4), (5, 4), (5, 5), (2, 6), (5, 6), (5, 7), (5, 8), (5, 9), (2, 7), (2, 8), (5, 10), (5, 11), (5, 12), (1, 15), (5, 13), (5, 14), (2, 16), (5, 15), (2, 17), (2, 18), (2, 19), (5, 16), (5, 17), (5, 18), (1, 19), (5, 19), (5, 20), (2, 23), (5, 21), (3, 0), (3, 1), (3, 2), (28, 15), (7, 0), (7, 1), (7, 2), (7, 3), (30, 0), (30, 1), (30, 2), (30, 3), (30, 4), (30, 5), (32, 0), (32, 1), (32, 2), (32, 3), (32, 4), (32, 5), (32, 6), (32, 7), (33, 0), (33, 1), (33, 2), (34, 0), (34, 1), (34, 2), (34, 3), (34, 4), (34, 5), (34, 6), (36, 0), (36, 1), (36, 2), (36, 3), (36, 4), (37, 0), (37, 1), (37, 2), (37, 3), (37, 4)] (by decide +kernel) (by decide +kernel)
set_option maxRecDepth 20000 in
theorem ggL_law_X7_restore : GoodIn wsL_law wsX7_restore := goodIn_s _ [(29, 3), (3, 21), (3, 18), (3, 20), (7, 8), (7, 9), (0, 5), (7, 10), (7, 11), (7, 12), (7, 13), (7, 14), (7, 15), (3, 19), (31, 0), (31, 1), (31, 2), (31, 3), (31, 4), (31, 5), (31, 6)] (by decide +kernel) (by decide +kernel)
theorem gL_law_X6_init : GoodIn wsL_law (wsX6_init) := ggL_law_X6_init
theorem gL_law_X7_init : GoodIn wsL_law (wsX7_init) := ggL_law_X7_init
set_option maxRecDepth 20000 in
theorem gL_law_X6_set : GoodIn wsL_law (wsV RL 13 RX6 yX6_set wsX6_set) := goodIn_app (goodIn_s _ [(4, 3), (4, 4), (4, 5), (0, 2)] (by decide +kernel) (by decide +kernel)) ggL_law_X6_set
set_option maxRecDepth 20000 in
theorem gL_law_X7_set : GoodIn wsL_law (wsV RL 17 RX7 yX7_set wsX7_set) := goodIn_app (goodIn_s _ [(7, 4), (7, 5), (7, 6), (0, 5)] (by decide +kernel) (by decide +kernel)) ggL_law_X7_set
set_option maxRecDepth 20000 in
theorem gL_law_X6_delay : GoodIn wsL_law (wsV RL 18 RX6 yX6_delay wsX6_delay) := goodIn_app (goodIn_s _ [(7, 16), (7, 17), (7, 18), (0, 2)] (by decide +kernel) (by decide +kernel)) ggL_law_X6_delay
set_option maxRecDepth 20000 in
theorem gL_law_X7_delay : GoodIn wsL_law (wsV RL 21 RX7 yX7_delay wsX7_delay) := goodIn_app (goodIn_s _ [(8, 5), (8, 6), (8, 7), (0, 5)] (by decide +kernel) (by decide +kernel)) ggL_law_X7_delay
set_option maxRecDepth 20000 in
theorem gL_law_X6_clock : GoodIn wsL_law (wsV RL 22 RX6 yX6_clock wsX6_clock) := goodIn_app (goodIn_s _ [(8, 17), (8, 18), (8, 19), (0, 2)] (by decide +kernel) (by decide +kernel)) ggL_law_X6_clock
set_option maxRecDepth 20000 in
theorem gL_law_X7_clock : GoodIn wsL_law (wsV RL 26 RX7 yX7_clock wsX7_clock) := goodIn_app (goodIn_s _ [(9, 6), (9, 7), (9, 8), (0, 5)] (by decide +kernel) (by decide +kernel)) ggL_law_X7_clock
set_option maxRecDepth 20000 in
theorem gL_law_X6_pass : GoodIn wsL_law (wsV RL 27 RX6 yX6_pass wsX6_pass) := goodIn_app (goodIn_s _ [(10, 1), (10, 2), (10, 3), (0, 2)] (by decide +kernel) (by decide +kernel)) ggL_law_X6_pass
set_option maxRecDepth 20000 in
theorem gL_law_X7_pass : GoodIn wsL_law (wsV RL 31 RX7 yX7_pass wsX7_pass) := goodIn_app (goodIn_s _ [(11, 12), (11, 13), (11, 14), (0, 5)] (by decide +kernel) (by decide +kernel)) ggL_law_X7_pass
set_option maxRecDepth 20000 in
theorem gL_law_X6_read : GoodIn wsL_law (wsV RL 32 RX6 yX6_read wsX6_read) := goodIn_app (goodIn_s _ [(13, 4), (13, 5), (13, 6), (0, 2)] (by decide +kernel) (by decide +kernel)) ggL_law_X6_read
set_option maxRecDepth 20000 in
theorem gL_law_X7_read : GoodIn wsL_law (wsV RL 35 RX7 yX7_read wsX7_read) := goodIn_app (goodIn_s _ [(13, 13), (13, 14), (13, 15), (0, 5)] (by decide +kernel) (by decide +kernel)) ggL_law_X7_read
set_option maxRecDepth 20000 in
theorem gL_law_X6_latch : GoodIn wsL_law (wsV RL 36 RX6 yX6_latch wsX6_latch) := goodIn_app (goodIn_s _ [(13, 21), (13, 22), (13, 23), (0, 2)] (by decide +kernel) (by decide +kernel)) ggL_law_X6_latch
set_option maxRecDepth 20000 in
theorem gL_law_X7_latch : GoodIn wsL_law (wsV RL 39 RX7 yX7_latch wsX7_latch) := goodIn_app (goodIn_s _ [(14, 5), (14, 6), (14, 7), (0, 5)] (by decide +kernel) (by decide +kernel)) ggL_law_X7_latch
set_option maxRecDepth 20000 in
theorem gL_law_X6_of : GoodIn wsL_law (wsV RL 40 RX6 yX6_of wsX6_of) := goodIn_app (goodIn_s _ [(14, 13), (14, 14), (14, 15), (0, 2)] (by decide +kernel) (by decide +kernel)) ggL_law_X6_of
set_option maxRecDepth 20000 in
theorem gL_law_X7_of : GoodIn wsL_law (wsV RL 43 RX7 yX7_of wsX7_of) := goodIn_app (goodIn_s _ [(15, 9), (15, 10), (15, 11), (0, 5)] (by decide +kernel) (by decide +kernel)) ggL_law_X7_of
set_option maxRecDepth 20000 in
theorem gL_law_X6_reading : GoodIn wsL_law (wsV RL 44 RX6 yX6_reading wsX6_reading) := goodIn_app (goodIn_s _ [(15, 17), (15, 18), (15, 19), (0, 2)] (by decide +kernel) (by decide +kernel)) ggL_law_X6_reading
set_option maxRecDepth 20000 in
theorem gL_law_X7_reading : GoodIn wsL_law (wsV RL 47 RX7 yX7_reading wsX7_reading) := goodIn_app (goodIn_s _ [(16, 6), (16, 7), (16, 8), (0, 5)] (by decide +kernel) (by decide +kernel)) ggL_law_X7_reading
set_option maxRecDepth 20000 in
theorem gL_law_X6_seen : GoodIn wsL_law (wsV RL 48 RX6 yX6_seen wsX6_seen) := goodIn_app (goodIn_s _ [(16, 14), (16, 15), (16, 16), (0, 2)] (by decide +kernel) (by decide +kernel)) ggL_law_X6_seen
set_option maxRecDepth 20000 in
theorem gL_law_X7_seen : GoodIn wsL_law (wsV RL 51 RX7 yX7_seen wsX7_seen) := goodIn_app (goodIn_s _ [(16, 23), (17, 0), (17, 1), (0, 5)] (by decide +kernel) (by decide +kernel)) ggL_law_X7_seen
set_option maxRecDepth 20000 in
theorem gL_law_X6_count : GoodIn wsL_law (wsV RL 52 RX6 yX6_count wsX6_count) := goodIn_app (goodIn_s _ [(17, 3), (17, 4), (17, 5), (0, 2)] (by decide +kernel) (by decide +kernel)) ggL_law_X6_count
set_option maxRecDepth 20000 in
theorem gL_law_X7_count : GoodIn wsL_law (wsV RL 55 RX7 yX7_count wsX7_count) := goodIn_app (goodIn_s _ [(18, 12), (18, 13), (18, 14), (0, 5)] (by decide +kernel) (by decide +kernel)) ggL_law_X7_count
set_option maxRecDepth 20000 in
theorem gL_law_X6_stillIn : GoodIn wsL_law (wsV RL 56 RX6 yX6_stillIn wsX6_stillIn) := goodIn_app (goodIn_s _ [(19, 1), (19, 2), (19, 3), (0, 2)] (by decide +kernel) (by decide +kernel)) ggL_law_X6_stillIn
set_option maxRecDepth 20000 in
theorem gL_law_X7_stillIn : GoodIn wsL_law (wsV RL 59 RX7 yX7_stillIn wsX7_stillIn) := goodIn_app (goodIn_s _ [(19, 11), (19, 12), (19, 13), (0, 5)] (by decide +kernel) (by decide +kernel)) ggL_law_X7_stillIn
set_option maxRecDepth 20000 in
theorem gL_law_X6_showsIn : GoodIn wsL_law (wsV RL 60 RX6 yX6_showsIn wsX6_showsIn) := goodIn_app (goodIn_s _ [(19, 19), (19, 20), (19, 21), (0, 2)] (by decide +kernel) (by decide +kernel)) ggL_law_X6_showsIn
set_option maxRecDepth 20000 in
theorem gL_law_X7_showsIn : GoodIn wsL_law (wsV RL 63 RX7 yX7_showsIn wsX7_showsIn) := goodIn_app (goodIn_s _ [(19, 23), (20, 0), (20, 1), (0, 5)] (by decide +kernel) (by decide +kernel)) ggL_law_X7_showsIn
set_option maxRecDepth 20000 in
theorem gL_law_X6_wrong : GoodIn wsL_law (wsV RL 64 RX6 yX6_wrong wsX6_wrong) := goodIn_app (goodIn_s _ [(20, 3), (20, 4), (20, 5), (0, 2)] (by decide +kernel) (by decide +kernel)) ggL_law_X6_wrong
set_option maxRecDepth 20000 in
theorem gL_law_X7_wrong : GoodIn wsL_law (wsV RL 67 RX7 yX7_wrong wsX7_wrong) := goodIn_app (goodIn_s _ [(20, 19), (20, 20), (20, 21), (0, 5)] (by decide +kernel) (by decide +kernel)) ggL_law_X7_wrong
set_option maxRecDepth 20000 in
theorem gL_law_X6_safeGap : GoodIn wsL_law (wsV RL 68 RX6 yX6_safeGap wsX6_safeGap) := goodIn_app (goodIn_s _ [(21, 3), (21, 4), (21, 5), (0, 2)] (by decide +kernel) (by decide +kernel)) ggL_law_X6_safeGap
set_option maxRecDepth 20000 in
theorem gL_law_X7_safeGap : GoodIn wsL_law (wsV RL 71 RX7 yX7_safeGap wsX7_safeGap) := goodIn_app (goodIn_s _ [(21, 17), (21, 18), (21, 19), (0, 5)] (by decide +kernel) (by decide +kernel)) ggL_law_X7_safeGap
set_option maxRecDepth 20000 in
theorem gL_law_X6_toBlame : GoodIn wsL_law (wsV RL 72 RX6 yX6_toBlame wsX6_toBlame) := goodIn_app (goodIn_s _ [(22, 1), (22, 2), (22, 3), (0, 2)] (by decide +kernel) (by decide +kernel)) ggL_law_X6_toBlame
set_option maxRecDepth 20000 in
theorem gL_law_X7_toBlame : GoodIn wsL_law (wsV RL 75 RX7 yX7_toBlame wsX7_toBlame) := goodIn_app (goodIn_s _ [(22, 8), (22, 9), (22, 10), (0, 5)] (by decide +kernel) (by decide +kernel)) ggL_law_X7_toBlame
set_option maxRecDepth 20000 in
theorem gL_law_X6_put : GoodIn wsL_law (wsV RL 78 RX6 yX6_put wsX6_put) := goodIn_app (goodIn_s _ [(22, 12), (22, 13), (22, 14), (0, 2)] (by decide +kernel) (by decide +kernel)) ggL_law_X6_put
set_option maxRecDepth 20000 in
theorem gL_law_X7_put : GoodIn wsL_law (wsV RL 82 RX7 yX7_put wsX7_put) := goodIn_app (goodIn_s _ [(23, 1), (23, 2), (23, 3), (0, 5)] (by decide +kernel) (by decide +kernel)) ggL_law_X7_put
set_option maxRecDepth 20000 in
theorem gL_law_X6_wipe : GoodIn wsL_law (wsV RL 83 RX6 yX6_wipe wsX6_wipe) := goodIn_app (goodIn_s _ [(23, 6), (23, 7), (23, 8), (0, 2)] (by decide +kernel) (by decide +kernel)) ggL_law_X6_wipe
set_option maxRecDepth 20000 in
theorem gL_law_X7_wipe : GoodIn wsL_law (wsV RL 86 RX7 yX7_wipe wsX7_wipe) := goodIn_app (goodIn_s _ [(23, 14), (23, 15), (23, 16), (0, 5)] (by decide +kernel) (by decide +kernel)) ggL_law_X7_wipe
set_option maxRecDepth 20000 in
theorem gL_law_X6_fault : GoodIn wsL_law (wsV RL 87 RX6 yX6_fault wsX6_fault) := goodIn_app (goodIn_s _ [(23, 18), (23, 19), (23, 20), (0, 2)] (by decide +kernel) (by decide +kernel)) ggL_law_X6_fault
set_option maxRecDepth 20000 in
theorem gL_law_X7_fault : GoodIn wsL_law (wsV RL 90 RX7 yX7_fault wsX7_fault) := goodIn_app (goodIn_s _ [(24, 17), (24, 18), (24, 19), (0, 5)] (by decide +kernel) (by decide +kernel)) ggL_law_X7_fault
set_option maxRecDepth 20000 in
theorem gL_law_X6_carryOut : GoodIn wsL_law (wsV RL 91 RX6 yX6_carryOut wsX6_carryOut) := goodIn_app (goodIn_s _ [(25, 13), (25, 14), (25, 15), (0, 2)] (by decide +kernel) (by decide +kernel)) ggL_law_X6_carryOut
set_option maxRecDepth 20000 in
theorem gL_law_X7_carryOut : GoodIn wsL_law (wsV RL 94 RX7 yX7_carryOut wsX7_carryOut) := goodIn_app (goodIn_s _ [(27, 6), (27, 7), (27, 8), (0, 5)] (by decide +kernel) (by decide +kernel)) ggL_law_X7_carryOut
set_option maxRecDepth 20000 in
theorem gL_law_X6_undo : GoodIn wsL_law (wsV RL 95 RX6 yX6_undo wsX6_undo) := goodIn_app (goodIn_s _ [(27, 23), (28, 0), (28, 1), (0, 2)] (by decide +kernel) (by decide +kernel)) ggL_law_X6_undo
set_option maxRecDepth 20000 in
theorem gL_law_X7_undo : GoodIn wsL_law (wsV RL 98 RX7 yX7_undo wsX7_undo) := goodIn_app (goodIn_s _ [(28, 7), (28, 8), (28, 9), (0, 5)] (by decide +kernel) (by decide +kernel)) ggL_law_X7_undo
set_option maxRecDepth 20000 in
theorem gL_law_X6_save : GoodIn wsL_law (wsV RL 99 RX6 yX6_save wsX6_save) := goodIn_app (goodIn_s _ [(28, 11), (28, 12), (28, 13), (0, 2)] (by decide +kernel) (by decide +kernel)) ggL_law_X6_save
set_option maxRecDepth 20000 in
theorem gL_law_X7_save : GoodIn wsL_law (wsV RL 102 RX7 yX7_save wsX7_save) := goodIn_app (goodIn_s _ [(28, 16), (28, 17), (28, 18), (0, 5)] (by decide +kernel) (by decide +kernel)) ggL_law_X7_save
set_option maxRecDepth 20000 in
theorem gL_law_X6_restore : GoodIn wsL_law (wsV RL 103 RX6 yX6_restore wsX6_restore) := goodIn_app (goodIn_s _ [(28, 20), (28, 21), (28, 22), (0, 2)] (by decide +kernel) (by decide +kernel)) ggL_law_X6_restore
set_option maxRecDepth 20000 in
theorem gL_law_X7_restore : GoodIn wsL_law (wsV RL 106 RX7 yX7_restore wsX7_restore) := goodIn_app (goodIn_s _ [(29, 0), (29, 1), (29, 2), (0, 5)] (by decide +kernel) (by decide +kernel)) ggL_law_X7_restore
