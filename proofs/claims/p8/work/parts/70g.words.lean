set_option maxRecDepth 20000 in
theorem ggL_law_X8_as : GoodIn wsL_law wsX8_as := goodIn_ca (goodIn_ca (goodIn_ca (mem_2 [(41, 9), (0, 22), (6, 7), (1, 21), (40, 13), (17, 9), (17, 10), (0, 21), (17, 11), (2, 15), (2, 16), (6, 11), (6, 12), (0, 2), (6, 13), (41, 10), (41, 11), (41, 12), (1, 20), (41, 13), (41, 14), (41, 15), (40, 15), (40, 16), (40, 17), (5, 1), (40, 18), (18, 19), (18, 20), (18, 21), (2, 18), (17, 8), (40, 19), (23, 9), (23, 10), (23, 11), (2, 19), (23, 12), (40, 20), (18, 11), (18, 12), (18, 13), (40, 21), (17, 5), (17, 6), (17, 7), (7, 3), (7, 4), (7, 5), (7, 6), (1, 23), (6, 14), (6, 15), (6, 16), (6, 17), (6, 18)] (by decide +kernel)) glX8) glX1) glX0
set_option maxRecDepth 20000 in
theorem gL_law_X8_as : GoodIn wsL_law (wsV RL 114 RX8 yX8_as wsX8_as) := goodIn_app (goodIn_of _ (by decide +kernel)) ggL_law_X8_as
set_option maxRecDepth 20000 in
theorem ggL_law_X8_ask : GoodIn wsL_law wsX8_ask := goodIn_ca (goodIn_ca (goodIn_ca (mem_2 [(42, 2), (0, 22), (6, 7), (1, 21), (40, 13), (17, 9), (17, 10), (0, 21), (17, 11), (2, 15), (2, 16), (6, 11), (6, 12), (0, 2), (6, 13), (42, 3), (42, 4), (42, 5), (1, 20), (42, 6), (5, 0), (42, 7), (42, 8), (42, 9), (42, 10), (42, 11), (42, 12), (41, 15), (40, 15), (40, 16), (40, 17), (5, 1), (40, 18), (18, 19), (18, 20), (18, 21), (2, 18), (17, 8), (40, 19), (23, 9), (23, 10), (23, 11), (2, 19), (23, 12), (40, 20), (18, 11), (18, 12), (18, 13), (40, 21), (17, 5), (17, 6), (17, 7), (42, 13), (42, 14), (42, 15), (42, 16), (4, 23), (42, 17), (42, 18), (42, 19), (42, 20), (42, 21), (18, 2), (18, 3), (18, 4), (42, 22)] (by decide +kernel)) glX8) glX1) glX0
set_option maxRecDepth 20000 in
theorem gL_law_X8_ask : GoodIn wsL_law (wsV RL 118 RX8 yX8_ask wsX8_ask) := goodIn_app (goodIn_of _ (by decide +kernel)) ggL_law_X8_ask
set_option maxRecDepth 20000 in
theorem ggL_law_X8_beauty : GoodIn wsL_law wsX8_beauty := goodIn_ca (goodIn_ca (goodIn_ca (mem_2 [(35, 8), (25, 21), (6, 7), (0, 22), (25, 23), (26, 0), (26, 1), (0, 2), (26, 2), (26, 3), (26, 4), (26, 5), (0, 21), (26, 6), (2, 15), (35, 9), (35, 10), (35, 11), (35, 12), (23, 7), (17, 5), (17, 6), (17, 7), (2, 18), (17, 8), (17, 9), (17, 10), (17, 11), (2, 16), (35, 13), (35, 14), (35, 15), (35, 16), (1, 8), (27, 14)] (by decide +kernel)) glX8) glX1) glX6
set_option maxRecDepth 20000 in
theorem gL_law_X8_beauty : GoodIn wsL_law (wsV RL 86 RX8 yX8_beauty wsX8_beauty) := goodIn_app (goodIn_of _ (by decide +kernel)) ggL_law_X8_beauty
set_option maxRecDepth 20000 in
theorem ggL_law_X8_city : GoodIn wsL_law wsX8_city := goodIn_ca (goodIn_ca (goodIn_ca (goodIn_ca (goodIn_ca (mem_2 [(10, 23), (1, 3), (0, 18), (10, 3), (11, 0), (1, 22), (11, 1), (11, 2), (0, 22), (0, 23), (1, 8), (11, 3), (11, 4), (11, 5), (11, 6), (1, 2), (11, 7), (3, 10), (3, 9), (11, 8), (11, 9), (11, 10), (11, 11), (0, 21), (11, 12), (2, 15), (2, 16), (2, 17), (2, 19), (2, 20), (3, 0), (3, 1), (3, 2), (11, 13), (7, 0), (7, 1), (7, 2), (11, 14), (11, 15), (11, 16), (0, 17), (11, 17), (2, 10), (11, 18), (11, 19), (11, 20), (11, 21), (2, 7), (2, 6), (2, 9), (2, 8), (11, 22), (11, 23), (12, 0), (12, 1), (12, 2), (12, 3), (12, 4), (2, 11), (12, 5), (12, 6), (12, 7), (12, 8), (12, 9), (12, 10), (12, 11), (12, 12), (12, 13), (12, 14), (12, 15), (12, 16), (12, 17), (12, 18), (12, 19), (12, 20), (12, 21), (12, 22), (12, 23), (13, 0), (13, 1), (13, 2), (13, 3), (13, 4), (13, 5), (13, 6), (13, 7), (13, 8), (13, 9), (13, 10), (13, 11), (13, 12), (13, 13), (13, 14), (13, 15), (13, 16), (13, 17), (13, 18), (13, 19), (13, 20), (13, 21), (13, 22), (13, 23), (14, 0), (14, 1), (14, 2), (14, 3), (14, 4), (14, 5), (14, 6), (14, 7), (14, 8), (14, 9), (14, 10), (14, 11), (14, 12), (14, 13), (14, 14), (14, 15), (14, 16), (14, 17), (3, 7), (14, 18), (3, 8), (14, 19), (14, 20), (14, 21), (14, 22), (14, 23), (15, 0), (15, 1), (15, 2), (15, 3), (15, 4), (15, 5), (15, 6), (15, 7), (15, 8), (15, 9), (15, 10), (15, 11), (15, 12), (15, 13), (15, 14), (15, 15), (15, 16), (15, 17), (15, 18), (15, 19), (15, 20), (15, 21), (15, 22), (15, 23), (16, 0), (16, 1), (16, 2), (16, 3), (16, 4), (16, 5), (16, 6), (16, 7), (16, 8), (16, 9), (16, 10), (16, 11), (16, 12), (16, 13), (16, 14), (16, 15), (16, 16), (16, 17), (16, 18), (16, 19), (16, 20), (16, 21), (16, 22), (16, 23), (17, 0), (17, 1), (17, 2), (17, 3), (17, 4), (17, 5), (17, 6), (17, 7), (2, 18), (17, 8), (17, 9), (17, 10), (17, 11), (17, 12), (17, 13), (17, 14), (17, 15), (17, 16), (9, 3), (9, 4), (9, 5), (2, 21), (2, 22), (2, 23), (17, 17), (17, 18), (17, 19), (1, 7), (17, 20), (17, 21), (17, 22), (17, 23), (18, 0), (3, 14), (3, 15), (18, 1), (18, 2), (18, 3), (18, 4), (18, 5), (18, 6), (18, 7), (18, 8), (18, 9), (18, 10), (18, 11), (18, 12), (18, 13), (18, 14), (18, 15), (18, 16), (18, 17), (3, 16), (3, 17), (18, 18), (18, 19), (18, 20), (18, 21)] (by decide +kernel)) glX8) glX5) glX3) glX1) glX6
set_option maxRecDepth 20000 in
theorem gL_law_X8_city : GoodIn wsL_law (wsV RL 39 RX8 yX8_city wsX8_city) := goodIn_app (goodIn_of _ (by decide +kernel)) ggL_law_X8_city
set_option maxRecDepth 20000 in
theorem ggL_law_X8_copy : GoodIn wsL_law wsX8_copy := goodIn_ca (goodIn_ca (mem_2 [(8, 23), (6, 7), (0, 14), (9, 0), (9, 1), (9, 2), (9, 3), (9, 4), (9, 5), (6, 8), (6, 9), (0, 2), (6, 10), (6, 11), (6, 12), (6, 13), (8, 8), (8, 9), (8, 10), (2, 1), (8, 11), (5, 5), (6, 14), (6, 15), (6, 16), (6, 17), (1, 23), (6, 18), (9, 6), (9, 7), (9, 8), (9, 9), (5, 6), (7, 3), (7, 4), (7, 5), (7, 6)] (by decide +kernel)) glX8) glX4
set_option maxRecDepth 20000 in
theorem gL_law_X8_copy : GoodIn wsL_law (wsV RL 22 RX8 yX8_copy wsX8_copy) := goodIn_app (goodIn_of _ (by decide +kernel)) ggL_law_X8_copy
set_option maxRecDepth 20000 in
theorem ggL_law_X8_count : GoodIn wsL_law wsX8_count := goodIn_ca (goodIn_ca (goodIn_ca (goodIn_ca (mem_2 [(44, 13), (0, 22), (44, 14), (44, 15), (11, 3), (0, 18), (10, 3), (6, 7), (44, 16), (44, 17), (44, 18), (0, 2), (44, 19), (0, 14), (8, 8), (8, 9), (8, 10), (2, 1), (8, 11), (5, 5), (44, 20), (44, 21), (44, 22), (0, 21), (44, 23), (23, 12), (18, 19), (18, 20), (18, 21), (2, 18), (17, 8), (17, 9), (17, 10), (17, 11), (2, 15), (2, 16), (45, 0), (45, 1), (45, 2), (45, 3), (45, 4), (18, 11), (18, 12), (18, 13)] (by decide +kernel)) glX8) glX1) glX5) glX4
set_option maxRecDepth 20000 in
theorem gL_law_X8_count : GoodIn wsL_law (wsV RL 126 RX8 yX8_count wsX8_count) := goodIn_app (goodIn_of _ (by decide +kernel)) ggL_law_X8_count
set_option maxRecDepth 20000 in
theorem ggL_law_X8_drop : GoodIn wsL_law wsX8_drop := goodIn_ca (goodIn_ca (mem_2 [(9, 17), (6, 7), (0, 14), (8, 7), (6, 8), (6, 9), (0, 2), (6, 10), (6, 11), (6, 12), (6, 13), (8, 8), (8, 9), (8, 10), (2, 1), (8, 11), (5, 5), (6, 14), (6, 15), (6, 16), (6, 17), (1, 23), (6, 18), (6, 19), (6, 20), (6, 21), (6, 22), (5, 6), (5, 7), (6, 23), (7, 0), (7, 1), (7, 2), (7, 3), (7, 4), (7, 5), (7, 6)] (by decide +kernel)) glX8) glX4
set_option maxRecDepth 20000 in
theorem gL_law_X8_drop : GoodIn wsL_law (wsV RL 27 RX8 yX8_drop wsX8_drop) := goodIn_app (goodIn_of _ (by decide +kernel)) ggL_law_X8_drop
set_option maxRecDepth 20000 in
theorem ggL_law_X8_earns : GoodIn wsL_law wsX8_earns := goodIn_ca (goodIn_ca (goodIn_ca (goodIn_ca (goodIn_ca (mem_2 [(36, 4), (25, 21), (6, 7), (1, 17), (1, 8), (25, 23), (26, 0), (26, 1), (0, 2), (26, 2), (0, 22), (26, 3), (26, 4), (26, 5), (0, 21), (26, 6), (2, 15), (26, 7), (26, 8), (26, 9), (6, 11), (6, 12), (6, 13), (36, 5), (36, 6), (36, 7), (1, 16), (36, 8), (4, 17), (36, 9), (4, 14), (36, 10), (9, 3), (9, 4), (9, 5), (4, 18), (36, 11), (31, 15), (31, 16), (1, 12), (31, 17), (4, 7), (4, 9), (36, 12), (36, 13), (36, 14), (36, 15), (36, 16), (36, 17), (36, 18), (36, 19), (36, 20), (4, 6), (4, 5), (32, 20), (32, 6), (28, 0), (28, 1), (28, 2), (2, 23), (2, 20), (36, 21), (31, 19), (31, 20), (31, 21), (31, 22), (4, 2), (4, 0), (4, 1), (3, 23), (31, 23), (32, 0), (32, 1), (32, 2), (32, 3), (4, 4), (32, 4), (3, 22), (4, 3), (32, 5), (32, 7), (32, 8), (32, 9), (32, 10), (32, 11), (32, 12), (32, 13), (32, 14), (32, 15), (32, 16), (32, 17), (32, 18), (32, 19), (32, 21), (33, 11), (33, 3), (33, 4), (33, 5), (33, 12), (33, 13), (33, 14), (33, 15), (33, 16), (33, 17), (33, 18), (33, 19), (36, 22), (23, 14), (23, 15), (1, 7), (23, 16), (3, 16), (36, 23), (37, 0), (37, 1), (37, 2), (4, 16), (4, 15), (37, 3), (7, 0), (7, 1), (7, 2), (37, 4), (37, 5), (37, 6), (37, 7)] (by decide +kernel)) glX8) glX1) glX2) glX7) glX6
set_option maxRecDepth 20000 in
theorem gL_law_X8_earns : GoodIn wsL_law (wsV RL 90 RX8 yX8_earns wsX8_earns) := goodIn_app (goodIn_of _ (by decide +kernel)) ggL_law_X8_earns
set_option maxRecDepth 20000 in
theorem ggL_law_X8_fault : GoodIn wsL_law wsX8_fault := goodIn_ca (mem_2 [(22, 19), (1, 22)] (by decide +kernel)) glX8
set_option maxRecDepth 20000 in
theorem gL_law_X8_fault : GoodIn wsL_law (wsV RL 44 RX8 yX8_fault wsX8_fault) := goodIn_app (goodIn_of _ (by decide +kernel)) ggL_law_X8_fault
set_option maxRecDepth 20000 in
theorem ggL_law_X8_feed : GoodIn wsL_law wsX8_feed := goodIn_ca (goodIn_ca (mem_2 [(10, 1), (6, 7), (0, 18), (10, 2), (10, 3), (10, 4), (10, 5), (10, 6), (0, 17), (10, 7), (2, 7), (10, 8), (10, 9), (10, 10), (10, 11), (2, 6)] (by decide +kernel)) glX8) glX5
set_option maxRecDepth 20000 in
theorem gL_law_X8_feed : GoodIn wsL_law (wsV RL 34 RX8 yX8_feed wsX8_feed) := goodIn_app (goodIn_of _ (by decide +kernel)) ggL_law_X8_feed
set_option maxRecDepth 20000 in
theorem ggL_law_X8_got : GoodIn wsL_law wsX8_got := goodIn_ca (goodIn_ca (mem_2 [(30, 9), (25, 21), (0, 22), (6, 7), (25, 23), (26, 0), (26, 1), (0, 2), (26, 2), (26, 3), (26, 4), (26, 5), (0, 21), (26, 6), (2, 15), (26, 7), (26, 8), (26, 9), (6, 11), (6, 12), (6, 13), (30, 10), (30, 11), (30, 12), (30, 13), (2, 17), (3, 1)] (by decide +kernel)) glX8) glX1
set_option maxRecDepth 20000 in
theorem gL_law_X8_got : GoodIn wsL_law (wsV RL 70 RX8 yX8_got wsX8_got) := goodIn_app (goodIn_of _ (by decide +kernel)) ggL_law_X8_got
set_option maxRecDepth 20000 in
theorem ggL_law_X8_home : GoodIn wsL_law wsX8_home := goodIn_ca (goodIn_ca (goodIn_ca (goodIn_ca (mem_2 [(31, 9), (6, 7), (1, 13), (1, 8), (0, 22), (25, 22), (23, 5), (27, 0), (27, 1), (27, 2), (0, 2), (27, 3), (11, 3), (6, 11), (6, 12), (6, 13), (31, 10), (31, 11), (31, 12), (31, 13), (27, 8), (31, 14), (31, 15), (31, 16), (1, 12), (31, 17), (4, 7), (4, 9), (31, 18), (31, 19), (31, 20), (31, 21), (31, 22), (4, 2), (4, 0), (4, 1), (3, 23), (4, 5), (31, 23), (32, 0), (32, 1), (32, 2), (32, 3), (4, 4), (4, 6), (32, 4), (3, 22), (4, 3), (32, 5), (32, 6), (28, 0), (28, 1), (0, 21), (28, 2), (2, 23), (2, 20), (32, 7), (32, 8), (32, 9), (32, 10), (32, 11), (32, 12), (32, 13), (32, 14), (32, 15), (32, 16), (32, 17), (32, 18), (32, 19), (32, 20), (32, 21), (32, 22), (32, 23), (33, 0), (33, 1), (33, 2), (33, 3), (33, 4), (33, 5), (33, 6), (33, 7), (33, 8), (33, 9), (33, 10), (33, 11), (33, 12), (33, 13), (33, 14), (33, 15), (33, 16), (33, 17), (33, 18), (33, 19)] (by decide +kernel)) glX8) glX1) glX7) glX6
set_option maxRecDepth 20000 in
theorem gL_law_X8_home : GoodIn wsL_law (wsV RL 78 RX8 yX8_home wsX8_home) := goodIn_app (goodIn_of _ (by decide +kernel)) ggL_law_X8_home
set_option maxRecDepth 20000 in
theorem ggL_law_X8_image : GoodIn wsL_law wsX8_image := goodIn_ca (goodIn_ca (mem_2 [(39, 20), (6, 7), (25, 21), (1, 4), (0, 22), (6, 11), (6, 12), (0, 2), (6, 13), (25, 23), (26, 0), (26, 1), (26, 2), (26, 3), (26, 4), (26, 5), (0, 21), (26, 6), (2, 15), (17, 12), (17, 13), (17, 14), (17, 15), (2, 16), (2, 17), (2, 18), (17, 16), (9, 3), (9, 4), (9, 5), (2, 19), (2, 20), (2, 21), (2, 22), (2, 23), (3, 0), (3, 1), (3, 2)] (by decide +kernel)) glX8) glX1
set_option maxRecDepth 20000 in
theorem gL_law_X8_image : GoodIn wsL_law (wsV RL 102 RX8 yX8_image wsX8_image) := goodIn_app (goodIn_of _ (by decide +kernel)) ggL_law_X8_image
set_option maxRecDepth 20000 in
theorem ggL_law_X8_init : GoodIn wsL_law wsX8_init := goodIn_ca (goodIn_ca (goodIn_ca (goodIn_ca (goodIn_ca (goodIn_ca (goodIn_ca (goodIn_ca (goodIn_ca (mem_2 [(0, 9), (0, 10), (0, 11), (0, 12), (0, 13), (0, 14), (0, 15), (0, 16), (0, 17), (0, 18), (0, 19), (0, 20), (0, 21), (0, 22), (0, 23), (1, 0), (1, 1), (1, 2), (1, 3), (1, 4), (1, 5), (1, 6), (1, 7), (1, 8), (1, 9), (1, 10), (1, 11), (1, 12), (1, 13), (1, 14), (1, 15), (1, 16), (1, 17), (1, 18), (1, 19), (1, 20), (1, 21), (1, 22), (1, 23), (2, 0), (2, 1), (2, 2), (2, 3), (2, 4), (2, 5), (2, 6), (2, 7), (2, 8), (2, 9), (2, 10), (2, 11), (2, 12), (2, 13), (2, 14), (2, 15), (2, 16), (2, 17), (2, 18), (2, 19), (2, 20), (2, 21), (2, 22), (2, 23), (3, 0), (3, 1), (3, 2), (3, 3), (3, 4), (3, 5), (3, 6), (3, 7), (3, 8), (3, 9), (3, 10), (3, 11), (3, 12), (3, 13), (3, 14), (3, 15), (3, 16), (3, 17), (3, 18), (3, 19), (3, 20), (3, 21), (3, 22), (3, 23), (4, 0), (4, 1), (4, 2), (4, 3), (4, 4), (4, 5), (4, 6), (4, 7), (4, 8), (4, 9), (4, 10), (4, 11), (4, 12), (4, 13), (4, 14), (4, 15), (4, 16), (4, 17), (4, 18), (4, 19), (4, 20), (4, 21), (4, 22), (4, 23), (5, 0), (5, 1), (5, 2), (5, 3), (5, 4), (5, 5), (5, 6), (5, 7)] (by decide +kernel)) glX8) glX5) glX1) glX3) glX6) glX7) glX2) glX0) glX4
set_option maxRecDepth 20000 in
theorem gL_law_X8_init : GoodIn wsL_law (wsX8_init) := ggL_law_X8_init
set_option maxRecDepth 20000 in
theorem ggL_law_X8_kind : GoodIn wsL_law wsX8_kind := goodIn_ca (goodIn_ca (goodIn_ca (mem_2 [(40, 12), (0, 22), (1, 21), (6, 7), (40, 13), (17, 9), (17, 10), (0, 21), (17, 11), (2, 15), (2, 16), (40, 14), (40, 15), (40, 16), (1, 20), (40, 17), (5, 1), (40, 18), (18, 19), (18, 20), (18, 21), (2, 18), (17, 8), (40, 19), (23, 9), (23, 10), (23, 11), (2, 19), (23, 12), (40, 20), (18, 11), (18, 12), (18, 13), (40, 21), (17, 5), (17, 6), (17, 7)] (by decide +kernel)) glX8) glX1) glX0
set_option maxRecDepth 20000 in
theorem gL_law_X8_kind : GoodIn wsL_law (wsV RL 110 RX8 yX8_kind wsX8_kind) := goodIn_app (goodIn_of _ (by decide +kernel)) ggL_law_X8_kind
set_option maxRecDepth 20000 in
theorem ggL_law_X8_look : GoodIn wsL_law wsX8_look := goodIn_ca (goodIn_ca (goodIn_ca (mem_2 [(23, 3), (0, 22), (6, 7), (1, 8), (23, 4), (23, 5), (23, 6), (23, 7), (17, 5), (17, 6), (0, 21), (17, 7), (2, 18), (17, 8), (17, 9), (17, 10), (17, 11), (2, 15), (2, 16), (6, 11), (6, 12), (0, 2), (6, 13), (23, 8), (23, 9), (23, 10), (23, 11), (2, 19), (23, 12), (18, 19), (18, 20), (18, 21), (23, 13), (23, 14), (23, 15), (1, 7), (23, 16), (3, 16)] (by decide +kernel)) glX8) glX6) glX1
set_option maxRecDepth 20000 in
theorem gL_law_X8_look : GoodIn wsL_law (wsV RL 48 RX8 yX8_look wsX8_look) := goodIn_app (goodIn_of _ (by decide +kernel)) ggL_law_X8_look
set_option maxRecDepth 20000 in
theorem ggL_law_X8_nothing : GoodIn wsL_law wsX8_nothing := goodIn_ca (goodIn_ca (goodIn_ca (goodIn_ca (mem_2 [(35, 0), (6, 7), (1, 13), (1, 8), (0, 22), (25, 22), (23, 5), (27, 0), (27, 1), (27, 2), (0, 2), (27, 3), (11, 3), (6, 11), (6, 12), (6, 13), (31, 14), (31, 15), (31, 16), (1, 12), (31, 17), (4, 7), (4, 9), (31, 10), (31, 11), (31, 12), (31, 13), (27, 8), (31, 18), (31, 19), (31, 20), (31, 21), (31, 22), (4, 2), (4, 0), (4, 1), (3, 23), (4, 5), (31, 23), (32, 0), (32, 1), (32, 2), (32, 3), (4, 4), (4, 6), (32, 4), (3, 22), (4, 3), (32, 5), (32, 6), (28, 0), (28, 1), (0, 21), (28, 2), (2, 23), (2, 20), (32, 7), (32, 8), (32, 9), (32, 10), (32, 11), (32, 12), (32, 13), (32, 14), (32, 15), (32, 16), (32, 17), (32, 18), (32, 19), (32, 20), (32, 21), (32, 22), (32, 23), (33, 0), (33, 1)] (by decide +kernel)) glX8) glX1) glX7) glX6
set_option maxRecDepth 20000 in
theorem gL_law_X8_nothing : GoodIn wsL_law (wsV RL 82 RX8 yX8_nothing wsX8_nothing) := goodIn_app (goodIn_of _ (by decide +kernel)) ggL_law_X8_nothing
set_option maxRecDepth 20000 in
theorem ggL_law_X8_person : GoodIn wsL_law wsX8_person := goodIn_ca (goodIn_ca (mem_2 [(29, 16), (6, 7), (0, 22), (27, 21), (27, 22), (27, 13), (29, 17), (27, 8), (27, 15), (27, 0), (27, 1), (27, 2), (0, 2), (27, 3), (11, 3), (6, 11), (6, 12), (6, 13), (29, 18), (29, 19), (29, 20), (0, 21), (29, 21), (3, 1)] (by decide +kernel)) glX8) glX1
set_option maxRecDepth 20000 in
theorem gL_law_X8_person : GoodIn wsL_law (wsV RL 66 RX8 yX8_person wsX8_person) := goodIn_app (goodIn_of _ (by decide +kernel)) ggL_law_X8_person
set_option maxRecDepth 20000 in
theorem ggL_law_X8_price : GoodIn wsL_law wsX8_price := goodIn_ca (goodIn_ca (mem_2 [(25, 20), (25, 21), (6, 7), (0, 22), (25, 22), (25, 23), (26, 0), (26, 1), (0, 2), (26, 2), (26, 3), (26, 4), (26, 5), (0, 21), (26, 6), (2, 15), (26, 7), (26, 8), (26, 9), (6, 11), (6, 12), (6, 13)] (by decide +kernel)) glX8) glX1
set_option maxRecDepth 20000 in
theorem gL_law_X8_price : GoodIn wsL_law (wsV RL 52 RX8 yX8_price wsX8_price) := goodIn_app (goodIn_of _ (by decide +kernel)) ggL_law_X8_price
set_option maxRecDepth 20000 in
theorem ggL_law_X8_restore : GoodIn wsL_law wsX8_restore := goodIn_ca (goodIn_ca (goodIn_ca (mem_2 [(40, 4), (6, 7), (1, 4), (25, 21), (0, 22), (1, 8), (6, 11), (6, 12), (0, 2), (6, 13), (26, 3), (26, 4), (26, 5), (0, 21), (26, 6), (2, 15), (17, 12), (17, 13), (17, 14), (17, 15), (2, 16), (2, 17), (2, 18), (17, 16), (9, 3), (9, 4), (9, 5), (2, 19), (2, 20), (2, 21), (2, 22), (2, 23), (3, 0), (3, 1), (3, 2), (17, 17), (17, 18), (17, 19), (1, 7), (17, 20), (17, 21), (17, 22), (17, 23), (18, 0), (3, 14), (3, 15), (18, 1), (18, 2), (18, 3), (18, 4), (18, 5), (17, 5), (17, 6), (17, 7), (17, 8), (17, 9), (17, 10), (17, 11), (18, 6), (18, 7), (18, 8), (18, 9), (18, 10), (18, 11), (18, 12), (18, 13), (18, 14), (18, 15), (18, 16), (18, 17), (3, 16), (3, 17), (18, 18), (18, 19), (18, 20), (18, 21)] (by decide +kernel)) glX8) glX1) glX6
set_option maxRecDepth 20000 in
theorem gL_law_X8_restore : GoodIn wsL_law (wsV RL 106 RX8 yX8_restore wsX8_restore) := goodIn_app (goodIn_of _ (by decide +kernel)) ggL_law_X8_restore
set_option maxRecDepth 20000 in
theorem ggL_law_X8_rivals : GoodIn wsL_law wsX8_rivals := goodIn_ca (goodIn_ca (goodIn_ca (goodIn_ca (goodIn_ca (mem_2 [(38, 3), (25, 21), (6, 7), (1, 17), (1, 8), (38, 4), (25, 23), (26, 0), (26, 1), (0, 2), (26, 2), (0, 22), (26, 3), (26, 4), (26, 5), (0, 21), (26, 6), (2, 15), (26, 7), (26, 8), (26, 9), (6, 11), (6, 12), (6, 13), (36, 5), (36, 6), (36, 7), (1, 16), (36, 8), (4, 17), (36, 9), (4, 14), (36, 10), (9, 3), (9, 4), (9, 5), (4, 18), (36, 11), (31, 15), (31, 16), (1, 12), (31, 17), (4, 7), (4, 9), (38, 5), (38, 6), (38, 7), (38, 8), (38, 9), (38, 10), (38, 11), (38, 12), (38, 13), (23, 12), (18, 19), (18, 20), (18, 21), (2, 18), (17, 8), (17, 9), (17, 10), (17, 11), (2, 16), (38, 14), (37, 0), (37, 1), (37, 2), (4, 16), (36, 16), (4, 15), (37, 3), (7, 0), (7, 1), (7, 2), (36, 17), (36, 18), (36, 19), (36, 20), (4, 6), (4, 5), (32, 20), (32, 6), (28, 0), (28, 1), (28, 2), (2, 23), (2, 20), (36, 21), (31, 19), (31, 20), (31, 21), (31, 22), (4, 2), (4, 0), (4, 1), (3, 23), (31, 23), (32, 0), (32, 1), (32, 2), (32, 3), (4, 4), (32, 4), (3, 22), (4, 3), (32, 5), (32, 7), (32, 8), (32, 9), (32, 10), (32, 11), (32, 12), (32, 13), (32, 14), (32, 15), (32, 16), (32, 17), (32, 18), (32, 19), (32, 21), (33, 11), (33, 3), (33, 4), (33, 5), (33, 12), (33, 13), (33, 14), (33, 15), (33, 16), (33, 17), (33, 18), (33, 19), (36, 22), (23, 14), (23, 15), (1, 7), (23, 16), (3, 16), (37, 4), (37, 5), (37, 6), (37, 7)] (by decide +kernel)) glX8) glX2) glX1) glX7) glX6
set_option maxRecDepth 20000 in
theorem gL_law_X8_rivals : GoodIn wsL_law (wsV RL 94 RX8 yX8_rivals wsX8_rivals) := goodIn_app (goodIn_of _ (by decide +kernel)) ggL_law_X8_rivals
set_option maxRecDepth 20000 in
theorem ggL_law_X8_set : GoodIn wsL_law wsX8_set := goodIn_ca (goodIn_ca (mem_2 [(8, 6), (6, 7), (0, 14), (8, 7), (6, 8), (6, 9), (0, 2), (6, 10), (6, 11), (6, 12), (6, 13), (8, 8), (8, 9), (8, 10), (2, 1), (8, 11), (5, 5), (6, 14), (6, 15), (6, 16), (6, 17), (1, 23), (6, 18), (8, 12), (8, 13), (8, 14), (8, 15), (5, 7), (7, 3), (7, 4), (7, 5), (7, 6)] (by decide +kernel)) glX8) glX4
set_option maxRecDepth 20000 in
theorem gL_law_X8_set : GoodIn wsL_law (wsV RL 18 RX8 yX8_set wsX8_set) := goodIn_app (goodIn_of _ (by decide +kernel)) ggL_law_X8_set
set_option maxRecDepth 20000 in
theorem ggL_law_X8_sheet : GoodIn wsL_law wsX8_sheet := goodIn_ca (goodIn_ca (mem_2 [(6, 6), (6, 7), (0, 14), (6, 8), (6, 9), (0, 2), (6, 10), (6, 11), (6, 12), (6, 13), (6, 14), (6, 15), (6, 16), (6, 17), (1, 23), (6, 18), (6, 19), (6, 20), (6, 21), (2, 1), (6, 22), (5, 5), (5, 6), (5, 7), (6, 23), (7, 0), (7, 1), (7, 2), (7, 3), (7, 4), (7, 5), (7, 6)] (by decide +kernel)) glX8) glX4
set_option maxRecDepth 20000 in
theorem gL_law_X8_sheet : GoodIn wsL_law (wsV RL 13 RX8 yX8_sheet wsX8_sheet) := goodIn_app (goodIn_of _ (by decide +kernel)) ggL_law_X8_sheet
set_option maxRecDepth 20000 in
theorem ggL_law_X8_status : GoodIn wsL_law wsX8_status := goodIn_ca (mem_2 [(45, 16), (1, 23)] (by decide +kernel)) glX8
set_option maxRecDepth 20000 in
theorem gL_law_X8_status : GoodIn wsL_law (wsV RL 130 RX8 yX8_status wsX8_status) := goodIn_app (goodIn_of _ (by decide +kernel)) ggL_law_X8_status
set_option maxRecDepth 20000 in
theorem ggL_law_X8_step : GoodIn wsL_law wsX8_step := goodIn_ca (goodIn_ca (goodIn_ca (mem_2 [(26, 23), (6, 7), (27, 0), (27, 1), (27, 2), (0, 2), (27, 3), (0, 22), (11, 3), (6, 11), (6, 12), (6, 13), (27, 4), (27, 5), (27, 6), (27, 7), (27, 8), (27, 9), (27, 10), (27, 11), (27, 12), (27, 13), (1, 8), (27, 14), (27, 15), (27, 16), (27, 17), (27, 18), (27, 19), (27, 20), (25, 22), (27, 21), (27, 22), (27, 23), (28, 0), (28, 1), (0, 21), (28, 2), (2, 23), (2, 20), (23, 13), (23, 14), (23, 15), (1, 7), (23, 16), (3, 16)] (by decide +kernel)) glX8) glX1) glX6
set_option maxRecDepth 20000 in
theorem gL_law_X8_step : GoodIn wsL_law (wsV RL 57 RX8 yX8_step wsX8_step) := goodIn_app (goodIn_of _ (by decide +kernel)) ggL_law_X8_step
set_option maxRecDepth 20000 in
theorem ggL_law_X8_trace : GoodIn wsL_law wsX8_trace := goodIn_ca (goodIn_ca (mem_2 [(44, 3), (1, 21), (44, 4), (44, 5), (23, 5), (6, 11), (6, 12), (0, 2), (6, 13)] (by decide +kernel)) glX8) glX0
set_option maxRecDepth 20000 in
theorem gL_law_X8_trace : GoodIn wsL_law (wsV RL 122 RX8 yX8_trace wsX8_trace) := goodIn_app (goodIn_of _ (by decide +kernel)) ggL_law_X8_trace
set_option maxRecDepth 20000 in
theorem ggL_law_X8_walk : GoodIn wsL_law wsX8_walk := goodIn_ca (goodIn_ca (goodIn_ca (goodIn_ca (mem_2 [(29, 7), (6, 7), (0, 14), (9, 1), (27, 0), (27, 1), (27, 2), (0, 2), (27, 3), (0, 22), (11, 3), (6, 11), (6, 12), (6, 13), (6, 8), (6, 9), (6, 10), (8, 8), (8, 9), (8, 10), (2, 1), (8, 11), (5, 5), (6, 14), (6, 15), (6, 16), (6, 17), (1, 23), (6, 18), (9, 6), (9, 7), (9, 8), (9, 9), (5, 6), (27, 4), (27, 5), (27, 6), (27, 7), (27, 8), (27, 9), (27, 10), (27, 11), (27, 12), (27, 13), (1, 8), (27, 14), (27, 15), (27, 16), (27, 17), (27, 18), (27, 19), (27, 20), (25, 22), (27, 21), (27, 22), (27, 23), (28, 0), (28, 1), (0, 21), (28, 2), (2, 23), (2, 20), (23, 13), (23, 14), (23, 15), (1, 7), (23, 16), (3, 16), (7, 3), (7, 4), (7, 5), (7, 6)] (by decide +kernel)) glX8) glX4) glX1) glX6
set_option maxRecDepth 20000 in
theorem gL_law_X8_walk : GoodIn wsL_law (wsV RL 61 RX8 yX8_walk wsX8_walk) := goodIn_app (goodIn_of _ (by decide +kernel)) ggL_law_X8_walk
set_option maxRecDepth 20000 in
theorem ggL_law_X8_wall : GoodIn wsL_law wsX8_wall := goodIn_ca (goodIn_ca (goodIn_ca (goodIn_ca (goodIn_ca (mem_2 [(39, 7), (0, 22), (6, 7), (1, 17), (1, 8), (39, 8), (1, 9), (23, 7), (17, 5), (17, 6), (0, 21), (17, 7), (2, 18), (17, 8), (17, 9), (17, 10), (17, 11), (2, 15), (2, 16), (39, 9), (39, 10), (39, 11), (39, 12), (2, 17), (2, 21), (2, 22), (26, 7), (26, 8), (0, 2), (26, 9), (6, 11), (6, 12), (6, 13), (36, 5), (36, 6), (36, 7), (1, 16), (36, 8), (4, 17), (36, 9), (4, 14), (36, 10), (9, 3), (9, 4), (9, 5), (4, 18), (36, 11), (31, 15), (31, 16), (1, 12), (31, 17), (4, 7), (4, 9), (36, 12), (36, 13), (36, 14), (36, 15), (36, 16), (36, 17), (36, 18), (36, 19), (36, 20), (4, 6), (4, 5), (32, 20), (32, 6), (28, 0), (28, 1), (28, 2), (2, 23), (2, 20), (36, 21), (31, 19), (31, 20), (31, 21), (31, 22), (4, 2), (4, 0), (4, 1), (3, 23), (31, 23), (32, 0), (32, 1), (32, 2), (32, 3), (4, 4), (32, 4), (3, 22), (4, 3), (32, 5), (32, 7), (32, 8), (32, 9), (32, 10), (32, 11), (32, 12), (32, 13), (32, 14), (32, 15), (32, 16), (32, 17), (32, 18), (32, 19), (32, 21), (33, 11), (33, 3), (33, 4), (33, 5), (33, 12), (33, 13), (33, 14), (33, 15), (33, 16), (33, 17), (33, 18), (33, 19), (36, 22), (23, 14), (23, 15), (1, 7), (23, 16), (3, 16), (17, 17), (17, 18), (17, 19), (17, 20), (17, 21), (17, 22), (17, 23), (18, 0), (3, 14), (3, 15), (18, 1), (18, 2), (18, 3), (18, 4), (18, 5), (18, 6), (18, 7), (18, 8), (18, 9), (18, 10), (18, 11), (18, 12), (18, 13), (18, 14), (18, 15), (18, 16), (18, 17), (3, 17), (18, 18), (18, 19), (18, 20), (18, 21)] (by decide +kernel)) glX8) glX1) glX2) glX7) glX6
set_option maxRecDepth 20000 in
theorem gL_law_X8_wall : GoodIn wsL_law (wsV RL 98 RX8 yX8_wall wsX8_wall) := goodIn_app (goodIn_of _ (by decide +kernel)) ggL_law_X8_wall
set_option maxRecDepth 20000 in
theorem ggL_law_X8_witnesses : GoodIn wsL_law wsX8_witnesses := goodIn_ca (goodIn_ca (mem_2 [(30, 21), (25, 21), (0, 22), (6, 7), (25, 23), (26, 0), (26, 1), (0, 2), (26, 2), (26, 3), (26, 4), (26, 5), (0, 21), (26, 6), (2, 15), (26, 7), (26, 8), (26, 9), (6, 11), (6, 12), (6, 13), (30, 22), (30, 23), (31, 0), (31, 1), (2, 17), (3, 2)] (by decide +kernel)) glX8) glX1
set_option maxRecDepth 20000 in
theorem gL_law_X8_witnesses : GoodIn wsL_law (wsV RL 74 RX8 yX8_witnesses wsX8_witnesses) := goodIn_app (goodIn_of _ (by decide +kernel)) ggL_law_X8_witnesses
set_option maxRecDepth 20000 in
theorem ggL_law_X9_as : GoodIn wsL_law wsX9_as := goodIn_ca (mem_2 [(41, 19), (7, 11), (26, 19), (7, 13), (7, 14), (24, 3), (24, 4), (24, 5), (0, 5), (24, 6), (24, 7), (7, 19), (7, 20), (7, 21), (24, 8), (24, 9), (24, 10), (24, 11), (5, 15), (41, 2), (41, 3), (41, 4), (41, 5), (41, 20), (41, 21), (41, 22), (7, 22), (7, 23), (8, 0), (8, 1), (8, 2)] (by decide +kernel)) glX9
set_option maxRecDepth 20000 in
theorem gL_law_X9_as : GoodIn wsL_law (wsV RL 117 RX9 yX9_as wsX9_as) := goodIn_app (goodIn_of _ (by decide +kernel)) ggL_law_X9_as
set_option maxRecDepth 20000 in
theorem ggL_law_X9_ask : GoodIn wsL_law wsX9_ask := goodIn_ca (mem_2 [(43, 2), (7, 11), (7, 13), (43, 3), (24, 3), (24, 4), (24, 5), (0, 5), (24, 6), (24, 7), (7, 19), (7, 20), (7, 21), (24, 8), (24, 9), (24, 10), (24, 11), (5, 15), (41, 2), (41, 3), (41, 4), (41, 5), (43, 4), (43, 5), (43, 6), (43, 7), (43, 8), (43, 9), (43, 10), (43, 11), (6, 2), (43, 12), (43, 13), (43, 14), (43, 15), (24, 23), (25, 0), (25, 1), (25, 2), (25, 3), (25, 4), (25, 5), (25, 6), (25, 7), (25, 8), (43, 16), (43, 17), (43, 18), (43, 19), (41, 20), (41, 21), (41, 22), (43, 20), (43, 21), (43, 22), (43, 23)] (by decide +kernel)) glX9
set_option maxRecDepth 20000 in
theorem gL_law_X9_ask : GoodIn wsL_law (wsV RL 121 RX9 yX9_ask wsX9_ask) := goodIn_app (goodIn_of _ (by decide +kernel)) ggL_law_X9_ask
set_option maxRecDepth 20000 in
theorem ggL_law_X9_beauty : GoodIn wsL_law wsX9_beauty := goodIn_ca (mem_2 [(35, 20), (7, 11), (19, 10), (26, 14), (7, 13), (19, 22), (23, 23), (24, 0), (24, 1), (0, 5), (24, 2), (5, 15), (24, 3), (24, 4), (24, 5), (24, 6), (24, 7), (7, 19), (7, 20), (7, 21), (24, 8), (24, 9), (24, 10), (24, 11), (35, 21), (35, 22), (35, 23), (36, 0), (24, 23), (25, 0), (25, 1), (25, 2), (25, 3), (25, 4), (25, 5), (25, 6), (25, 7), (25, 8)] (by decide +kernel)) glX9
set_option maxRecDepth 20000 in
theorem gL_law_X9_beauty : GoodIn wsL_law (wsV RL 89 RX9 yX9_beauty wsX9_beauty) := goodIn_app (goodIn_of _ (by decide +kernel)) ggL_law_X9_beauty
set_option maxRecDepth 20000 in
theorem ggL_law_X9_city : GoodIn wsL_law wsX9_city := goodIn_ca (mem_2 [(19, 1), (7, 11), (5, 16), (19, 2), (19, 3), (19, 4), (19, 5), (19, 6), (19, 7), (19, 8), (19, 9), (19, 10), (5, 15), (19, 11), (19, 12), (19, 13), (0, 5), (19, 14), (10, 17), (19, 15), (19, 16), (19, 17), (19, 18), (19, 19), (19, 20), (19, 21), (19, 22), (19, 23), (20, 0), (20, 1), (20, 2), (20, 3), (5, 17), (20, 4), (20, 5), (20, 6), (20, 7), (20, 8), (20, 9), (20, 10), (20, 11), (20, 12), (20, 13), (20, 14), (20, 15), (20, 16), (20, 17), (20, 18), (20, 19), (20, 20), (20, 21), (20, 22), (20, 23), (21, 0), (21, 1), (21, 2), (21, 3), (21, 4), (21, 5), (21, 6), (21, 7), (21, 8), (21, 9), (21, 10), (21, 11), (21, 12), (21, 13), (21, 14), (21, 15), (21, 16), (21, 17), (21, 18), (21, 19), (21, 20), (21, 21), (21, 22), (21, 23), (22, 0), (22, 1), (22, 2), (22, 3), (22, 4), (22, 5), (7, 19), (7, 20), (7, 21), (22, 6), (22, 7), (22, 8), (22, 9), (22, 10), (22, 11), (22, 12), (22, 13), (22, 14), (22, 15)] (by decide +kernel)) glX9
set_option maxRecDepth 20000 in
theorem gL_law_X9_city : GoodIn wsL_law (wsV RL 43 RX9 yX9_city wsX9_city) := goodIn_app (goodIn_of _ (by decide +kernel)) ggL_law_X9_city
set_option maxRecDepth 20000 in
theorem ggL_law_X9_copy : GoodIn wsL_law wsX9_copy := goodIn_ca (mem_2 [(9, 13), (7, 11), (7, 13), (7, 14), (5, 12), (5, 13), (5, 14), (7, 15), (7, 16), (0, 5), (7, 17), (7, 18), (7, 19), (7, 20), (7, 21), (7, 22), (7, 23), (8, 0), (8, 1), (8, 2)] (by decide +kernel)) glX9
set_option maxRecDepth 20000 in
theorem gL_law_X9_copy : GoodIn wsL_law (wsV RL 26 RX9 yX9_copy wsX9_copy) := goodIn_app (goodIn_of _ (by decide +kernel)) ggL_law_X9_copy
set_option maxRecDepth 20000 in
theorem ggL_law_X9_count : GoodIn wsL_law wsX9_count := goodIn_ca (mem_2 [(45, 8), (7, 11), (5, 12), (5, 15), (10, 17), (7, 13), (45, 9), (45, 10), (45, 11), (0, 5), (45, 12), (24, 3), (24, 4), (24, 5), (24, 6), (24, 7), (7, 19), (7, 20), (7, 21), (24, 8), (24, 9), (24, 10), (24, 11)] (by decide +kernel)) glX9
set_option maxRecDepth 20000 in
theorem gL_law_X9_count : GoodIn wsL_law (wsV RL 129 RX9 yX9_count wsX9_count) := goodIn_app (goodIn_of _ (by decide +kernel)) ggL_law_X9_count
set_option maxRecDepth 20000 in
theorem ggL_law_X9_drop : GoodIn wsL_law wsX9_drop := goodIn_ca (mem_2 [(9, 21), (7, 11), (7, 13), (7, 14), (5, 12), (5, 13), (7, 15), (7, 16), (0, 5), (7, 17), (7, 18), (7, 19), (7, 20), (7, 21), (7, 22), (7, 23), (8, 0), (8, 1), (8, 2)] (by decide +kernel)) glX9
set_option maxRecDepth 20000 in
theorem gL_law_X9_drop : GoodIn wsL_law (wsV RL 31 RX9 yX9_drop wsX9_drop) := goodIn_app (goodIn_of _ (by decide +kernel)) ggL_law_X9_drop
set_option maxRecDepth 20000 in
theorem ggL_law_X9_earns : GoodIn wsL_law wsX9_earns := goodIn_ca (mem_2 [(37, 11), (7, 11), (19, 10), (26, 14), (7, 13), (26, 16), (26, 17), (0, 5), (26, 18), (26, 19), (7, 19), (7, 20), (7, 21), (37, 12), (37, 13), (37, 14), (37, 15), (5, 15), (37, 16), (37, 17), (37, 18), (37, 19), (5, 19), (34, 0), (5, 20), (5, 21), (34, 1), (34, 2), (34, 3), (34, 4), (5, 18), (34, 5), (34, 6), (34, 7), (34, 8), (23, 23), (24, 0), (24, 1), (24, 2), (24, 3), (24, 4), (24, 5), (24, 6), (24, 7), (24, 8), (24, 9), (24, 10), (24, 11), (24, 15), (24, 16), (24, 17), (24, 18), (23, 22), (23, 21), (24, 19), (24, 20), (24, 21), (24, 22), (24, 23), (25, 0), (25, 1), (25, 2), (25, 3), (25, 4), (25, 5), (25, 6), (25, 7), (25, 8), (29, 0), (29, 1), (29, 2), (29, 3), (25, 13), (25, 14), (25, 15), (25, 16), (28, 16), (28, 17), (28, 18), (28, 19), (25, 9), (25, 10), (25, 11), (25, 12), (34, 9), (34, 10), (34, 11), (34, 12), (34, 13), (34, 14), (34, 15), (34, 16), (34, 17), (34, 18), (34, 19), (34, 20), (19, 22), (37, 20), (37, 21), (37, 22), (37, 23)] (by decide +kernel)) glX9
set_option maxRecDepth 20000 in
theorem gL_law_X9_earns : GoodIn wsL_law (wsV RL 93 RX9 yX9_earns wsX9_earns) := goodIn_app (goodIn_of _ (by decide +kernel)) ggL_law_X9_earns
set_option maxRecDepth 20000 in
theorem ggL_law_X9_fault : GoodIn wsL_law wsX9_fault := goodIn_ca (mem_2 [(22, 23), (7, 11), (19, 7)] (by decide +kernel)) glX9
set_option maxRecDepth 20000 in
theorem gL_law_X9_fault : GoodIn wsL_law (wsV RL 47 RX9 yX9_fault wsX9_fault) := goodIn_app (goodIn_of _ (by decide +kernel)) ggL_law_X9_fault
set_option maxRecDepth 20000 in
theorem ggL_law_X9_feed : GoodIn wsL_law wsX9_feed := goodIn_ca (mem_2 [(10, 15), (7, 11), (10, 16), (7, 13), (10, 17), (10, 18), (5, 17), (10, 19), (7, 19), (7, 20), (0, 5), (7, 21)] (by decide +kernel)) glX9
set_option maxRecDepth 20000 in
theorem gL_law_X9_feed : GoodIn wsL_law (wsV RL 38 RX9 yX9_feed wsX9_feed) := goodIn_app (goodIn_of _ (by decide +kernel)) ggL_law_X9_feed
set_option maxRecDepth 20000 in
theorem ggL_law_X9_got : GoodIn wsL_law wsX9_got := goodIn_ca (mem_2 [(30, 17), (7, 11), (19, 10), (26, 14), (5, 15), (7, 13), (26, 16), (26, 17), (0, 5), (26, 18), (26, 19), (7, 19), (7, 20), (7, 21)] (by decide +kernel)) glX9
set_option maxRecDepth 20000 in
theorem gL_law_X9_got : GoodIn wsL_law (wsV RL 73 RX9 yX9_got wsX9_got) := goodIn_app (goodIn_of _ (by decide +kernel)) ggL_law_X9_got
set_option maxRecDepth 20000 in
theorem ggL_law_X9_home : GoodIn wsL_law wsX9_home := goodIn_ca (mem_2 [(33, 23), (7, 11), (26, 19), (7, 13), (5, 18), (34, 0), (19, 22), (5, 19), (5, 21), (28, 7), (28, 8), (28, 9), (0, 5), (28, 10), (5, 15), (7, 19), (7, 20), (7, 21), (28, 16), (28, 17), (28, 18), (28, 19), (34, 1), (34, 2), (34, 3), (34, 4), (34, 5), (34, 6), (34, 7), (34, 8), (5, 20), (23, 23), (24, 0), (24, 1), (24, 2), (24, 3), (24, 4), (24, 5), (24, 6), (24, 7), (24, 8), (24, 9), (24, 10), (24, 11), (24, 15), (24, 16), (24, 17), (24, 18), (23, 22), (23, 21), (24, 19), (24, 20), (24, 21), (24, 22), (24, 23), (25, 0), (25, 1), (25, 2), (25, 3), (25, 4), (25, 5), (25, 6), (25, 7), (25, 8), (29, 0), (29, 1), (29, 2), (29, 3), (25, 13), (25, 14), (25, 15), (25, 16), (25, 9), (25, 10), (25, 11), (25, 12), (34, 9), (34, 10), (34, 11), (34, 12), (34, 13), (34, 14), (34, 15), (34, 16), (34, 17), (34, 18), (34, 19), (34, 20)] (by decide +kernel)) glX9
set_option maxRecDepth 20000 in
theorem gL_law_X9_home : GoodIn wsL_law (wsV RL 81 RX9 yX9_home wsX9_home) := goodIn_app (goodIn_of _ (by decide +kernel)) ggL_law_X9_home
set_option maxRecDepth 20000 in
theorem ggL_law_X9_image : GoodIn wsL_law wsX9_image := goodIn_ca (mem_2 [(40, 0), (7, 11), (7, 13), (19, 10), (26, 14), (6, 1), (5, 15), (6, 0), (7, 19), (7, 20), (0, 5), (7, 21)] (by decide +kernel)) glX9
set_option maxRecDepth 20000 in
theorem gL_law_X9_image : GoodIn wsL_law (wsV RL 105 RX9 yX9_image wsX9_image) := goodIn_app (goodIn_of _ (by decide +kernel)) ggL_law_X9_image
set_option maxRecDepth 20000 in
theorem ggL_law_X9_init : GoodIn wsL_law wsX9_init := goodIn_ca (mem_2 [(5, 10), (5, 11), (0, 11), (0, 12), (2, 5), (5, 12), (5, 13), (5, 14), (5, 15), (5, 16), (5, 17), (5, 18), (5, 19), (5, 20), (5, 21), (5, 22), (5, 23), (6, 0), (6, 1), (6, 2)] (by decide +kernel)) glX9
set_option maxRecDepth 20000 in
theorem gL_law_X9_init : GoodIn wsL_law (wsX9_init) := ggL_law_X9_init
set_option maxRecDepth 20000 in
theorem ggL_law_X9_kind : GoodIn wsL_law wsX9_kind := goodIn_ca (mem_2 [(41, 1), (7, 11), (7, 13), (24, 3), (24, 4), (24, 5), (0, 5), (24, 6), (24, 7), (7, 19), (7, 20), (7, 21), (24, 8), (24, 9), (24, 10), (24, 11), (5, 15), (41, 2), (41, 3), (41, 4), (41, 5)] (by decide +kernel)) glX9
set_option maxRecDepth 20000 in
theorem gL_law_X9_kind : GoodIn wsL_law (wsV RL 113 RX9 yX9_kind wsX9_kind) := goodIn_app (goodIn_of _ (by decide +kernel)) ggL_law_X9_kind
set_option maxRecDepth 20000 in
theorem ggL_law_X9_look : GoodIn wsL_law wsX9_look := goodIn_ca (mem_2 [(23, 20), (7, 11), (7, 12), (7, 13), (23, 21), (19, 22), (23, 22), (23, 23), (24, 0), (24, 1), (0, 5), (24, 2), (5, 15), (24, 3), (24, 4), (24, 5), (24, 6), (24, 7), (7, 19), (7, 20), (7, 21), (24, 8), (24, 9), (24, 10), (24, 11), (24, 12), (24, 13), (24, 14), (7, 18), (24, 15), (24, 16), (24, 17), (24, 18), (24, 19), (24, 20), (24, 21), (24, 22), (24, 23), (25, 0), (25, 1), (25, 2), (25, 3), (25, 4), (25, 5), (25, 6), (25, 7), (25, 8), (25, 9), (25, 10), (25, 11), (25, 12), (25, 13), (25, 14), (25, 15), (25, 16)] (by decide +kernel)) glX9
set_option maxRecDepth 20000 in
theorem gL_law_X9_look : GoodIn wsL_law (wsV RL 51 RX9 yX9_look wsX9_look) := goodIn_app (goodIn_of _ (by decide +kernel)) ggL_law_X9_look
set_option maxRecDepth 20000 in
theorem ggL_law_X9_nothing : GoodIn wsL_law wsX9_nothing := goodIn_ca (mem_2 [(35, 4), (7, 11), (7, 13), (5, 18), (19, 22), (28, 7), (28, 8), (28, 9), (0, 5), (28, 10), (5, 15), (7, 19), (7, 20), (7, 21), (28, 16), (28, 17), (28, 18), (28, 19), (34, 1), (34, 2), (34, 3), (34, 4), (34, 0), (5, 19), (34, 5), (34, 6), (34, 7), (34, 8), (5, 20), (5, 21), (23, 23), (24, 0), (24, 1), (24, 2), (24, 3), (24, 4), (24, 5), (24, 6), (24, 7), (24, 8), (24, 9), (24, 10), (24, 11), (24, 15), (24, 16), (24, 17), (24, 18), (23, 22), (23, 21), (24, 19), (24, 20), (24, 21), (24, 22), (24, 23), (25, 0), (25, 1), (25, 2), (25, 3), (25, 4), (25, 5), (25, 6), (25, 7), (25, 8), (29, 0), (29, 1), (29, 2), (29, 3), (25, 13), (25, 14), (25, 15), (25, 16), (25, 9), (25, 10), (25, 11), (25, 12), (34, 9), (34, 10), (34, 11), (34, 12), (34, 13), (34, 14), (34, 15), (34, 16)] (by decide +kernel)) glX9
set_option maxRecDepth 20000 in
theorem gL_law_X9_nothing : GoodIn wsL_law (wsV RL 85 RX9 yX9_nothing wsX9_nothing) := goodIn_app (goodIn_of _ (by decide +kernel)) ggL_law_X9_nothing
set_option maxRecDepth 20000 in
theorem ggL_law_X9_person : GoodIn wsL_law wsX9_person := goodIn_ca (mem_2 [(30, 1), (7, 11), (7, 13), (30, 2), (28, 15), (30, 3), (30, 4), (5, 15), (30, 5), (28, 7), (28, 8), (28, 9), (0, 5), (28, 10), (7, 19), (7, 20), (7, 21), (28, 16), (28, 17), (28, 18), (28, 19)] (by decide +kernel)) glX9
set_option maxRecDepth 20000 in
theorem gL_law_X9_person : GoodIn wsL_law (wsV RL 69 RX9 yX9_person wsX9_person) := goodIn_app (goodIn_of _ (by decide +kernel)) ggL_law_X9_person
set_option maxRecDepth 20000 in
theorem ggL_law_X9_price : GoodIn wsL_law wsX9_price := goodIn_ca (mem_2 [(26, 13), (7, 11), (19, 10), (26, 14), (26, 15), (7, 13), (5, 15), (26, 16), (26, 17), (0, 5), (26, 18), (26, 19), (7, 19), (7, 20), (7, 21)] (by decide +kernel)) glX9
set_option maxRecDepth 20000 in
theorem gL_law_X9_price : GoodIn wsL_law (wsV RL 56 RX9 yX9_price wsX9_price) := goodIn_app (goodIn_of _ (by decide +kernel)) ggL_law_X9_price
set_option maxRecDepth 20000 in
theorem ggL_law_X9_restore : GoodIn wsL_law wsX9_restore := goodIn_ca (mem_2 [(40, 8), (7, 11), (7, 13), (6, 0), (26, 14), (5, 15), (6, 1), (7, 19), (7, 20), (0, 5), (7, 21)] (by decide +kernel)) glX9
set_option maxRecDepth 20000 in
theorem gL_law_X9_restore : GoodIn wsL_law (wsV RL 109 RX9 yX9_restore wsX9_restore) := goodIn_app (goodIn_of _ (by decide +kernel)) ggL_law_X9_restore
set_option maxRecDepth 20000 in
theorem ggL_law_X9_rivals : GoodIn wsL_law wsX9_rivals := goodIn_ca (mem_2 [(38, 18), (7, 11), (19, 10), (26, 14), (38, 19), (26, 19), (7, 13), (5, 22), (5, 15), (19, 22), (7, 19), (7, 20), (0, 5), (7, 21), (38, 20), (38, 21), (38, 22), (38, 23), (39, 0), (39, 1), (39, 2), (39, 3), (24, 3), (24, 4), (24, 5), (24, 6), (24, 7), (24, 8), (24, 9), (24, 10), (24, 11), (37, 20), (37, 21), (37, 22), (37, 23), (37, 12), (37, 13), (37, 14), (37, 15), (37, 16), (37, 17), (37, 18), (37, 19), (5, 19), (34, 0), (5, 20), (5, 21), (34, 1), (34, 2), (34, 3), (34, 4), (5, 18), (34, 5), (34, 6), (34, 7), (34, 8), (23, 23), (24, 0), (24, 1), (24, 2), (24, 15), (24, 16), (24, 17), (24, 18), (23, 22), (23, 21), (24, 19), (24, 20), (24, 21), (24, 22), (24, 23), (25, 0), (25, 1), (25, 2), (25, 3), (25, 4), (25, 5), (25, 6), (25, 7), (25, 8), (29, 0), (29, 1), (29, 2), (29, 3), (25, 13), (25, 14), (25, 15), (25, 16), (28, 16), (28, 17), (28, 18), (28, 19), (25, 9), (25, 10), (25, 11), (25, 12), (34, 9), (34, 10), (34, 11), (34, 12), (34, 13), (34, 14), (34, 15), (34, 16), (34, 17), (34, 18), (34, 19), (34, 20)] (by decide +kernel)) glX9
set_option maxRecDepth 20000 in
theorem gL_law_X9_rivals : GoodIn wsL_law (wsV RL 97 RX9 yX9_rivals wsX9_rivals) := goodIn_app (goodIn_of _ (by decide +kernel)) ggL_law_X9_rivals
set_option maxRecDepth 20000 in
theorem ggL_law_X9_set : GoodIn wsL_law wsX9_set := goodIn_ca (mem_2 [(8, 19), (7, 11), (7, 13), (7, 14), (5, 12), (5, 13), (5, 14), (7, 15), (7, 16), (0, 5), (7, 17), (7, 18), (7, 19), (7, 20), (7, 21), (7, 22), (7, 23), (8, 0), (8, 1), (8, 2)] (by decide +kernel)) glX9
set_option maxRecDepth 20000 in
theorem gL_law_X9_set : GoodIn wsL_law (wsV RL 21 RX9 yX9_set wsX9_set) := goodIn_app (goodIn_of _ (by decide +kernel)) ggL_law_X9_set
set_option maxRecDepth 20000 in
theorem ggL_law_X9_sheet : GoodIn wsL_law wsX9_sheet := goodIn_ca (mem_2 [(7, 10), (7, 11), (7, 12), (7, 13), (7, 14), (5, 12), (5, 13), (5, 14), (7, 15), (7, 16), (0, 5), (7, 17), (7, 18), (7, 19), (7, 20), (7, 21), (7, 22), (7, 23), (8, 0), (8, 1), (8, 2)] (by decide +kernel)) glX9
set_option maxRecDepth 20000 in
theorem gL_law_X9_sheet : GoodIn wsL_law (wsV RL 17 RX9 yX9_sheet wsX9_sheet) := goodIn_app (goodIn_of _ (by decide +kernel)) ggL_law_X9_sheet
set_option maxRecDepth 20000 in
theorem ggL_law_X9_status : GoodIn wsL_law wsX9_status := goodIn_ca (mem_2 [(45, 20), (7, 11), (7, 14)] (by decide +kernel)) glX9
set_option maxRecDepth 20000 in
theorem gL_law_X9_status : GoodIn wsL_law (wsV RL 133 RX9 yX9_status wsX9_status) := goodIn_app (goodIn_of _ (by decide +kernel)) ggL_law_X9_status
set_option maxRecDepth 20000 in
theorem ggL_law_X9_step : GoodIn wsL_law wsX9_step := goodIn_ca (mem_2 [(28, 6), (7, 11), (7, 13), (28, 7), (28, 8), (28, 9), (0, 5), (28, 10), (5, 15), (7, 19), (7, 20), (7, 21), (28, 11), (28, 12), (28, 13), (28, 14), (28, 15), (7, 18), (28, 16), (28, 17), (28, 18), (28, 19), (28, 20), (28, 21), (28, 22), (28, 23), (24, 15), (24, 16), (24, 17), (24, 18), (23, 22), (23, 21), (24, 19), (24, 20), (24, 21), (24, 22), (24, 23), (25, 0), (25, 1), (25, 2), (25, 3), (25, 4), (25, 5), (25, 6), (25, 7), (25, 8), (24, 8), (24, 9), (24, 10), (24, 11), (25, 13), (25, 14), (25, 15), (25, 16), (29, 0), (29, 1), (29, 2), (29, 3), (25, 9), (25, 10), (25, 11), (25, 12)] (by decide +kernel)) glX9
set_option maxRecDepth 20000 in
theorem gL_law_X9_step : GoodIn wsL_law (wsV RL 60 RX9 yX9_step wsX9_step) := goodIn_app (goodIn_of _ (by decide +kernel)) ggL_law_X9_step
set_option maxRecDepth 20000 in
theorem ggL_law_X9_trace : GoodIn wsL_law wsX9_trace := goodIn_ca (mem_2 [(44, 9), (7, 11), (43, 3), (6, 2), (19, 22), (7, 19), (7, 20), (0, 5), (7, 21)] (by decide +kernel)) glX9
set_option maxRecDepth 20000 in
theorem gL_law_X9_trace : GoodIn wsL_law (wsV RL 125 RX9 yX9_trace wsX9_trace) := goodIn_app (goodIn_of _ (by decide +kernel)) ggL_law_X9_trace
set_option maxRecDepth 20000 in
theorem ggL_law_X9_walk : GoodIn wsL_law wsX9_walk := goodIn_ca (mem_2 [(29, 11), (7, 11), (29, 12), (7, 13), (5, 12), (5, 13), (5, 14), (7, 14), (28, 7), (28, 8), (28, 9), (0, 5), (28, 10), (5, 15), (7, 19), (7, 20), (7, 21), (7, 15), (7, 16), (7, 17), (7, 18), (7, 22), (7, 23), (8, 0), (8, 1), (8, 2), (28, 11), (28, 12), (28, 13), (28, 14), (28, 15), (28, 16), (28, 17), (28, 18), (28, 19), (28, 20), (28, 21), (28, 22), (28, 23), (24, 15), (24, 16), (24, 17), (24, 18), (23, 22), (23, 21), (24, 19), (24, 20), (24, 21), (24, 22), (24, 23), (25, 0), (25, 1), (25, 2), (25, 3), (25, 4), (25, 5), (25, 6), (25, 7), (25, 8), (24, 8), (24, 9), (24, 10), (24, 11), (25, 13), (25, 14), (25, 15), (25, 16), (29, 0), (29, 1), (29, 2), (29, 3), (25, 9), (25, 10), (25, 11), (25, 12)] (by decide +kernel)) glX9
set_option maxRecDepth 20000 in
theorem gL_law_X9_walk : GoodIn wsL_law (wsV RL 65 RX9 yX9_walk wsX9_walk) := goodIn_app (goodIn_of _ (by decide +kernel)) ggL_law_X9_walk
set_option maxRecDepth 20000 in
theorem ggL_law_X9_wall : GoodIn wsL_law wsX9_wall := goodIn_ca (mem_2 [(39, 16), (7, 11), (7, 13), (5, 15), (23, 23), (24, 0), (24, 1), (0, 5), (24, 2), (24, 3), (24, 4), (24, 5), (24, 6), (24, 7), (7, 19), (7, 20), (7, 21), (24, 8), (24, 9), (24, 10), (24, 11), (26, 16), (26, 17), (26, 18), (26, 19), (28, 16), (28, 17), (28, 18), (28, 19), (37, 12), (37, 13), (37, 14), (37, 15), (37, 16), (37, 17), (37, 18), (37, 19), (5, 19), (34, 0), (5, 20), (5, 21), (34, 1), (34, 2), (34, 3), (34, 4), (5, 18), (34, 5), (34, 6), (34, 7), (34, 8), (24, 15), (24, 16), (24, 17), (24, 18), (23, 22), (23, 21), (24, 19), (24, 20), (24, 21), (24, 22), (24, 23), (25, 0), (25, 1), (25, 2), (25, 3), (25, 4), (25, 5), (25, 6), (25, 7), (25, 8), (29, 0), (29, 1), (29, 2), (29, 3), (25, 13), (25, 14), (25, 15), (25, 16), (25, 9), (25, 10), (25, 11), (25, 12), (34, 9), (34, 10), (34, 11), (34, 12), (34, 13), (34, 14), (34, 15), (34, 16), (34, 17), (34, 18), (34, 19), (34, 20), (19, 22)] (by decide +kernel)) glX9
set_option maxRecDepth 20000 in
theorem gL_law_X9_wall : GoodIn wsL_law (wsV RL 101 RX9 yX9_wall wsX9_wall) := goodIn_app (goodIn_of _ (by decide +kernel)) ggL_law_X9_wall
set_option maxRecDepth 20000 in
theorem ggL_law_X9_witnesses : GoodIn wsL_law wsX9_witnesses := goodIn_ca (mem_2 [(31, 5), (7, 11), (19, 10), (26, 14), (5, 15), (7, 13), (26, 16), (26, 17), (0, 5), (26, 18), (26, 19), (7, 19), (7, 20), (7, 21)] (by decide +kernel)) glX9
set_option maxRecDepth 20000 in
theorem gL_law_X9_witnesses : GoodIn wsL_law (wsV RL 77 RX9 yX9_witnesses wsX9_witnesses) := goodIn_app (goodIn_of _ (by decide +kernel)) ggL_law_X9_witnesses
-- gL_law_X8_as gL_law_X8_ask gL_law_X8_beauty gL_law_X8_city gL_law_X8_copy gL_law_X8_count gL_law_X8_drop gL_law_X8_earns gL_law_X8_fault gL_law_X8_feed gL_law_X8_got gL_law_X8_home gL_law_X8_image gL_law_X8_init gL_law_X8_kind gL_law_X8_look gL_law_X8_nothing gL_law_X8_person gL_law_X8_price gL_law_X8_restore gL_law_X8_rivals gL_law_X8_set gL_law_X8_sheet gL_law_X8_status gL_law_X8_step gL_law_X8_trace gL_law_X8_walk gL_law_X8_wall gL_law_X8_witnesses gL_law_X9_as gL_law_X9_ask gL_law_X9_beauty gL_law_X9_city gL_law_X9_copy gL_law_X9_count gL_law_X9_drop gL_law_X9_earns gL_law_X9_fault gL_law_X9_feed gL_law_X9_got gL_law_X9_home gL_law_X9_image gL_law_X9_init gL_law_X9_kind gL_law_X9_look gL_law_X9_nothing gL_law_X9_person gL_law_X9_price gL_law_X9_restore gL_law_X9_rivals gL_law_X9_set gL_law_X9_sheet gL_law_X9_status gL_law_X9_step gL_law_X9_trace gL_law_X9_walk gL_law_X9_wall gL_law_X9_witnesses
