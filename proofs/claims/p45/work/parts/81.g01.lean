set_option maxRecDepth 20000 in
theorem pgL_law_X12_init_12 : GoodIn wsL_law wsX70 := goodIn_r _ [1283, 1284, 1285, 1286, 1287] (by decide +kernel) (by decide +kernel)
set_option maxRecDepth 20000 in
theorem ggL_law_X12_init : GoodIn wsL_law wsX12_init := goodIn_ca (goodIn_ca (goodIn_ca (goodIn_ca (goodIn_ca (goodIn_ca (goodIn_ca (goodIn_ca (goodIn_ca (goodIn_ca pgL_law_X12_init_0 (goodIn_app pgL_law_X12_init_1 (goodIn_app pgL_law_X12_init_2 (pgL_law_X12_init_3)))) pgL_law_X12_init_4) pgL_law_X12_init_5) pgL_law_X12_init_6) pgL_law_X12_init_7) pgL_law_X12_init_8) pgL_law_X12_init_9) pgL_law_X12_init_10) pgL_law_X12_init_11) pgL_law_X12_init_12
set_option maxRecDepth 20000 in
theorem gL_law_X12_init : GoodIn wsL_law (wsX12_init) := ggL_law_X12_init
set_option maxRecDepth 20000 in
theorem ggL_law_L_cell : GoodIn wsL_law wsL_cell := goodIn_r _ [109, 110] (by decide +kernel) (by decide +kernel)
set_option maxRecDepth 20000 in
theorem gL_law_L_cell : GoodIn wsL_law (va_wsS RL 146 yL_cell wsL_cell) := goodIn_app (goodIn_of _ (by decide +kernel)) ggL_law_L_cell
set_option maxRecDepth 20000 in
theorem ggL_law_X14_init : GoodIn wsL_law wsX14_init := goodIn_r _ [113, 114, 19, 20, 115, 1233] (by decide +kernel) (by decide +kernel)
set_option maxRecDepth 20000 in
theorem gL_law_X14_init : GoodIn wsL_law (wsX14_init) := ggL_law_X14_init
set_option maxRecDepth 20000 in
theorem ggL_law_J4_init_da8c8 : GoodIn wsL_law wsJ4_init_da8c8 := goodIn_r _ [118, 119, 120, 121, 122, 123, 19, 20, 124, 43, 125, 126, 127, 128, 129, 130, 131, 132, 133, 134, 1234, 1235, 1236, 1237] (by decide +kernel) (by decide +kernel)
set_option maxRecDepth 20000 in
theorem gL_law_J4_init_da8c8 : GoodIn wsL_law (wsJ4_init_da8c8) := ggL_law_J4_init_da8c8
set_option maxRecDepth 20000 in
theorem pgL_law_L_drawn_0 : GoodIn wsL_law (Cond.code yL_drawn cL_drawn 10 (some (.object "HighRecipesLaw$Kitchen")) :: wsL_drawn_r1) := goodIn_r _ [137, 138, 139, 140, 141, 142, 13, 143, 144, 145, 146, 147, 19, 20, 148, 149, 150, 151, 152, 153, 154, 155, 156, 157, 158] (by decide +kernel) (by decide +kernel)
set_option maxRecDepth 20000 in
theorem pgL_law_L_drawn_1 : GoodIn wsL_law wsL_drawn_r2 := goodIn_r _ [159, 5, 160, 115, 161, 162, 108, 163, 164, 165, 166, 167, 8, 168, 169, 170, 171, 172, 121, 173, 174, 175, 176, 177] (by decide +kernel) (by decide +kernel)
set_option maxRecDepth 20000 in
theorem pgL_law_L_drawn_2 : GoodIn wsL_law wsL_drawn_r3 := goodIn_r _ [178, 179, 125, 180, 181, 182, 183, 184, 126, 185, 186, 187, 188, 189, 190, 191, 192, 193, 194, 195, 196, 11, 197, 198] (by decide +kernel) (by decide +kernel)
