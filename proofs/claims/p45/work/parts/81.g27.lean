set_option maxRecDepth 20000 in
theorem pgL_law_J4_append_15ec4_3 : GoodIn wsL_law wsJ4_append_15ec4_r4 := goodIn_r _ [232, 233, 234, 235, 236, 237, 238, 239, 240, 241, 242, 243, 244, 245, 246, 247, 248, 249, 250, 251, 252, 253, 254, 255] (by decide +kernel) (by decide +kernel)
set_option maxRecDepth 20000 in
theorem pgL_law_J4_append_15ec4_4 : GoodIn wsL_law wsJ4_append_15ec4_r5 := goodIn_r _ [256, 257, 258, 259, 260, 261, 262, 263, 264, 265, 266, 267, 268, 269, 270, 271, 272, 127, 128, 130, 131, 132, 133, 134] (by decide +kernel) (by decide +kernel)
set_option maxRecDepth 20000 in
theorem pgL_law_J4_append_15ec4_5 : GoodIn wsL_law wsJ4_append_15ec4_r6 := goodIn_r _ [273, 274, 275, 276, 277, 278, 279, 280, 281, 282, 283, 284, 285, 286, 287, 288, 289, 290, 291, 292, 293, 294] (by decide +kernel) (by decide +kernel)
set_option maxRecDepth 20000 in
theorem pgL_law_J4_append_15ec4_6 : GoodIn wsL_law wsJ40 := goodIn_r _ [1234, 1235, 1236, 1237] (by decide +kernel) (by decide +kernel)
set_option maxRecDepth 20000 in
theorem pgL_law_J4_append_15ec4_7 : GoodIn wsL_law wsJ00 := goodIn_r _ [1288, 1289, 1290, 1291] (by decide +kernel) (by decide +kernel)
set_option maxRecDepth 20000 in
theorem ggL_law_J4_append_15ec4 : GoodIn wsL_law wsJ4_append_15ec4 := goodIn_ca (goodIn_ca (goodIn_ca pgL_law_J4_append_15ec4_0 (goodIn_app pgL_law_J4_append_15ec4_1 (goodIn_app pgL_law_J4_append_15ec4_2 (goodIn_app pgL_law_J4_append_15ec4_3 (goodIn_app pgL_law_J4_append_15ec4_4 (pgL_law_J4_append_15ec4_5)))))) pgL_law_J4_append_15ec4_6) pgL_law_J4_append_15ec4_7
set_option maxRecDepth 20000 in
theorem gL_law_J4_append_15ec4 : GoodIn wsL_law (wsV RL 37 RJ4 yJ4_append_15ec4 wsJ4_append_15ec4) := goodIn_app (goodIn_of _ (by decide +kernel)) ggL_law_J4_append_15ec4
set_option maxRecDepth 20000 in
theorem pgL_law_J4_append_bf812_0 : GoodIn wsL_law (Cond.code yJ4_append_bf812 cJ4_append_bf812 2 (some (.object "java/lang/StringBuilder")) :: wsJ4_append_bf812_r1) := goodIn_r _ [375, 376, 377, 171, 378, 121, 379, 174, 125, 380, 381, 382, 383, 180, 181, 182, 183, 184, 126, 185, 186, 187, 188, 189, 190] (by decide +kernel) (by decide +kernel)
set_option maxRecDepth 20000 in
theorem pgL_law_J4_append_bf812_1 : GoodIn wsL_law wsJ4_append_bf812_r2 := goodIn_r _ [191, 192, 193, 194, 195, 196, 11, 197, 198, 199, 200, 201, 202, 203, 204, 205, 206, 207, 208, 209, 210, 211, 43, 212] (by decide +kernel) (by decide +kernel)
set_option maxRecDepth 20000 in
theorem pgL_law_J4_append_bf812_2 : GoodIn wsL_law wsJ4_append_bf812_r3 := goodIn_r _ [10, 12, 213, 214, 215, 216, 217, 218, 219, 220, 221, 124, 384, 385, 386, 387, 388, 389, 390, 129, 391, 225, 226, 227] (by decide +kernel) (by decide +kernel)
set_option maxRecDepth 20000 in
theorem pgL_law_J4_append_bf812_3 : GoodIn wsL_law wsJ4_append_bf812_r4 := goodIn_r _ [228, 229, 230, 231, 232, 233, 234, 235, 236, 237, 238, 239, 240, 392, 393, 394, 395, 396, 241, 242, 243, 244, 245] (by decide +kernel) (by decide +kernel)
set_option maxRecDepth 20000 in
theorem pgL_law_J4_append_bf812_4 : GoodIn wsL_law wsJ40 := goodIn_r _ [1234, 1235, 1236, 1237] (by decide +kernel) (by decide +kernel)
