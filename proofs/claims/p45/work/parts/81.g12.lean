set_option maxRecDepth 20000 in
theorem pgL_law_J4_append_15ec4_7 : GoodIn wsL_law wsJ00 := goodIn_r _ [1288, 1289, 1290, 1291] (by decide +kernel) (by decide +kernel)
set_option maxRecDepth 20000 in
theorem ggL_law_J4_append_15ec4 : GoodIn wsL_law wsJ4_append_15ec4 := goodIn_ca (goodIn_ca (goodIn_ca pgL_law_J4_append_15ec4_0 (goodIn_app pgL_law_J4_append_15ec4_1 (goodIn_app pgL_law_J4_append_15ec4_2 (goodIn_app pgL_law_J4_append_15ec4_3 (goodIn_app pgL_law_J4_append_15ec4_4 (pgL_law_J4_append_15ec4_5)))))) pgL_law_J4_append_15ec4_6) pgL_law_J4_append_15ec4_7
set_option maxRecDepth 20000 in
theorem gL_law_J4_append_15ec4 : GoodIn wsL_law (wsV RL 37 RJ4 yJ4_append_15ec4 wsJ4_append_15ec4) := goodIn_app (goodIn_of _ (by decide +kernel)) ggL_law_J4_append_15ec4
set_option maxRecDepth 20000 in
theorem pgL_law_J4_append_bf812_0 : GoodIn wsL_law (Cond.code yJ4_append_bf812 cJ4_append_bf812 2 (some (.object "java/lang/StringBuilder")) :: wsJ4_append_bf812_r1) := goodIn_r _ [375, 376, 377, 171, 378, 121, 379, 174, 125, 380, 381, 382, 383, 180, 181, 182, 183, 184, 126, 185, 186, 187, 188, 189, 190] (by decide +kernel) (by decide +kernel)
set_option maxRecDepth 20000 in
theorem pgL_law_J4_append_bf812_1 : GoodIn wsL_law wsJ4_append_bf812_r2 := goodIn_r _ [191, 192, 193, 194, 195, 196, 11, 197, 198, 199, 200, 201, 202, 203, 204, 205, 206, 207, 208, 209, 210, 211, 43, 212] (by decide +kernel) (by decide +kernel)
set_option maxRecDepth 20000 in
theorem pgL_law_J4_append_bf812_2 : GoodIn wsL_law wsJ4_append_bf812_r3 := goodIn_r _ [10, 12, 213, 214, 215, 216, 217, 218, 219, 220, 221, 124, 384, 385, 386, 387, 388, 389, 390, 129, 391, 225, 226, 227] (by decide +kernel) (by decide +kernel)
set_option maxRecDepth 20000 in
theorem pgL_law_J4_append_bf812_3 : GoodIn wsL_law wsJ4_append_bf812_r4 := goodIn_r _ [228, 229, 230, 231, 232, 233, 234, 235, 236, 237, 238, 239, 240, 392, 393, 394, 395, 396, 241, 242, 243, 244, 245] (by decide +kernel) (by decide +kernel)
set_option maxRecDepth 20000 in
theorem pgL_law_J4_append_bf812_4 : GoodIn wsL_law wsJ40 := goodIn_r _ [1234, 1235, 1236, 1237] (by decide +kernel) (by decide +kernel)
set_option maxRecDepth 20000 in
theorem ggL_law_J4_append_bf812 : GoodIn wsL_law wsJ4_append_bf812 := goodIn_ca (goodIn_ca pgL_law_J4_append_bf812_0 (goodIn_app pgL_law_J4_append_bf812_1 (goodIn_app pgL_law_J4_append_bf812_2 (pgL_law_J4_append_bf812_3)))) pgL_law_J4_append_bf812_4
set_option maxRecDepth 20000 in
theorem gL_law_J4_append_bf812 : GoodIn wsL_law (wsV RL 72 RJ4 yJ4_append_bf812 wsJ4_append_bf812) := goodIn_app (goodIn_of _ (by decide +kernel)) ggL_law_J4_append_bf812
set_option maxRecDepth 20000 in
theorem ggL_law_X12_pourWater : GoodIn wsL_law wsX12_pourWater := goodIn_ca (goodIn_ca (goodIn_r _ [816, 817, 818, 819, 2, 820, 821, 822, 32, 823, 757, 758, 31, 759, 87, 79, 509, 510, 511, 512, 513, 824, 825, 826, 91, 827, 828, 10, 11, 12, 99, 766, 765, 764, 829, 830, 831, 832, 833, 834, 835, 836, 837, 838, 839, 1226, 1227, 1228, 1229, 1230, 1231, 1232, 1256, 1257, 1258, 1259, 1260, 1261, 1262, 1263, 1264, 1274, 1275, 1276, 1277, 1278, 1279, 1280, 1283, 1284, 1285, 1286, 1287] (by decide +kernel) (by decide +kernel)) (goodIn_sub (fun _ h => List.mem_append_right _ h) (by decide +kernel))) (goodIn_sub (fun _ h => List.mem_append_left _ (List.mem_append_right _ h)) (by decide +kernel))
set_option maxRecDepth 20000 in
theorem gL_law_X12_pourWater : GoodIn wsL_law (wsV RL 120 RX12 yX12_pourWater wsX12_pourWater) := goodIn_app (goodIn_of _ (by decide +kernel)) ggL_law_X12_pourWater
