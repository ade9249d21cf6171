set_option maxRecDepth 20000 in
theorem pgL_law_X15_isSame_8 : GoodIn wsL_law wsX150 := goodIn_r _ [1238, 1239, 1240, 1241, 1242, 1243, 1244, 1245, 1246, 1247, 1248, 1249] (by decide +kernel) (by decide +kernel)
set_option maxRecDepth 20000 in
theorem pgL_law_X15_isSame_9 : GoodIn wsL_law wsX70 := goodIn_r _ [1283, 1284, 1285, 1286, 1287] (by decide +kernel) (by decide +kernel)
set_option maxRecDepth 20000 in
theorem pgL_law_X15_isSame_10 : GoodIn wsL_law wsX120 := goodIn_r _ [1226, 1227, 1228, 1229, 1230, 1231, 1232] (by decide +kernel) (by decide +kernel)
set_option maxRecDepth 20000 in
theorem pgL_law_X15_isSame_11 : GoodIn wsL_law wsX60 := goodIn_r _ [1256, 1257, 1258, 1259, 1260, 1261, 1262, 1263, 1264] (by decide +kernel) (by decide +kernel)
set_option maxRecDepth 20000 in
theorem pgL_law_X15_isSame_12 : GoodIn wsL_law wsX20 := goodIn_r _ [1274, 1275, 1276, 1277, 1278, 1279, 1280] (by decide +kernel) (by decide +kernel)
set_option maxRecDepth 20000 in
theorem pgL_law_X15_isSame_13 : GoodIn wsL_law wsX40 := goodIn_r _ [1281, 1282] (by decide +kernel) (by decide +kernel)
set_option maxRecDepth 20000 in
theorem pgL_law_X15_isSame_14 : GoodIn wsL_law wsX130 := goodIn_r _ [1292, 1293, 1294, 1295, 1296, 1297, 1298, 1299] (by decide +kernel) (by decide +kernel)
set_option maxRecDepth 20000 in
theorem ggL_law_X15_isSame : GoodIn wsL_law wsX15_isSame := goodIn_ca (goodIn_ca (goodIn_ca (goodIn_ca (goodIn_ca (goodIn_ca (goodIn_ca (goodIn_ca (goodIn_ca (goodIn_ca pgL_law_X15_isSame_0 (goodIn_app pgL_law_X15_isSame_1 (goodIn_app pgL_law_X15_isSame_2 (goodIn_app pgL_law_X15_isSame_3 (goodIn_app pgL_law_X15_isSame_4 (goodIn_app pgL_law_X15_isSame_5 (goodIn_app pgL_law_X15_isSame_6 (pgL_law_X15_isSame_7)))))))) pgL_law_X15_isSame_8) pgL_law_X15_isSame_9) pgL_law_X15_isSame_10) pgL_law_X15_isSame_11) pgL_law_X15_isSame_12) pgL_law_X15_isSame_13) pgL_law_X15_isSame_14) (goodIn_sub (fun _ h => List.mem_append_right _ h) (by decide +kernel))) (goodIn_sub (fun _ h => List.mem_append_left _ (List.mem_append_right _ h)) (by decide +kernel))
set_option maxRecDepth 20000 in
theorem gL_law_X15_isSame : GoodIn wsL_law (wsV RL 247 RX15 yX15_isSame wsX15_isSame) := goodIn_app (goodIn_of _ (by decide +kernel)) ggL_law_X15_isSame
set_option maxRecDepth 20000 in
theorem pgL_law_J4_append_15ec4_0 : GoodIn wsL_law (Cond.code yJ4_append_15ec4 cJ4_append_15ec4 2 (some (.object "java/lang/StringBuilder")) :: wsJ4_append_15ec4_r1) := goodIn_r _ [168, 169, 170, 171, 172, 121, 173, 174, 175, 176, 177, 178, 179, 125, 180, 181, 182, 183, 184, 126, 185, 186, 187, 188, 189] (by decide +kernel) (by decide +kernel)
set_option maxRecDepth 20000 in
theorem pgL_law_J4_append_15ec4_1 : GoodIn wsL_law wsJ4_append_15ec4_r2 := goodIn_r _ [190, 191, 192, 193, 194, 195, 196, 11, 197, 198, 199, 200, 201, 202, 203, 204, 205, 206, 207, 208, 209, 210, 211, 43] (by decide +kernel) (by decide +kernel)
set_option maxRecDepth 20000 in
theorem pgL_law_J4_append_15ec4_2 : GoodIn wsL_law wsJ4_append_15ec4_r3 := goodIn_r _ [212, 10, 12, 213, 214, 215, 216, 217, 218, 219, 220, 221, 124, 222, 223, 129, 224, 225, 226, 227, 228, 229, 230, 231] (by decide +kernel) (by decide +kernel)
