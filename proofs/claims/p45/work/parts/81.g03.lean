set_option maxRecDepth 20000 in
theorem pgL_law_L_drawn_15 : GoodIn wsL_law wsL_drawn_r16 := goodIn_r _ [466, 467, 468, 469, 470, 471, 472, 473, 474] (by decide +kernel) (by decide +kernel)
set_option maxRecDepth 20000 in
theorem pgL_law_L_drawn_16 : GoodIn wsL_law wsX150 := goodIn_r _ [1238, 1239, 1240, 1241, 1242, 1243, 1244, 1245, 1246, 1247, 1248, 1249] (by decide +kernel) (by decide +kernel)
set_option maxRecDepth 20000 in
theorem pgL_law_L_drawn_17 : GoodIn wsL_law wsX140 := goodIn_r _ [1233] (by decide +kernel) (by decide +kernel)
set_option maxRecDepth 20000 in
theorem pgL_law_L_drawn_18 : GoodIn wsL_law wsJ40 := goodIn_r _ [1234, 1235, 1236, 1237] (by decide +kernel) (by decide +kernel)
set_option maxRecDepth 20000 in
theorem pgL_law_L_drawn_19 : GoodIn wsL_law wsJ00 := goodIn_r _ [1288, 1289, 1290, 1291] (by decide +kernel) (by decide +kernel)
set_option maxRecDepth 20000 in
theorem pgL_law_L_drawn_20 : GoodIn wsL_law wsX130 := goodIn_r _ [1292, 1293, 1294, 1295, 1296, 1297, 1298, 1299] (by decide +kernel) (by decide +kernel)
set_option maxRecDepth 20000 in
theorem pgL_law_L_drawn_21 : GoodIn wsL_law wsX160 := goodIn_r _ [1300, 1301, 1302, 1303] (by decide +kernel) (by decide +kernel)
set_option maxRecDepth 20000 in
theorem ggL_law_L_drawn : GoodIn wsL_law wsL_drawn := goodIn_ca (goodIn_ca (goodIn_ca (goodIn_ca (goodIn_ca (goodIn_ca (goodIn_ca pgL_law_L_drawn_0 (goodIn_app pgL_law_L_drawn_1 (goodIn_app pgL_law_L_drawn_2 (goodIn_app pgL_law_L_drawn_3 (goodIn_app pgL_law_L_drawn_4 (goodIn_app pgL_law_L_drawn_5 (goodIn_app pgL_law_L_drawn_6 (goodIn_app pgL_law_L_drawn_7 (goodIn_app pgL_law_L_drawn_8 (goodIn_app pgL_law_L_drawn_9 (goodIn_app pgL_law_L_drawn_10 (goodIn_app pgL_law_L_drawn_11 (goodIn_app pgL_law_L_drawn_12 (goodIn_app pgL_law_L_drawn_13 (goodIn_app pgL_law_L_drawn_14 (pgL_law_L_drawn_15)))))))))))))))) pgL_law_L_drawn_16) pgL_law_L_drawn_17) pgL_law_L_drawn_18) pgL_law_L_drawn_19) pgL_law_L_drawn_20) pgL_law_L_drawn_21
set_option maxRecDepth 20000 in
theorem gL_law_L_drawn : GoodIn wsL_law (va_wsS RL 152 yL_drawn wsL_drawn) := goodIn_app (goodIn_of _ (by decide +kernel)) ggL_law_L_drawn
set_option maxRecDepth 20000 in
theorem pgL_law_J4_toString_0e30d_0 : GoodIn wsL_law (Cond.code yJ4_toString_0e30d cJ4_toString_0e30d 1 (some (.object "java/lang/String")) :: wsJ4_toString_0e30d_r1) := goodIn_r _ [324, 325, 326, 234, 327, 328, 329, 330, 331, 332, 333, 19, 20, 256, 250, 255, 334, 335, 336, 337, 338, 121, 339, 125, 340] (by decide +kernel) (by decide +kernel)
set_option maxRecDepth 20000 in
theorem pgL_law_J4_toString_0e30d_1 : GoodIn wsL_law wsJ4_toString_0e30d_r2 := goodIn_r _ [341, 342, 343, 344, 8, 345, 346, 171, 347, 348, 174, 349, 218, 219, 220, 221, 124, 126, 350, 351, 204, 352, 206, 207] (by decide +kernel) (by decide +kernel)
set_option maxRecDepth 20000 in
theorem pgL_law_J4_toString_0e30d_2 : GoodIn wsL_law wsJ4_toString_0e30d_r3 := goodIn_r _ [208, 209, 210, 211, 353, 354, 355, 43, 212, 10, 11, 12, 213, 214, 215, 216, 356, 357, 358, 359, 360, 129, 361, 362] (by decide +kernel) (by decide +kernel)
