set_option maxRecDepth 20000 in
theorem gL_law_X15_climb : GoodIn wsL_law (wsV RL 101 RX15 yX15_climb wsX15_climb) := goodIn_app (goodIn_of _ (by decide +kernel)) ggL_law_X15_climb
set_option maxRecDepth 20000 in
theorem pgL_law_X15_cook_0 : GoodIn wsL_law (Cond.code yX15_cook cX15_cook 3 (some .int) :: wsX15_cook_r1) := goodIn_r _ [987, 862, 988, 989, 153, 990, 991, 992, 140, 993, 994, 995, 996, 997, 998, 151, 999, 1000, 13, 156, 1001, 1002, 1003, 1004, 1005] (by decide +kernel) (by decide +kernel)
set_option maxRecDepth 20000 in
theorem pgL_law_X15_cook_1 : GoodIn wsL_law wsX15_cook_r2 := goodIn_r _ [1006, 412, 1007, 432, 434, 435, 433, 1008, 1009, 1010, 1011, 1012, 1013, 1014, 786, 787, 788, 784, 1015, 845, 846, 847, 1016, 1017] (by decide +kernel) (by decide +kernel)
set_option maxRecDepth 20000 in
theorem pgL_law_X15_cook_2 : GoodIn wsL_law wsX15_cook_r3 := goodIn_r _ [1018, 1019, 148, 149, 1020, 1021, 1022, 1023, 841, 842, 843, 844, 1024, 1025, 1026, 1027, 154, 155, 1028, 1029, 1030, 1031, 859, 860] (by decide +kernel) (by decide +kernel)
set_option maxRecDepth 20000 in
theorem pgL_law_X15_cook_3 : GoodIn wsL_law wsX15_cook_r4 := goodIn_r _ [861, 785, 1032, 1033, 1034, 1035, 1036, 1037, 1038, 1039, 1040, 1041, 399, 1042, 413, 414, 415, 1043] (by decide +kernel) (by decide +kernel)
set_option maxRecDepth 20000 in
theorem pgL_law_X15_cook_4 : GoodIn wsL_law wsX150 := goodIn_r _ [1238, 1239, 1240, 1241, 1242, 1243, 1244, 1245, 1246, 1247, 1248, 1249] (by decide +kernel) (by decide +kernel)
set_option maxRecDepth 20000 in
theorem pgL_law_X15_cook_5 : GoodIn wsL_law wsX130 := goodIn_r _ [1292, 1293, 1294, 1295, 1296, 1297, 1298, 1299] (by decide +kernel) (by decide +kernel)
set_option maxRecDepth 20000 in
theorem pgL_law_X15_cook_6 : GoodIn wsL_law wsX160 := goodIn_r _ [1300, 1301, 1302, 1303] (by decide +kernel) (by decide +kernel)
set_option maxRecDepth 20000 in
theorem ggL_law_X15_cook : GoodIn wsL_law wsX15_cook := goodIn_ca (goodIn_ca (goodIn_ca (goodIn_ca pgL_law_X15_cook_0 (goodIn_app pgL_law_X15_cook_1 (goodIn_app pgL_law_X15_cook_2 (pgL_law_X15_cook_3)))) pgL_law_X15_cook_4) pgL_law_X15_cook_5) pgL_law_X15_cook_6
set_option maxRecDepth 20000 in
theorem gL_law_X15_cook : GoodIn wsL_law (wsV RL 144 RX15 yX15_cook wsX15_cook) := goodIn_app (goodIn_of _ (by decide +kernel)) ggL_law_X15_cook
set_option maxRecDepth 20000 in
theorem ggL_law_X12_setServings : GoodIn wsL_law wsX12_setServings := goodIn_ca (goodIn_r _ [808, 32, 509, 510, 2, 511, 512, 513, 1226, 1227, 1228, 1229, 1230, 1231, 1232, 1256, 1257, 1258, 1259, 1260, 1261, 1262, 1263, 1264] (by decide +kernel) (by decide +kernel)) (goodIn_sub (fun _ h => List.mem_append_left _ (List.mem_append_right _ h)) (by decide +kernel))
set_option maxRecDepth 20000 in
theorem gL_law_X12_setServings : GoodIn wsL_law (wsV RL 111 RX12 yX12_setServings wsX12_setServings) := goodIn_app (goodIn_of _ (by decide +kernel)) ggL_law_X12_setServings
