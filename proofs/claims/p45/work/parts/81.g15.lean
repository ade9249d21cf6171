set_option maxRecDepth 20000 in
theorem pgL_law_X12_warningsOfRecipe_10 : GoodIn wsL_law wsX40 := goodIn_r _ [1281, 1282] (by decide +kernel) (by decide +kernel)
set_option maxRecDepth 20000 in
theorem pgL_law_X12_warningsOfRecipe_11 : GoodIn wsL_law wsX20 := goodIn_r _ [1274, 1275, 1276, 1277, 1278, 1279, 1280] (by decide +kernel) (by decide +kernel)
set_option maxRecDepth 20000 in
theorem pgL_law_X12_warningsOfRecipe_12 : GoodIn wsL_law wsX70 := goodIn_r _ [1283, 1284, 1285, 1286, 1287] (by decide +kernel) (by decide +kernel)
set_option maxRecDepth 20000 in
theorem pgL_law_X12_warningsOfRecipe_13 : GoodIn wsL_law wsX30 := goodIn_r _ [1265, 1266, 1267] (by decide +kernel) (by decide +kernel)
set_option maxRecDepth 20000 in
theorem pgL_law_X12_warningsOfRecipe_14 : GoodIn wsL_law wsX10 := goodIn_r _ [1304, 1305, 1306, 1307, 1308, 1309, 1310, 1311, 1312] (by decide +kernel) (by decide +kernel)
set_option maxRecDepth 20000 in
theorem pgL_law_X12_warningsOfRecipe_15 : GoodIn wsL_law wsX110 := goodIn_r _ [1313, 1314, 1315, 1316, 1317] (by decide +kernel) (by decide +kernel)
set_option maxRecDepth 20000 in
theorem ggL_law_X12_warningsOfRecipe : GoodIn wsL_law wsX12_warningsOfRecipe := goodIn_ca (goodIn_ca (goodIn_ca (goodIn_ca (goodIn_ca (goodIn_ca (goodIn_ca (goodIn_ca (goodIn_ca (goodIn_ca pgL_law_X12_warningsOfRecipe_0 (goodIn_app pgL_law_X12_warningsOfRecipe_1 (goodIn_app pgL_law_X12_warningsOfRecipe_2 (goodIn_app pgL_law_X12_warningsOfRecipe_3 (goodIn_app pgL_law_X12_warningsOfRecipe_4 (goodIn_app pgL_law_X12_warningsOfRecipe_5 (goodIn_app pgL_law_X12_warningsOfRecipe_6 (pgL_law_X12_warningsOfRecipe_7)))))))) pgL_law_X12_warningsOfRecipe_8) pgL_law_X12_warningsOfRecipe_9) pgL_law_X12_warningsOfRecipe_10) pgL_law_X12_warningsOfRecipe_11) pgL_law_X12_warningsOfRecipe_12) pgL_law_X12_warningsOfRecipe_13) pgL_law_X12_warningsOfRecipe_14) pgL_law_X12_warningsOfRecipe_15) (goodIn_sub (fun _ h => List.mem_append_right _ h) (by decide +kernel))
set_option maxRecDepth 20000 in
theorem gL_law_X12_warningsOfRecipe : GoodIn wsL_law (wsV RL 227 RX12 yX12_warningsOfRecipe wsX12_warningsOfRecipe) := goodIn_app (goodIn_of _ (by decide +kernel)) ggL_law_X12_warningsOfRecipe
set_option maxRecDepth 20000 in
theorem pgL_law_X12_firstWarning_0 : GoodIn wsL_law (Cond.code yX12_firstWarning cX12_firstWarning 2 (some .int) :: wsX12_firstWarning_r1) := goodIn_r _ [1164, 37, 32, 38, 884, 885, 886, 2, 887, 888, 889, 890, 821, 822, 1149, 1150, 1151, 31, 1152, 87, 745, 88, 89, 746, 747] (by decide +kernel) (by decide +kernel)
set_option maxRecDepth 20000 in
theorem pgL_law_X12_firstWarning_1 : GoodIn wsL_law wsX12_firstWarning_r2 := goodIn_r _ [748, 749, 750, 83, 84, 85, 751, 752, 753, 82, 754, 755, 756, 757, 758, 759, 79, 1153, 1154, 1155, 91, 1156, 833, 764] (by decide +kernel) (by decide +kernel)
set_option maxRecDepth 20000 in
theorem pgL_law_X12_firstWarning_2 : GoodIn wsL_law wsX12_firstWarning_r3 := goodIn_r _ [765, 99, 766, 891, 892, 893, 35, 894, 895, 104, 105, 896, 897, 898, 54, 899, 73, 900, 901, 902, 903, 904, 905, 906] (by decide +kernel) (by decide +kernel)
set_option maxRecDepth 20000 in
theorem pgL_law_X12_firstWarning_3 : GoodIn wsL_law wsX12_firstWarning_r4 := goodIn_r _ [907, 908, 909, 668, 669, 670, 671, 672, 673, 910, 911, 912, 913, 914, 915, 916, 917, 918, 919, 920, 921, 922, 923, 838] (by decide +kernel) (by decide +kernel)
