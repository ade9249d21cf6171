set_option maxRecDepth 20000 in
theorem ggL_law_X12_amountFor : GoodIn wsL_law wsX12_amountFor := goodIn_ca (goodIn_r _ [1130, 32, 509, 510, 2, 511, 512, 513, 1131, 935, 936, 31, 937, 88, 89, 938, 939, 940, 10, 11, 12, 941, 196, 197, 838, 839, 1226, 1227, 1228, 1229, 1230, 1231, 1232, 1256, 1257, 1258, 1259, 1260, 1261, 1262, 1263, 1264] (by decide +kernel) (by decide +kernel)) (goodIn_sub (fun _ h => List.mem_append_left _ (List.mem_append_right _ h)) (by decide +kernel))
set_option maxRecDepth 20000 in
theorem gL_law_X12_amountFor : GoodIn wsL_law (wsV RL 214 RX12 yX12_amountFor wsX12_amountFor) := goodIn_app (goodIn_of _ (by decide +kernel)) ggL_law_X12_amountFor
set_option maxRecDepth 20000 in
theorem ggL_law_X12_spoon : GoodIn wsL_law wsX12_spoon := goodIn_r _ [1135, 32, 1226, 1227, 1228, 1229, 1230, 1231, 1232, 1256, 1257, 1258, 1259, 1260, 1261, 1262, 1263, 1264] (by decide +kernel) (by decide +kernel)
set_option maxRecDepth 20000 in
theorem gL_law_X12_spoon : GoodIn wsL_law (wsV RL 217 RX12 yX12_spoon wsX12_spoon) := goodIn_app (goodIn_of _ (by decide +kernel)) ggL_law_X12_spoon
set_option maxRecDepth 20000 in
theorem ggL_law_X12_minutesAt : GoodIn wsL_law wsX12_minutesAt := goodIn_ca (goodIn_r _ [1139, 509, 510, 2, 511, 512, 513, 1140, 971, 31, 972, 973, 974, 975, 802, 803, 804] (by decide +kernel) (by decide +kernel)) (goodIn_sub (fun _ h => List.mem_append_left _ (List.mem_append_right _ h)) (by decide +kernel))
set_option maxRecDepth 20000 in
theorem gL_law_X12_minutesAt : GoodIn wsL_law (wsV RL 219 RX12 yX12_minutesAt wsX12_minutesAt) := goodIn_app (goodIn_of _ (by decide +kernel)) ggL_law_X12_minutesAt
set_option maxRecDepth 20000 in
theorem ggL_law_X12_recipes : GoodIn wsL_law wsX12_recipes := goodIn_r _ [1144, 32, 1226, 1227, 1228, 1229, 1230, 1231, 1232, 1256, 1257, 1258, 1259, 1260, 1261, 1262, 1263, 1264, 1274, 1275, 1276, 1277, 1278, 1279, 1280] (by decide +kernel) (by decide +kernel)
set_option maxRecDepth 20000 in
theorem gL_law_X12_recipes : GoodIn wsL_law (wsV RL 222 RX12 yX12_recipes wsX12_recipes) := goodIn_app (goodIn_of _ (by decide +kernel)) ggL_law_X12_recipes
set_option maxRecDepth 20000 in
theorem pgL_law_X12_minutesOfRecipe_0 : GoodIn wsL_law (Cond.code yX12_minutesOfRecipe cX12_minutesOfRecipe 2 (some .int) :: wsX12_minutesOfRecipe_r1) := goodIn_r _ [1148, 37, 32, 38, 884, 885, 886, 2, 887, 888, 889, 890, 821, 822, 1149, 1150, 1151, 31, 1152, 87, 745, 88, 89, 746, 747] (by decide +kernel) (by decide +kernel)
set_option maxRecDepth 20000 in
theorem pgL_law_X12_minutesOfRecipe_1 : GoodIn wsL_law wsX12_minutesOfRecipe_r2 := goodIn_r _ [748, 749, 750, 83, 84, 85, 751, 752, 753, 82, 754, 755, 756, 757, 758, 759, 79, 1153, 1154, 1155, 91, 1156, 833, 764] (by decide +kernel) (by decide +kernel)
set_option maxRecDepth 20000 in
theorem pgL_law_X12_minutesOfRecipe_2 : GoodIn wsL_law wsX12_minutesOfRecipe_r3 := goodIn_r _ [765, 99, 766, 891, 892, 893, 35, 894, 895, 104, 105, 896, 897, 898, 54, 899, 73, 900, 901, 902, 903, 904, 905, 906] (by decide +kernel) (by decide +kernel)
set_option maxRecDepth 20000 in
theorem pgL_law_X12_minutesOfRecipe_3 : GoodIn wsL_law wsX12_minutesOfRecipe_r4 := goodIn_r _ [907, 908, 909, 668, 669, 670, 671, 672, 673, 910, 911, 912, 913, 914, 915, 916, 917, 918, 919, 920, 921, 922, 923, 838] (by decide +kernel) (by decide +kernel)
