set_option maxRecDepth 20000 in
theorem pgL_law_X12_minutesOfRecipe_4 : GoodIn wsL_law wsX12_minutesOfRecipe_r5 := goodIn_r _ [839, 924, 799, 800, 801, 802, 803, 804, 925, 926, 927, 928, 929, 830, 831, 832, 930, 931, 932, 933, 934, 935, 936, 937] (by decide +kernel) (by decide +kernel)
set_option maxRecDepth 20000 in
theorem pgL_law_X12_minutesOfRecipe_5 : GoodIn wsL_law wsX12_minutesOfRecipe_r6 := goodIn_r _ [938, 939, 940, 10, 11, 12, 941, 196, 197, 942, 825, 826, 827, 828, 829, 834, 835, 836, 837, 943, 944, 945, 946, 947] (by decide +kernel) (by decide +kernel)
set_option maxRecDepth 20000 in
theorem pgL_law_X12_minutesOfRecipe_6 : GoodIn wsL_law wsX12_minutesOfRecipe_r7 := goodIn_r _ [948, 949, 950, 951, 952, 953, 954, 95, 955, 956, 957, 958, 959, 868, 869, 870, 871, 872, 873, 874, 875, 960, 961, 962] (by decide +kernel) (by decide +kernel)
set_option maxRecDepth 20000 in
theorem pgL_law_X12_minutesOfRecipe_7 : GoodIn wsL_law wsX12_minutesOfRecipe_r8 := goodIn_r _ [963, 964, 965, 966, 967, 968, 969, 970, 971, 972, 973, 974, 975, 976, 977, 978, 979, 980, 981, 761, 762, 763, 982, 983] (by decide +kernel) (by decide +kernel)
set_option maxRecDepth 20000 in
theorem pgL_law_X12_minutesOfRecipe_8 : GoodIn wsL_law wsX120 := goodIn_r _ [1226, 1227, 1228, 1229, 1230, 1231, 1232] (by decide +kernel) (by decide +kernel)
set_option maxRecDepth 20000 in
theorem pgL_law_X12_minutesOfRecipe_9 : GoodIn wsL_law wsX60 := goodIn_r _ [1256, 1257, 1258, 1259, 1260, 1261, 1262, 1263, 1264] (by decide +kernel) (by decide +kernel)
set_option maxRecDepth 20000 in
theorem pgL_law_X12_minutesOfRecipe_10 : GoodIn wsL_law wsX20 := goodIn_r _ [1274, 1275, 1276, 1277, 1278, 1279, 1280] (by decide +kernel) (by decide +kernel)
set_option maxRecDepth 20000 in
theorem pgL_law_X12_minutesOfRecipe_11 : GoodIn wsL_law wsX40 := goodIn_r _ [1281, 1282] (by decide +kernel) (by decide +kernel)
set_option maxRecDepth 20000 in
theorem pgL_law_X12_minutesOfRecipe_12 : GoodIn wsL_law wsX70 := goodIn_r _ [1283, 1284, 1285, 1286, 1287] (by decide +kernel) (by decide +kernel)
set_option maxRecDepth 20000 in
theorem pgL_law_X12_minutesOfRecipe_13 : GoodIn wsL_law wsX30 := goodIn_r _ [1265, 1266, 1267] (by decide +kernel) (by decide +kernel)
set_option maxRecDepth 20000 in
theorem pgL_law_X12_minutesOfRecipe_14 : GoodIn wsL_law wsX10 := goodIn_r _ [1304, 1305, 1306, 1307, 1308, 1309, 1310, 1311, 1312] (by decide +kernel) (by decide +kernel)
set_option maxRecDepth 20000 in
theorem pgL_law_X12_minutesOfRecipe_15 : GoodIn wsL_law wsX110 := goodIn_r _ [1313, 1314, 1315, 1316, 1317] (by decide +kernel) (by decide +kernel)
