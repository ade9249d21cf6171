set_option maxRecDepth 20000 in
theorem gL_law_X12_minute : GoodIn wsL_law (wsV RL 242 RX12 yX12_minute wsX12_minute) := goodIn_app (goodIn_of _ (by decide +kernel)) ggL_law_X12_minute
set_option maxRecDepth 20000 in
theorem ggL_law_X12_servings : GoodIn wsL_law wsX12_servings := goodIn_r _ [1184, 32, 1226, 1227, 1228, 1229, 1230, 1231, 1232, 1256, 1257, 1258, 1259, 1260, 1261, 1262, 1263, 1264] (by decide +kernel) (by decide +kernel)
set_option maxRecDepth 20000 in
theorem gL_law_X12_servings : GoodIn wsL_law (wsV RL 245 RX12 yX12_servings wsX12_servings) := goodIn_app (goodIn_of _ (by decide +kernel)) ggL_law_X12_servings
set_option maxRecDepth 20000 in
theorem ggL_law_X12_setAltitude : GoodIn wsL_law wsX12_setAltitude := goodIn_ca (goodIn_r _ [792, 32, 509, 510, 2, 511, 512, 513, 793, 794, 795, 31, 796, 745, 87, 797, 10, 11, 12, 756, 757, 758, 759, 79, 798, 799, 800, 801, 802, 803, 804, 1226, 1227, 1228, 1229, 1230, 1231, 1232, 1256, 1257, 1258, 1259, 1260, 1261, 1262, 1263, 1264, 1274, 1275, 1276, 1277, 1278, 1279, 1280, 1283, 1284, 1285, 1286, 1287] (by decide +kernel) (by decide +kernel)) (goodIn_sub (fun _ h => List.mem_append_left _ (List.mem_append_right _ h)) (by decide +kernel))
set_option maxRecDepth 20000 in
theorem gL_law_X12_setAltitude : GoodIn wsL_law (wsV RL 105 RX12 yX12_setAltitude wsX12_setAltitude) := goodIn_app (goodIn_of _ (by decide +kernel)) ggL_law_X12_setAltitude
set_option maxRecDepth 20000 in
theorem pgL_law_X12_cook_0 : GoodIn wsL_law (Cond.code yX12_cook cX12_cook 2 (some .int) :: wsX12_cook_r1) := goodIn_r _ [883, 36, 884, 885, 886, 2, 887, 32, 888, 889, 890, 821, 822, 891, 892, 893, 35, 894, 895, 104, 105, 896, 897, 898, 54] (by decide +kernel) (by decide +kernel)
set_option maxRecDepth 20000 in
theorem pgL_law_X12_cook_1 : GoodIn wsL_law wsX12_cook_r2 := goodIn_r _ [899, 73, 900, 901, 902, 903, 904, 905, 906, 907, 908, 909, 668, 669, 670, 671, 672, 673, 910, 911, 912, 913, 914, 915] (by decide +kernel) (by decide +kernel)
set_option maxRecDepth 20000 in
theorem pgL_law_X12_cook_2 : GoodIn wsL_law wsX12_cook_r3 := goodIn_r _ [916, 917, 918, 919, 920, 921, 922, 923, 838, 839, 924, 799, 800, 31, 801, 745, 802, 803, 804, 925, 757, 758, 759, 87] (by decide +kernel) (by decide +kernel)
set_option maxRecDepth 20000 in
theorem pgL_law_X12_cook_3 : GoodIn wsL_law wsX12_cook_r4 := goodIn_r _ [79, 926, 927, 928, 929, 830, 831, 91, 832, 833, 764, 765, 930, 931, 932, 933, 934, 935, 936, 937, 88, 89, 938, 939] (by decide +kernel) (by decide +kernel)
set_option maxRecDepth 20000 in
theorem pgL_law_X12_cook_4 : GoodIn wsL_law wsX12_cook_r5 := goodIn_r _ [940, 10, 11, 12, 941, 196, 197, 942, 825, 826, 827, 828, 99, 766, 829, 834, 835, 836, 837, 943, 944, 945, 946, 947] (by decide +kernel) (by decide +kernel)
set_option maxRecDepth 20000 in
theorem pgL_law_X12_cook_5 : GoodIn wsL_law wsX12_cook_r6 := goodIn_r _ [948, 949, 950, 83, 85, 951, 952, 953, 82, 954, 755, 95, 955, 956, 957, 958, 959, 868, 869, 870, 746, 756, 871, 872] (by decide +kernel) (by decide +kernel)
set_option maxRecDepth 20000 in
theorem pgL_law_X12_cook_6 : GoodIn wsL_law wsX12_cook_r7 := goodIn_r _ [873, 874, 875, 960, 961, 962, 963, 964, 965, 966, 967, 968, 969, 970, 971, 972, 973, 974, 975, 976, 977, 978, 979, 980] (by decide +kernel) (by decide +kernel)
