set_option maxRecDepth 20000 in
theorem pgL_law_X12_mostServings_15 : GoodIn wsL_law wsX10 := goodIn_r _ [1304, 1305, 1306, 1307, 1308, 1309, 1310, 1311, 1312] (by decide +kernel) (by decide +kernel)
set_option maxRecDepth 20000 in
theorem pgL_law_X12_mostServings_16 : GoodIn wsL_law wsX110 := goodIn_r _ [1313, 1314, 1315, 1316, 1317] (by decide +kernel) (by decide +kernel)
set_option maxRecDepth 20000 in
theorem ggL_law_X12_mostServings : GoodIn wsL_law wsX12_mostServings := goodIn_ca (goodIn_ca (goodIn_ca (goodIn_ca (goodIn_ca (goodIn_ca (goodIn_ca (goodIn_ca (goodIn_ca (goodIn_ca pgL_law_X12_mostServings_0 (goodIn_app pgL_law_X12_mostServings_1 (goodIn_app pgL_law_X12_mostServings_2 (goodIn_app pgL_law_X12_mostServings_3 (goodIn_app pgL_law_X12_mostServings_4 (goodIn_app pgL_law_X12_mostServings_5 (goodIn_app pgL_law_X12_mostServings_6 (goodIn_app pgL_law_X12_mostServings_7 (pgL_law_X12_mostServings_8))))))))) pgL_law_X12_mostServings_9) pgL_law_X12_mostServings_10) pgL_law_X12_mostServings_11) pgL_law_X12_mostServings_12) pgL_law_X12_mostServings_13) pgL_law_X12_mostServings_14) pgL_law_X12_mostServings_15) pgL_law_X12_mostServings_16) (goodIn_sub (fun _ h => List.mem_append_right _ h) (by decide +kernel))
set_option maxRecDepth 20000 in
theorem gL_law_X12_mostServings : GoodIn wsL_law (wsV RL 236 RX12 yX12_mostServings wsX12_mostServings) := goodIn_app (goodIn_of _ (by decide +kernel)) ggL_law_X12_mostServings
set_option maxRecDepth 20000 in
theorem pgL_law_X12_doneBehind_0 : GoodIn wsL_law (Cond.code yX12_doneBehind cX12_doneBehind 4 (some .int) :: wsX12_doneBehind_r1) := goodIn_r _ [1176, 32, 37, 38, 884, 885, 886, 2, 887, 888, 889, 890, 821, 822, 1149, 1150, 1151, 31, 1152, 87, 745, 88, 89, 746, 747] (by decide +kernel) (by decide +kernel)
set_option maxRecDepth 20000 in
theorem pgL_law_X12_doneBehind_1 : GoodIn wsL_law wsX12_doneBehind_r2 := goodIn_r _ [748, 749, 750, 83, 84, 85, 751, 752, 753, 82, 754, 755, 756, 757, 758, 759, 79, 1153, 1154, 1155, 91, 1156, 833, 764] (by decide +kernel) (by decide +kernel)
set_option maxRecDepth 20000 in
theorem pgL_law_X12_doneBehind_2 : GoodIn wsL_law wsX12_doneBehind_r3 := goodIn_r _ [765, 99, 766, 891, 892, 893, 35, 894, 895, 104, 105, 896, 897, 898, 54, 899, 73, 900, 901, 902, 903, 904, 905, 906] (by decide +kernel) (by decide +kernel)
set_option maxRecDepth 20000 in
theorem pgL_law_X12_doneBehind_3 : GoodIn wsL_law wsX12_doneBehind_r4 := goodIn_r _ [907, 908, 909, 668, 669, 670, 671, 672, 673, 910, 911, 912, 913, 914, 915, 916, 917, 918, 919, 920, 921, 922, 923, 838] (by decide +kernel) (by decide +kernel)
set_option maxRecDepth 20000 in
theorem pgL_law_X12_doneBehind_4 : GoodIn wsL_law wsX12_doneBehind_r5 := goodIn_r _ [839, 924, 799, 800, 801, 802, 803, 804, 925, 926, 927, 928, 929, 830, 831, 832, 930, 931, 932, 933, 934, 935, 936, 937] (by decide +kernel) (by decide +kernel)
set_option maxRecDepth 20000 in
theorem pgL_law_X12_doneBehind_5 : GoodIn wsL_law wsX12_doneBehind_r6 := goodIn_r _ [938, 939, 940, 10, 11, 12, 941, 196, 197, 942, 825, 826, 827, 828, 829, 834, 835, 836, 837, 943, 944, 945, 946, 947] (by decide +kernel) (by decide +kernel)
set_option maxRecDepth 20000 in
theorem pgL_law_X12_doneBehind_6 : GoodIn wsL_law wsX12_doneBehind_r7 := goodIn_r _ [948, 949, 950, 951, 952, 953, 954, 95, 955, 956, 957, 958, 959, 868, 869, 870, 871, 872, 873, 874, 875, 960, 961, 962] (by decide +kernel) (by decide +kernel)
set_option maxRecDepth 20000 in
theorem pgL_law_X12_doneBehind_7 : GoodIn wsL_law wsX12_doneBehind_r8 := goodIn_r _ [963, 964, 965, 966, 967, 968, 969, 970, 971, 972, 973, 974, 975, 976, 977, 978, 979, 980, 981, 761, 762, 763, 982, 983] (by decide +kernel) (by decide +kernel)
