set_option maxRecDepth 20000 in
theorem ggL_law_X12_firstWarning : GoodIn wsL_law wsX12_firstWarning := goodIn_ca (goodIn_ca (goodIn_ca (goodIn_ca (goodIn_ca (goodIn_ca (goodIn_ca (goodIn_ca (goodIn_ca (goodIn_ca pgL_law_X12_firstWarning_0 (goodIn_app pgL_law_X12_firstWarning_1 (goodIn_app pgL_law_X12_firstWarning_2 (goodIn_app pgL_law_X12_firstWarning_3 (goodIn_app pgL_law_X12_firstWarning_4 (goodIn_app pgL_law_X12_firstWarning_5 (goodIn_app pgL_law_X12_firstWarning_6 (pgL_law_X12_firstWarning_7)))))))) pgL_law_X12_firstWarning_8) pgL_law_X12_firstWarning_9) pgL_law_X12_firstWarning_10) pgL_law_X12_firstWarning_11) pgL_law_X12_firstWarning_12) pgL_law_X12_firstWarning_13) pgL_law_X12_firstWarning_14) pgL_law_X12_firstWarning_15) (goodIn_sub (fun _ h => List.mem_append_right _ h) (by decide +kernel))
set_option maxRecDepth 20000 in
theorem gL_law_X12_firstWarning : GoodIn wsL_law (wsV RL 230 RX12 yX12_firstWarning wsX12_firstWarning) := goodIn_app (goodIn_of _ (by decide +kernel)) ggL_law_X12_firstWarning
set_option maxRecDepth 20000 in
theorem pgL_law_X12_highestSafe_0 : GoodIn wsL_law (Cond.code yX12_highestSafe cX12_highestSafe 3 (some .int) :: wsX12_highestSafe_r1) := goodIn_r _ [1168, 37, 32, 38, 884, 885, 886, 2, 887, 888, 889, 890, 821, 822, 1149, 1150, 1151, 31, 1152, 87, 745, 88, 89, 746, 747] (by decide +kernel) (by decide +kernel)
set_option maxRecDepth 20000 in
theorem pgL_law_X12_highestSafe_1 : GoodIn wsL_law wsX12_highestSafe_r2 := goodIn_r _ [748, 749, 750, 83, 84, 85, 751, 752, 753, 82, 754, 755, 756, 757, 758, 759, 79, 1153, 1154, 1155, 91, 1156, 833, 764] (by decide +kernel) (by decide +kernel)
set_option maxRecDepth 20000 in
theorem pgL_law_X12_highestSafe_2 : GoodIn wsL_law wsX12_highestSafe_r3 := goodIn_r _ [765, 99, 766, 793, 794, 795, 796, 797, 10, 11, 12, 798, 799, 800, 801, 802, 803, 804, 891, 892, 893, 35, 894, 895] (by decide +kernel) (by decide +kernel)
set_option maxRecDepth 20000 in
theorem pgL_law_X12_highestSafe_3 : GoodIn wsL_law wsX12_highestSafe_r4 := goodIn_r _ [104, 105, 896, 897, 898, 54, 899, 73, 900, 901, 902, 903, 904, 905, 906, 907, 908, 909, 668, 669, 670, 671, 672, 673] (by decide +kernel) (by decide +kernel)
set_option maxRecDepth 20000 in
theorem pgL_law_X12_highestSafe_4 : GoodIn wsL_law wsX12_highestSafe_r5 := goodIn_r _ [910, 911, 912, 913, 914, 915, 916, 917, 918, 919, 920, 921, 922, 923, 838, 839, 924, 925, 926, 927, 928, 929, 830, 831] (by decide +kernel) (by decide +kernel)
set_option maxRecDepth 20000 in
theorem pgL_law_X12_highestSafe_5 : GoodIn wsL_law wsX12_highestSafe_r6 := goodIn_r _ [832, 930, 931, 932, 933, 934, 935, 936, 937, 938, 939, 940, 941, 196, 197, 942, 825, 826, 827, 828, 829, 834, 835, 836] (by decide +kernel) (by decide +kernel)
set_option maxRecDepth 20000 in
theorem pgL_law_X12_highestSafe_6 : GoodIn wsL_law wsX12_highestSafe_r7 := goodIn_r _ [837, 943, 944, 945, 946, 947, 948, 949, 950, 951, 952, 953, 954, 95, 955, 956, 957, 958, 959, 868, 869, 870, 871, 872] (by decide +kernel) (by decide +kernel)
set_option maxRecDepth 20000 in
theorem pgL_law_X12_highestSafe_7 : GoodIn wsL_law wsX12_highestSafe_r8 := goodIn_r _ [873, 874, 875, 960, 961, 962, 963, 964, 965, 966, 967, 968, 969, 970, 971, 972, 973, 974, 975, 976, 977, 978, 979, 980] (by decide +kernel) (by decide +kernel)
set_option maxRecDepth 20000 in
theorem pgL_law_X12_highestSafe_8 : GoodIn wsL_law wsX12_highestSafe_r9 := goodIn_r _ [981, 761, 762, 763, 982, 983] (by decide +kernel) (by decide +kernel)
set_option maxRecDepth 20000 in
theorem pgL_law_X12_highestSafe_9 : GoodIn wsL_law wsX120 := goodIn_r _ [1226, 1227, 1228, 1229, 1230, 1231, 1232] (by decide +kernel) (by decide +kernel)
