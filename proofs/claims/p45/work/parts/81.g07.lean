set_option maxRecDepth 20000 in
theorem gL_law_X12_pans : GoodIn wsL_law (wsV RL 160 RX12 yX12_pans wsX12_pans) := goodIn_app (goodIn_of _ (by decide +kernel)) ggL_law_X12_pans
set_option maxRecDepth 20000 in
theorem pgL_law_L_act_0 : GoodIn wsL_law (Cond.code yL_act cL_act 10 (some .boolean) :: wsL_act_r1) := goodIn_r _ [777, 142, 778, 14, 779, 13, 144, 157, 158, 159, 5, 160, 115, 161, 162, 108, 163, 164, 780, 781, 782, 140, 783, 784, 151] (by decide +kernel) (by decide +kernel)
set_option maxRecDepth 20000 in
theorem pgL_law_L_act_1 : GoodIn wsL_law wsL_act_r2 := goodIn_r _ [785, 786, 787, 788, 789, 790, 791, 2, 792, 32, 509, 510, 511, 512, 513, 793, 794, 795, 31, 796, 745, 87, 797, 10] (by decide +kernel) (by decide +kernel)
set_option maxRecDepth 20000 in
theorem pgL_law_L_act_2 : GoodIn wsL_law wsL_act_r3 := goodIn_r _ [11, 12, 756, 757, 758, 759, 79, 798, 799, 800, 801, 802, 803, 804, 805, 806, 807, 808, 809, 810, 811, 812, 813, 814] (by decide +kernel) (by decide +kernel)
set_option maxRecDepth 20000 in
theorem pgL_law_L_act_3 : GoodIn wsL_law wsL_act_r4 := goodIn_r _ [815, 816, 817, 818, 819, 820, 821, 822, 823, 824, 825, 826, 91, 827, 828, 99, 766, 765, 764, 829, 830, 831, 832, 833] (by decide +kernel) (by decide +kernel)
set_option maxRecDepth 20000 in
theorem pgL_law_L_act_4 : GoodIn wsL_law wsL_act_r5 := goodIn_r _ [834, 835, 836, 837, 838, 839, 840, 841, 842, 843, 844, 845, 846, 847, 848, 849, 850, 851, 852, 853, 854, 855, 856, 857] (by decide +kernel) (by decide +kernel)
set_option maxRecDepth 20000 in
theorem pgL_law_L_act_5 : GoodIn wsL_law wsL_act_r6 := goodIn_r _ [761, 762, 763, 858, 859, 860, 861, 862, 863, 864, 865, 866, 867, 868, 869, 870, 746, 871, 872, 873, 874, 875, 196, 197] (by decide +kernel) (by decide +kernel)
set_option maxRecDepth 20000 in
theorem pgL_law_L_act_6 : GoodIn wsL_law wsL_act_r7 := goodIn_r _ [876, 877, 878, 879, 880, 881, 882, 883, 36, 884, 885, 886, 887, 888, 889, 890, 891, 892, 893, 35, 894, 895, 104, 105] (by decide +kernel) (by decide +kernel)
set_option maxRecDepth 20000 in
theorem pgL_law_L_act_7 : GoodIn wsL_law wsL_act_r8 := goodIn_r _ [896, 897, 898, 54, 899, 73, 900, 901, 902, 903, 904, 905, 906, 907, 908, 909, 668, 669, 670, 671, 672, 673, 910, 911] (by decide +kernel) (by decide +kernel)
set_option maxRecDepth 20000 in
theorem pgL_law_L_act_8 : GoodIn wsL_law wsL_act_r9 := goodIn_r _ [912, 913, 914, 915, 916, 917, 918, 919, 920, 921, 922, 923, 924, 925, 926, 927, 928, 929, 930, 931, 932, 933, 934, 935] (by decide +kernel) (by decide +kernel)
set_option maxRecDepth 20000 in
theorem pgL_law_L_act_9 : GoodIn wsL_law wsL_act_r10 := goodIn_r _ [936, 937, 88, 89, 938, 939, 940, 941, 942, 943, 944, 945, 946, 947, 948, 949, 950, 83, 85, 951, 952, 953, 82, 954] (by decide +kernel) (by decide +kernel)
set_option maxRecDepth 20000 in
theorem pgL_law_L_act_10 : GoodIn wsL_law wsL_act_r11 := goodIn_r _ [755, 95, 955, 956, 957, 958, 959, 960, 961, 962, 963, 964, 965, 966, 967, 968, 969, 970, 971, 972, 973, 974, 975, 976] (by decide +kernel) (by decide +kernel)
