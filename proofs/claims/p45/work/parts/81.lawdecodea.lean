set_option maxRecDepth 20000 in
theorem ggL_law_X12_init : GoodIn wsL_law wsX12_init := goodIn_r _ [17, 18, 19, 20, 21, 22, 23, 24, 25, 26, 27, 28, 29, 30, 31, 32, 33, 34, 35, 36, 37, 38, 39, 40, 41, 42, 43, 44, 45, 46, 47, 48, 49, 50, 51, 52, 53, 54, 55, 56, 57, 58, 59, 60, 13, 61, 62, 63, 64, 65, 66, 67, 68, 69, 70, 71, 72, 73, 74, 75, 76, 77, 78, 79, 80, 81, 82, 83, 84, 85, 86, 87, 88, 89, 90, 91, 92, 93, 94, 95, 96, 97, 98, 99, 100, 101, 102, 103, 104, 105, 1250, 1251, 1226, 1227, 1228, 1229, 1230, 1231, 1232, 1252, 1253, 1254, 1255, 1256, 1257, 1258, 1259, 1260, 1261, 1262, 1263, 1264, 1265, 1266, 1267, 1268, 1269, 1270, 1271, 1272, 1273, 1274, 1275, 1276, 1277, 1278, 1279, 1280, 1281, 1282, 1283, 1284, 1285, 1286, 1287] (by decide +kernel) (by decide +kernel)
set_option maxRecDepth 20000 in
theorem gL_law_X12_init : GoodIn wsL_law (wsX12_init) := ggL_law_X12_init
set_option maxRecDepth 20000 in
theorem ggL_law_L_cell : GoodIn wsL_law wsL_cell := goodIn_r _ [109, 110] (by decide +kernel) (by decide +kernel)
set_option maxRecDepth 20000 in
theorem gL_law_L_cell : GoodIn wsL_law (va_wsS RL 146 yL_cell wsL_cell) := goodIn_app (goodIn_of _ (by decide +kernel)) ggL_law_L_cell
set_option maxRecDepth 20000 in
theorem ggL_law_X14_init : GoodIn wsL_law wsX14_init := goodIn_r _ [113, 114, 19, 20, 115, 1233] (by decide +kernel) (by decide +kernel)
set_option maxRecDepth 20000 in
theorem gL_law_X14_init : GoodIn wsL_law (wsX14_init) := ggL_law_X14_init
set_option maxRecDepth 20000 in
theorem ggL_law_J4_init_da8c8 : GoodIn wsL_law wsJ4_init_da8c8 := goodIn_r _ [118, 119, 120, 121, 122, 123, 19, 20, 124, 43, 125, 126, 127, 128, 129, 130, 131, 132, 133, 134, 1234, 1235, 1236, 1237] (by decide +kernel) (by decide +kernel)
set_option maxRecDepth 20000 in
theorem gL_law_J4_init_da8c8 : GoodIn wsL_law (wsJ4_init_da8c8) := ggL_law_J4_init_da8c8
set_option maxRecDepth 20000 in
theorem ggL_law_L_drawn : GoodIn wsL_law wsL_drawn := goodIn_r _ [137, 138, 139, 140, 141, 142, 13, 143, 144, 145, 146, 147, 19, 20, 148, 149, 150, 151, 152, 153, 154, 155, 156, 157, 158, 159, 5, 160, 115, 161, 162, 108, 163, 164, 165, 166, 167, 8, 168, 169, 170, 171, 172, 121, 173, 174, 175, 176, 177, 178, 179, 125, 180, 181, 182, 183, 184, 126, 185, 186, 187, 188, 189, 190, 191, 192, 193, 194, 195, 196, 11, 197, 198, 199, 200, 201, 202, 203, 204, 205, 206, 207, 208, 209, 210, 211, 43, 212, 10, 12, 213, 214, 215, 216, 217, 218, 219, 220, 221, 124, 222, 223, 129, 224, 225, 226, 227, 228, 229, 230, 231, 232, 233, 234, 235, 236, 237, 238, 239, 240, 241, 242, 243, 244, 245, 246, 247, 248, 249, 250, 251, 252, 253, 254, 255, 256, 257, 258, 259, 260, 261, 262, 263, 264, 265, 266, 267, 268, 269, 270, 271, 272, 127, 128, 130, 131, 132, 133, 134, 273, 274, 275, 276, 277, 278, 279, 280, 281, 282, 283, 284, 285, 286, 287, 288, 289, 290, 291, 292, 293, 294, 295, 296, 297, 6, 7, 116, 117, 118, 119, 120, 122, 123, 298, 299, 300, 301, 302, 303, 304, 305, 306, 307, 308, 309, 310, 311, 312, 313, 314, 315, 316, 317, 318, 319, 320, 321, 322, 323, 324, 325, 326, 327, 328, 329, 330, 331, 332, 333, 334, 335, 336, 337, 338, 339, 340, 341, 342, 343, 344, 345, 346, 347, 348, 349, 350, 351, 352, 353, 354, 355, 356, 357, 358, 359, 360, 361, 362, 363, 364, 365, 366, 367, 368, 369, 370, 371, 372, 373, 374, 375, 376, 377, 378, 379, 380, 381, 382, 383, 384, 385, 386, 387, 388, 389, 390, 391, 392, 393, 394, 395, 396, 397, 398, 399, 400, 401, 402, 403, 404, 405, 406, 407, 408, 409, 410, 411, 412, 413, 414, 415, 416, 417, 418, 419, 420, 421, 422, 423, 424, 425, 426, 427, 428, 429, 430, 431, 432, 433, 434, 435, 436, 437, 438, 439, 440, 441, 442, 443, 444, 445, 446, 447, 448, 449, 450, 451, 452, 453, 454, 455, 456, 457, 458, 459, 460, 461, 462, 463, 464, 465, 466, 467, 468, 469, 470, 471, 472, 473, 474, 1238, 1239, 1240, 1241, 1242, 1243, 1244, 1245, 1246, 1247, 1248, 1249, 1233, 1234, 1235, 1236, 1237, 1288, 1289, 1290, 1291, 1292, 1293, 1294, 1295, 1296, 1297, 1298, 1299, 1300, 1301, 1302, 1303] (by decide +kernel) (by decide +kernel)
set_option maxRecDepth 20000 in
theorem gL_law_L_drawn : GoodIn wsL_law (va_wsS RL 152 yL_drawn wsL_drawn) := goodIn_app (goodIn_of _ (by decide +kernel)) ggL_law_L_drawn
set_option maxRecDepth 20000 in
theorem ggL_law_J4_toString_0e30d : GoodIn wsL_law wsJ4_toString_0e30d := goodIn_r _ [324, 325, 326, 234, 327, 328, 329, 330, 331, 332, 333, 19, 20, 256, 250, 255, 334, 335, 336, 337, 338, 121, 339, 125, 340, 341, 342, 343, 344, 8, 345, 346, 171, 347, 348, 174, 349, 218, 219, 220, 221, 124, 126, 350, 351, 204, 352, 206, 207, 208, 209, 210, 211, 353, 354, 355, 43, 212, 10, 11, 12, 213, 214, 215, 216, 356, 357, 358, 359, 360, 129, 361, 362, 363, 364, 280, 281, 282, 229, 230, 231, 283, 284, 285, 236, 286, 287, 239, 288, 365, 366, 367, 225, 244, 245, 131, 132, 133, 134, 368, 369, 370, 371, 1288, 1289, 1290, 1291, 1234, 1235, 1236, 1237] (by decide +kernel) (by decide +kernel)
set_option maxRecDepth 20000 in
theorem gL_law_J4_toString_0e30d : GoodIn wsL_law (wsV RL 44 RJ4 yJ4_toString_0e30d wsJ4_toString_0e30d) := goodIn_app (goodIn_of _ (by decide +kernel)) ggL_law_J4_toString_0e30d
set_option maxRecDepth 20000 in
theorem ggL_law_L_taught : GoodIn wsL_law wsL_taught := goodIn_ca (goodIn_ca (goodIn_r _ [477, 13, 478, 247, 248, 234, 249, 250, 251, 252, 253, 254, 255, 256, 479, 480, 481, 482, 483, 484, 485, 486, 487, 488, 275, 489, 490, 316, 317, 236, 318, 319, 239, 320, 491, 492, 129, 493, 312, 313, 314, 229, 230, 231, 315, 365, 366, 367, 225, 244, 245, 494, 495, 496, 2, 497, 498, 499, 24, 500, 501, 502, 23, 503, 504, 44, 505, 506, 507, 508, 509, 510, 511, 512, 513, 514, 515, 516, 517, 28, 39, 32, 518, 519, 520, 27, 521, 52, 53, 54, 55, 522, 51, 523, 524, 525, 526, 66, 67, 68, 19, 20, 62, 69, 70, 71, 72, 73, 527, 528, 529, 50, 530, 531, 64, 532, 533, 534, 535, 536, 537, 538, 539, 540, 541, 542, 543, 544, 545, 546, 547, 548, 549, 550, 551, 552, 553, 554, 555, 556, 557, 558, 559, 560, 561, 562, 563, 564, 565, 566, 567, 568, 569, 570, 571, 572, 573, 574, 575, 576, 577, 578, 579, 580, 60, 61, 63, 581, 582, 583, 584, 65, 585, 586, 587, 588, 589, 590, 591, 592, 593, 594, 595, 596, 597, 598, 599, 600, 601, 602, 603, 604, 605, 606, 607, 608, 609, 610, 611, 612, 613, 614, 615, 616, 617, 618, 619, 620, 621, 622, 623, 624, 625, 626, 627, 628, 629, 630, 631, 632, 633, 634, 635, 636, 637, 638, 639, 640, 641, 642, 643, 644, 645, 646, 647, 648, 649, 650, 651, 652, 653, 654, 655, 656, 657, 658, 659, 660, 661, 662, 663, 664, 665, 666, 667, 668, 669, 670, 671, 672, 673, 674, 675, 676, 677, 678, 679, 680, 681, 682, 683, 684, 685, 686, 687, 688, 689, 690, 691, 692, 693, 694, 695, 696, 697, 698, 699, 700, 701, 702, 703, 704, 705, 706, 707, 708, 709, 710, 711, 712, 713, 714, 715, 716, 717, 718, 719, 720, 721, 722, 723, 724, 725, 726, 727, 728, 729, 730, 731, 732, 733, 734, 735, 736, 737, 738, 739, 740, 741, 742, 743, 31, 744, 87, 745, 88, 89, 746, 747, 748, 749, 750, 83, 84, 85, 751, 752, 753, 82, 754, 755, 756, 757, 758, 759, 79, 760, 761, 762, 91, 763, 764, 765, 99, 766, 767, 768, 769, 770, 1288, 1289, 1290, 1291, 1226, 1227, 1228, 1229, 1230, 1231, 1232, 1250, 1251, 1252, 1253, 1254, 1255, 1274, 1275, 1276, 1277, 1278, 1279, 1280, 1268, 1269, 1270, 1271, 1272, 1273, 1304, 1305, 1306, 1307, 1308, 1309, 1310, 1311, 1312, 1313, 1314, 1315, 1316, 1317, 1256, 1257, 1258, 1259, 1260, 1261, 1262, 1263, 1264, 1283, 1284, 1285, 1286, 1287, 1281, 1282] (by decide +kernel) (by decide +kernel)) (goodIn_sub (fun _ h => List.mem_append_left _ (List.mem_append_left _ (List.mem_append_right _ h))) (by decide +kernel))) (goodIn_sub (fun _ h => List.mem_append_left _ (List.mem_append_right _ h)) (by decide +kernel))
set_option maxRecDepth 20000 in
theorem gL_law_L_taught : GoodIn wsL_law (va_wsS RL 156 yL_taught wsL_taught) := goodIn_app (goodIn_of _ (by decide +kernel)) ggL_law_L_taught
set_option maxRecDepth 20000 in
theorem ggL_law_X12_pans : GoodIn wsL_law wsX12_pans := goodIn_r _ [774, 32, 1226, 1227, 1228, 1229, 1230, 1231, 1232, 1256, 1257, 1258, 1259, 1260, 1261, 1262, 1263, 1264, 1274, 1275, 1276, 1277, 1278, 1279, 1280] (by decide +kernel) (by decide +kernel)
set_option maxRecDepth 20000 in
theorem gL_law_X12_pans : GoodIn wsL_law (wsV RL 160 RX12 yX12_pans wsX12_pans) := goodIn_app (goodIn_of _ (by decide +kernel)) ggL_law_X12_pans
set_option maxRecDepth 20000 in
theorem ggL_law_L_act : GoodIn wsL_law wsL_act := goodIn_ca (goodIn_ca (goodIn_r _ [777, 142, 778, 14, 779, 13, 144, 157, 158, 159, 5, 160, 115, 161, 162, 108, 163, 164, 780, 781, 782, 140, 783, 784, 151, 785, 786, 787, 788, 789, 790, 791, 2, 792, 32, 509, 510, 511, 512, 513, 793, 794, 795, 31, 796, 745, 87, 797, 10, 11, 12, 756, 757, 758, 759, 79, 798, 799, 800, 801, 802, 803, 804, 805, 806, 807, 808, 809, 810, 811, 812, 813, 814, 815, 816, 817, 818, 819, 820, 821, 822, 823, 824, 825, 826, 91, 827, 828, 99, 766, 765, 764, 829, 830, 831, 832, 833, 834, 835, 836, 837, 838, 839, 840, 841, 842, 843, 844, 845, 846, 847, 848, 849, 850, 851, 852, 853, 854, 855, 856, 857, 761, 762, 763, 858, 859, 860, 861, 862, 863, 864, 865, 866, 867, 868, 869, 870, 746, 871, 872, 873, 874, 875, 196, 197, 876, 877, 878, 879, 880, 881, 882, 883, 36, 884, 885, 886, 887, 888, 889, 890, 891, 892, 893, 35, 894, 895, 104, 105, 896, 897, 898, 54, 899, 73, 900, 901, 902, 903, 904, 905, 906, 907, 908, 909, 668, 669, 670, 671, 672, 673, 910, 911, 912, 913, 914, 915, 916, 917, 918, 919, 920, 921, 922, 923, 924, 925, 926, 927, 928, 929, 930, 931, 932, 933, 934, 935, 936, 937, 88, 89, 938, 939, 940, 941, 942, 943, 944, 945, 946, 947, 948, 949, 950, 83, 85, 951, 952, 953, 82, 954, 755, 95, 955, 956, 957, 958, 959, 960, 961, 962, 963, 964, 965, 966, 967, 968, 969, 970, 971, 972, 973, 974, 975, 976, 977, 978, 979, 980, 981, 982, 983, 984, 985, 986, 987, 988, 989, 153, 990, 991, 992, 993, 994, 995, 996, 997, 998, 999, 1000, 156, 1001, 1002, 1003, 1004, 1005, 1006, 412, 1007, 432, 434, 435, 433, 1008, 1009, 1010, 1011, 1012, 1013, 1014, 1015, 1016, 1017, 1018, 1019, 148, 149, 1020, 1021, 1022, 1023, 1024, 1025, 1026, 1027, 154, 155, 1028, 1029, 1030, 1031, 1032, 1033, 1034, 1035, 1036, 1037, 1038, 1039, 1040, 1041, 399, 1042, 413, 414, 415, 1043, 1238, 1239, 1240, 1241, 1242, 1243, 1244, 1245, 1246, 1247, 1248, 1249, 1233, 1226, 1227, 1228, 1229, 1230, 1231, 1232, 1256, 1257, 1258, 1259, 1260, 1261, 1262, 1263, 1264, 1274, 1275, 1276, 1277, 1278, 1279, 1280, 1283, 1284, 1285, 1286, 1287, 1265, 1266, 1267, 1304, 1305, 1306, 1307, 1308, 1309, 1310, 1311, 1312, 1313, 1314, 1315, 1316, 1317, 1281, 1282, 1292, 1293, 1294, 1295, 1296, 1297, 1298, 1299, 1300, 1301, 1302, 1303] (by decide +kernel) (by decide +kernel)) (goodIn_sub (fun _ h => List.mem_append_left _ (List.mem_append_right _ h)) (by decide +kernel))) (goodIn_sub (fun _ h => List.mem_append_right _ h) (by decide +kernel))
set_option maxRecDepth 20000 in
theorem gL_law_L_act : GoodIn wsL_law (va_wsS RL 162 yL_act wsL_act) := goodIn_app (goodIn_of _ (by decide +kernel)) ggL_law_L_act
set_option maxRecDepth 20000 in
theorem ggL_law_X12_digest : GoodIn wsL_law wsX12_digest := goodIn_r _ [1047, 1048, 32, 1049, 1050, 2, 1051, 1052, 1053, 1054, 1055, 31, 1056, 85, 823, 757, 758, 759, 87, 79, 1057, 1058, 1059, 1060, 1061, 1062, 1063, 1064, 1065, 82, 1066, 755, 1067, 10, 11, 12, 1068, 1069, 1070, 1071, 95, 955, 956, 957, 958, 1226, 1227, 1228, 1229, 1230, 1231, 1232, 1256, 1257, 1258, 1259, 1260, 1261, 1262, 1263, 1264, 1274, 1275, 1276, 1277, 1278, 1279, 1280, 1281, 1282, 1283, 1284, 1285, 1286, 1287] (by decide +kernel) (by decide +kernel)
set_option maxRecDepth 20000 in
theorem gL_law_X12_digest : GoodIn wsL_law (wsV RL 166 RX12 yX12_digest wsX12_digest) := goodIn_app (goodIn_of _ (by decide +kernel)) ggL_law_X12_digest
set_option maxRecDepth 20000 in
theorem ggL_law_X12_warningsOf : GoodIn wsL_law wsX12_warningsOf := goodIn_ca (goodIn_r _ [1075, 32, 509, 510, 2, 511, 512, 513, 1053, 1054, 1055, 31, 1056, 85, 1226, 1227, 1228, 1229, 1230, 1231, 1232, 1256, 1257, 1258, 1259, 1260, 1261, 1262, 1263, 1264] (by decide +kernel) (by decide +kernel)) (goodIn_sub (fun _ h => List.mem_append_left _ (List.mem_append_right _ h)) (by decide +kernel))
set_option maxRecDepth 20000 in
theorem gL_law_X12_warningsOf : GoodIn wsL_law (wsV RL 170 RX12 yX12_warningsOf wsX12_warningsOf) := goodIn_app (goodIn_of _ (by decide +kernel)) ggL_law_X12_warningsOf
set_option maxRecDepth 20000 in
theorem ggL_law_X12_warnings : GoodIn wsL_law wsX12_warnings := goodIn_r _ [1079, 32, 1226, 1227, 1228, 1229, 1230, 1231, 1232, 1256, 1257, 1258, 1259, 1260, 1261, 1262, 1263, 1264, 1281, 1282] (by decide +kernel) (by decide +kernel)
set_option maxRecDepth 20000 in
theorem gL_law_X12_warnings : GoodIn wsL_law (wsV RL 173 RX12 yX12_warnings wsX12_warnings) := goodIn_app (goodIn_of _ (by decide +kernel)) ggL_law_X12_warnings
set_option maxRecDepth 20000 in
theorem ggL_law_X12_boilingPoint : GoodIn wsL_law wsX12_boilingPoint := goodIn_r _ [1083, 32, 1084, 799, 800, 31, 801, 745, 802, 803, 804, 1226, 1227, 1228, 1229, 1230, 1231, 1232, 1256, 1257, 1258, 1259, 1260, 1261, 1262, 1263, 1264] (by decide +kernel) (by decide +kernel)
set_option maxRecDepth 20000 in
theorem gL_law_X12_boilingPoint : GoodIn wsL_law (wsV RL 176 RX12 yX12_boilingPoint wsX12_boilingPoint) := goodIn_app (goodIn_of _ (by decide +kernel)) ggL_law_X12_boilingPoint
set_option maxRecDepth 20000 in
theorem ggL_law_X12_altitude : GoodIn wsL_law wsX12_altitude := goodIn_r _ [1088, 32, 1226, 1227, 1228, 1229, 1230, 1231, 1232, 1256, 1257, 1258, 1259, 1260, 1261, 1262, 1263, 1264] (by decide +kernel) (by decide +kernel)
set_option maxRecDepth 20000 in
theorem gL_law_X12_altitude : GoodIn wsL_law (wsV RL 179 RX12 yX12_altitude wsX12_altitude) := goodIn_app (goodIn_of _ (by decide +kernel)) ggL_law_X12_altitude
set_option maxRecDepth 20000 in
theorem ggL_law_X12_boilingAt : GoodIn wsL_law wsX12_boilingAt := goodIn_ca (goodIn_r _ [1092, 509, 510, 2, 511, 512, 513, 1093, 803, 31, 804] (by decide +kernel) (by decide +kernel)) (goodIn_sub (fun _ h => List.mem_append_left _ (List.mem_append_right _ h)) (by decide +kernel))
set_option maxRecDepth 20000 in
theorem gL_law_X12_boilingAt : GoodIn wsL_law (wsV RL 181 RX12 yX12_boilingAt wsX12_boilingAt) := goodIn_app (goodIn_of _ (by decide +kernel)) ggL_law_X12_boilingAt
set_option maxRecDepth 20000 in
theorem ggL_law_X12_warningAt : GoodIn wsL_law wsX12_warningAt := goodIn_ca (goodIn_r _ [1097, 32, 1063, 1064, 1065, 82, 1066, 755, 1067, 10, 11, 12, 888, 889, 2, 890, 821, 822, 1068, 1069, 1070, 1071, 95, 955, 956, 957, 958, 1226, 1227, 1228, 1229, 1230, 1231, 1232, 1256, 1257, 1258, 1259, 1260, 1261, 1262, 1263, 1264, 1281, 1282] (by decide +kernel) (by decide +kernel)) (goodIn_sub (fun _ h => List.mem_append_right _ h) (by decide +kernel))
set_option maxRecDepth 20000 in
theorem gL_law_X12_warningAt : GoodIn wsL_law (wsV RL 189 RX12 yX12_warningAt wsX12_warningAt) := goodIn_app (goodIn_of _ (by decide +kernel)) ggL_law_X12_warningAt
set_option maxRecDepth 20000 in
theorem ggL_law_X12_heatOf : GoodIn wsL_law wsX12_heatOf := goodIn_ca (goodIn_r _ [1101, 817, 818, 819, 2, 820, 821, 822, 32, 823, 757, 758, 31, 759, 87, 79, 1283, 1284, 1285, 1286, 1287, 1226, 1227, 1228, 1229, 1230, 1231, 1232, 1256, 1257, 1258, 1259, 1260, 1261, 1262, 1263, 1264, 1274, 1275, 1276, 1277, 1278, 1279, 1280] (by decide +kernel) (by decide +kernel)) (goodIn_sub (fun _ h => List.mem_append_right _ h) (by decide +kernel))
set_option maxRecDepth 20000 in
theorem gL_law_X12_heatOf : GoodIn wsL_law (wsV RL 192 RX12 yX12_heatOf wsX12_heatOf) := goodIn_app (goodIn_of _ (by decide +kernel)) ggL_law_X12_heatOf
set_option maxRecDepth 20000 in
theorem ggL_law_X12_waterIn : GoodIn wsL_law wsX12_waterIn := goodIn_ca (goodIn_r _ [1105, 817, 818, 819, 2, 820, 821, 822, 32, 823, 757, 758, 31, 759, 87, 79, 1283, 1284, 1285, 1286, 1287, 1226, 1227, 1228, 1229, 1230, 1231, 1232, 1256, 1257, 1258, 1259, 1260, 1261, 1262, 1263, 1264, 1274, 1275, 1276, 1277, 1278, 1279, 1280] (by decide +kernel) (by decide +kernel)) (goodIn_sub (fun _ h => List.mem_append_right _ h) (by decide +kernel))
set_option maxRecDepth 20000 in
theorem gL_law_X12_waterIn : GoodIn wsL_law (wsV RL 195 RX12 yX12_waterIn wsX12_waterIn) := goodIn_app (goodIn_of _ (by decide +kernel)) ggL_law_X12_waterIn
set_option maxRecDepth 20000 in
theorem ggL_law_X12_mealIn : GoodIn wsL_law wsX12_mealIn := goodIn_ca (goodIn_r _ [1109, 817, 818, 819, 2, 820, 821, 822, 32, 823, 757, 758, 31, 759, 87, 79, 1283, 1284, 1285, 1286, 1287, 1226, 1227, 1228, 1229, 1230, 1231, 1232, 1256, 1257, 1258, 1259, 1260, 1261, 1262, 1263, 1264, 1274, 1275, 1276, 1277, 1278, 1279, 1280] (by decide +kernel) (by decide +kernel)) (goodIn_sub (fun _ h => List.mem_append_right _ h) (by decide +kernel))
set_option maxRecDepth 20000 in
theorem gL_law_X12_mealIn : GoodIn wsL_law (wsV RL 198 RX12 yX12_mealIn wsX12_mealIn) := goodIn_app (goodIn_of _ (by decide +kernel)) ggL_law_X12_mealIn
set_option maxRecDepth 20000 in
theorem ggL_law_X12_roomIn : GoodIn wsL_law wsX12_roomIn := goodIn_ca (goodIn_r _ [1113, 817, 818, 819, 2, 820, 821, 822, 32, 823, 757, 758, 31, 759, 87, 79, 1114, 830, 831, 91, 832, 833, 764, 765, 1226, 1227, 1228, 1229, 1230, 1231, 1232, 1256, 1257, 1258, 1259, 1260, 1261, 1262, 1263, 1264, 1274, 1275, 1276, 1277, 1278, 1279, 1280, 1283, 1284, 1285, 1286, 1287] (by decide +kernel) (by decide +kernel)) (goodIn_sub (fun _ h => List.mem_append_right _ h) (by decide +kernel))
set_option maxRecDepth 20000 in
theorem gL_law_X12_roomIn : GoodIn wsL_law (wsV RL 201 RX12 yX12_roomIn wsX12_roomIn) := goodIn_app (goodIn_of _ (by decide +kernel)) ggL_law_X12_roomIn
set_option maxRecDepth 20000 in
theorem ggL_law_X12_holdsOf : GoodIn wsL_law wsX12_holdsOf := goodIn_ca (goodIn_r _ [1118, 817, 818, 819, 2, 820, 821, 822, 32, 823, 757, 758, 31, 759, 87, 79, 1283, 1284, 1285, 1286, 1287, 1226, 1227, 1228, 1229, 1230, 1231, 1232, 1256, 1257, 1258, 1259, 1260, 1261, 1262, 1263, 1264, 1274, 1275, 1276, 1277, 1278, 1279, 1280] (by decide +kernel) (by decide +kernel)) (goodIn_sub (fun _ h => List.mem_append_right _ h) (by decide +kernel))
set_option maxRecDepth 20000 in
theorem gL_law_X12_holdsOf : GoodIn wsL_law (wsV RL 204 RX12 yX12_holdsOf wsX12_holdsOf) := goodIn_app (goodIn_of _ (by decide +kernel)) ggL_law_X12_holdsOf
set_option maxRecDepth 20000 in
theorem ggL_law_X12_doneIn : GoodIn wsL_law wsX12_doneIn := goodIn_ca (goodIn_r _ [1122, 817, 818, 819, 2, 820, 821, 822, 32, 823, 757, 758, 31, 759, 87, 79, 1283, 1284, 1285, 1286, 1287, 1226, 1227, 1228, 1229, 1230, 1231, 1232, 1256, 1257, 1258, 1259, 1260, 1261, 1262, 1263, 1264, 1274, 1275, 1276, 1277, 1278, 1279, 1280] (by decide +kernel) (by decide +kernel)) (goodIn_sub (fun _ h => List.mem_append_right _ h) (by decide +kernel))
set_option maxRecDepth 20000 in
theorem gL_law_X12_doneIn : GoodIn wsL_law (wsV RL 207 RX12 yX12_doneIn wsX12_doneIn) := goodIn_app (goodIn_of _ (by decide +kernel)) ggL_law_X12_doneIn
set_option maxRecDepth 20000 in
theorem ggL_law_X12_meanHeat : GoodIn wsL_law wsX12_meanHeat := goodIn_r _ [1126, 32, 823, 757, 758, 31, 759, 87, 79, 1226, 1227, 1228, 1229, 1230, 1231, 1232, 1256, 1257, 1258, 1259, 1260, 1261, 1262, 1263, 1264, 1274, 1275, 1276, 1277, 1278, 1279, 1280, 1283, 1284, 1285, 1286, 1287] (by decide +kernel) (by decide +kernel)
set_option maxRecDepth 20000 in
theorem gL_law_X12_meanHeat : GoodIn wsL_law (wsV RL 210 RX12 yX12_meanHeat wsX12_meanHeat) := goodIn_app (goodIn_of _ (by decide +kernel)) ggL_law_X12_meanHeat
set_option maxRecDepth 20000 in
theorem ggL_law_X14_next : GoodIn wsL_law wsX14_next := goodIn_r _ [160, 115, 161, 162, 108, 163, 164, 1233] (by decide +kernel) (by decide +kernel)
set_option maxRecDepth 20000 in
theorem gL_law_X14_next : GoodIn wsL_law (wsV RL 51 RX14 yX14_next wsX14_next) := goodIn_app (goodIn_of _ (by decide +kernel)) ggL_law_X14_next
set_option maxRecDepth 20000 in
theorem ggL_law_X12_amountFor : GoodIn wsL_law wsX12_amountFor := goodIn_ca (goodIn_r _ [1130, 32, 509, 510, 2, 511, 512, 513, 1131, 935, 936, 31, 937, 88, 89, 938, 939, 940, 10, 11, 12, 941, 196, 197, 838, 839, 1226, 1227, 1228, 1229, 1230, 1231, 1232, 1256, 1257, 1258, 1259, 1260, 1261, 1262, 1263, 1264] (by decide +kernel) (by decide +kernel)) (goodIn_sub (fun _ h => List.mem_append_left _ (List.mem_append_right _ h)) (by decide +kernel))
set_option maxRecDepth 20000 in
theorem gL_law_X12_amountFor : GoodIn wsL_law (wsV RL 214 RX12 yX12_amountFor wsX12_amountFor) := goodIn_app (goodIn_of _ (by decide +kernel)) ggL_law_X12_amountFor
set_option maxRecDepth 20000 in
theorem ggL_law_X12_spoon : GoodIn wsL_law wsX12_spoon := goodIn_r _ [1135, 32, 1226, 1227, 1228, 1229, 1230, 1231, 1232, 1256, 1257, 1258, 1259, 1260, 1261, 1262, 1263, 1264] (by decide +kernel) (by decide +kernel)
set_option maxRecDepth 20000 in
theorem gL_law_X12_spoon : GoodIn wsL_law (wsV RL 217 RX12 yX12_spoon wsX12_spoon) := goodIn_app (goodIn_of _ (by decide +kernel)) ggL_law_X12_spoon
set_option maxRecDepth 20000 in
theorem ggL_law_X12_minutesAt : GoodIn wsL_law wsX12_minutesAt := goodIn_ca (goodIn_r _ [1139, 509, 510, 2, 511, 512, 513, 1140, 971, 31, 972, 973, 974, 975, 802, 803, 804] (by decide +kernel) (by decide +kernel)) (goodIn_sub (fun _ h => List.mem_append_left _ (List.mem_append_right _ h)) (by decide +kernel))
set_option maxRecDepth 20000 in
theorem gL_law_X12_minutesAt : GoodIn wsL_law (wsV RL 219 RX12 yX12_minutesAt wsX12_minutesAt) := goodIn_app (goodIn_of _ (by decide +kernel)) ggL_law_X12_minutesAt
set_option maxRecDepth 20000 in
theorem ggL_law_X12_recipes : GoodIn wsL_law wsX12_recipes := goodIn_r _ [1144, 32, 1226, 1227, 1228, 1229, 1230, 1231, 1232, 1256, 1257, 1258, 1259, 1260, 1261, 1262, 1263, 1264, 1274, 1275, 1276, 1277, 1278, 1279, 1280] (by decide +kernel) (by decide +kernel)
set_option maxRecDepth 20000 in
theorem gL_law_X12_recipes : GoodIn wsL_law (wsV RL 222 RX12 yX12_recipes wsX12_recipes) := goodIn_app (goodIn_of _ (by decide +kernel)) ggL_law_X12_recipes
set_option maxRecDepth 20000 in
theorem ggL_law_X12_minutesOfRecipe : GoodIn wsL_law wsX12_minutesOfRecipe := goodIn_ca (goodIn_r _ [1148, 37, 32, 38, 884, 885, 886, 2, 887, 888, 889, 890, 821, 822, 1149, 1150, 1151, 31, 1152, 87, 745, 88, 89, 746, 747, 748, 749, 750, 83, 84, 85, 751, 752, 753, 82, 754, 755, 756, 757, 758, 759, 79, 1153, 1154, 1155, 91, 1156, 833, 764, 765, 99, 766, 891, 892, 893, 35, 894, 895, 104, 105, 896, 897, 898, 54, 899, 73, 900, 901, 902, 903, 904, 905, 906, 907, 908, 909, 668, 669, 670, 671, 672, 673, 910, 911, 912, 913, 914, 915, 916, 917, 918, 919, 920, 921, 922, 923, 838, 839, 924, 799, 800, 801, 802, 803, 804, 925, 926, 927, 928, 929, 830, 831, 832, 930, 931, 932, 933, 934, 935, 936, 937, 938, 939, 940, 10, 11, 12, 941, 196, 197, 942, 825, 826, 827, 828, 829, 834, 835, 836, 837, 943, 944, 945, 946, 947, 948, 949, 950, 951, 952, 953, 954, 95, 955, 956, 957, 958, 959, 868, 869, 870, 871, 872, 873, 874, 875, 960, 961, 962, 963, 964, 965, 966, 967, 968, 969, 970, 971, 972, 973, 974, 975, 976, 977, 978, 979, 980, 981, 761, 762, 763, 982, 983, 1226, 1227, 1228, 1229, 1230, 1231, 1232, 1256, 1257, 1258, 1259, 1260, 1261, 1262, 1263, 1264, 1274, 1275, 1276, 1277, 1278, 1279, 1280, 1281, 1282, 1283, 1284, 1285, 1286, 1287, 1265, 1266, 1267, 1304, 1305, 1306, 1307, 1308, 1309, 1310, 1311, 1312, 1313, 1314, 1315, 1316, 1317] (by decide +kernel) (by decide +kernel)) (goodIn_sub (fun _ h => List.mem_append_right _ h) (by decide +kernel))
set_option maxRecDepth 20000 in
theorem gL_law_X12_minutesOfRecipe : GoodIn wsL_law (wsV RL 224 RX12 yX12_minutesOfRecipe wsX12_minutesOfRecipe) := goodIn_app (goodIn_of _ (by decide +kernel)) ggL_law_X12_minutesOfRecipe
set_option maxRecDepth 20000 in
theorem ggL_law_X12_warningsOfRecipe : GoodIn wsL_law wsX12_warningsOfRecipe := goodIn_ca (goodIn_r _ [1160, 37, 32, 38, 884, 885, 886, 2, 887, 888, 889, 890, 821, 822, 1149, 1150, 1151, 31, 1152, 87, 745, 88, 89, 746, 747, 748, 749, 750, 83, 84, 85, 751, 752, 753, 82, 754, 755, 756, 757, 758, 759, 79, 1153, 1154, 1155, 91, 1156, 833, 764, 765, 99, 766, 891, 892, 893, 35, 894, 895, 104, 105, 896, 897, 898, 54, 899, 73, 900, 901, 902, 903, 904, 905, 906, 907, 908, 909, 668, 669, 670, 671, 672, 673, 910, 911, 912, 913, 914, 915, 916, 917, 918, 919, 920, 921, 922, 923, 838, 839, 924, 799, 800, 801, 802, 803, 804, 925, 926, 927, 928, 929, 830, 831, 832, 930, 931, 932, 933, 934, 935, 936, 937, 938, 939, 940, 10, 11, 12, 941, 196, 197, 942, 825, 826, 827, 828, 829, 834, 835, 836, 837, 943, 944, 945, 946, 947, 948, 949, 950, 951, 952, 953, 954, 95, 955, 956, 957, 958, 959, 868, 869, 870, 871, 872, 873, 874, 875, 960, 961, 962, 963, 964, 965, 966, 967, 968, 969, 970, 971, 972, 973, 974, 975, 976, 977, 978, 979, 980, 981, 761, 762, 763, 982, 983, 1226, 1227, 1228, 1229, 1230, 1231, 1232, 1256, 1257, 1258, 1259, 1260, 1261, 1262, 1263, 1264, 1281, 1282, 1274, 1275, 1276, 1277, 1278, 1279, 1280, 1283, 1284, 1285, 1286, 1287, 1265, 1266, 1267, 1304, 1305, 1306, 1307, 1308, 1309, 1310, 1311, 1312, 1313, 1314, 1315, 1316, 1317] (by decide +kernel) (by decide +kernel)) (goodIn_sub (fun _ h => List.mem_append_right _ h) (by decide +kernel))
set_option maxRecDepth 20000 in
theorem gL_law_X12_warningsOfRecipe : GoodIn wsL_law (wsV RL 227 RX12 yX12_warningsOfRecipe wsX12_warningsOfRecipe) := goodIn_app (goodIn_of _ (by decide +kernel)) ggL_law_X12_warningsOfRecipe
set_option maxRecDepth 20000 in
theorem ggL_law_X12_firstWarning : GoodIn wsL_law wsX12_firstWarning := goodIn_ca (goodIn_r _ [1164, 37, 32, 38, 884, 885, 886, 2, 887, 888, 889, 890, 821, 822, 1149, 1150, 1151, 31, 1152, 87, 745, 88, 89, 746, 747, 748, 749, 750, 83, 84, 85, 751, 752, 753, 82, 754, 755, 756, 757, 758, 759, 79, 1153, 1154, 1155, 91, 1156, 833, 764, 765, 99, 766, 891, 892, 893, 35, 894, 895, 104, 105, 896, 897, 898, 54, 899, 73, 900, 901, 902, 903, 904, 905, 906, 907, 908, 909, 668, 669, 670, 671, 672, 673, 910, 911, 912, 913, 914, 915, 916, 917, 918, 919, 920, 921, 922, 923, 838, 839, 924, 799, 800, 801, 802, 803, 804, 925, 926, 927, 928, 929, 830, 831, 832, 930, 931, 932, 933, 934, 935, 936, 937, 938, 939, 940, 10, 11, 12, 941, 196, 197, 942, 825, 826, 827, 828, 829, 834, 835, 836, 837, 943, 944, 945, 946, 947, 948, 949, 950, 951, 952, 953, 954, 95, 955, 956, 957, 958, 959, 868, 869, 870, 871, 872, 873, 874, 875, 960, 961, 962, 963, 964, 965, 966, 967, 968, 969, 970, 971, 972, 973, 974, 975, 976, 977, 978, 979, 980, 981, 761, 762, 763, 982, 983, 1226, 1227, 1228, 1229, 1230, 1231, 1232, 1265, 1266, 1267, 1256, 1257, 1258, 1259, 1260, 1261, 1262, 1263, 1264, 1274, 1275, 1276, 1277, 1278, 1279, 1280, 1281, 1282, 1283, 1284, 1285, 1286, 1287, 1304, 1305, 1306, 1307, 1308, 1309, 1310, 1311, 1312, 1313, 1314, 1315, 1316, 1317] (by decide +kernel) (by decide +kernel)) (goodIn_sub (fun _ h => List.mem_append_right _ h) (by decide +kernel))
set_option maxRecDepth 20000 in
theorem gL_law_X12_firstWarning : GoodIn wsL_law (wsV RL 230 RX12 yX12_firstWarning wsX12_firstWarning) := goodIn_app (goodIn_of _ (by decide +kernel)) ggL_law_X12_firstWarning
set_option maxRecDepth 20000 in
theorem ggL_law_X12_highestSafe : GoodIn wsL_law wsX12_highestSafe := goodIn_ca (goodIn_r _ [1168, 37, 32, 38, 884, 885, 886, 2, 887, 888, 889, 890, 821, 822, 1149, 1150, 1151, 31, 1152, 87, 745, 88, 89, 746, 747, 748, 749, 750, 83, 84, 85, 751, 752, 753, 82, 754, 755, 756, 757, 758, 759, 79, 1153, 1154, 1155, 91, 1156, 833, 764, 765, 99, 766, 793, 794, 795, 796, 797, 10, 11, 12, 798, 799, 800, 801, 802, 803, 804, 891, 892, 893, 35, 894, 895, 104, 105, 896, 897, 898, 54, 899, 73, 900, 901, 902, 903, 904, 905, 906, 907, 908, 909, 668, 669, 670, 671, 672, 673, 910, 911, 912, 913, 914, 915, 916, 917, 918, 919, 920, 921, 922, 923, 838, 839, 924, 925, 926, 927, 928, 929, 830, 831, 832, 930, 931, 932, 933, 934, 935, 936, 937, 938, 939, 940, 941, 196, 197, 942, 825, 826, 827, 828, 829, 834, 835, 836, 837, 943, 944, 945, 946, 947, 948, 949, 950, 951, 952, 953, 954, 95, 955, 956, 957, 958, 959, 868, 869, 870, 871, 872, 873, 874, 875, 960, 961, 962, 963, 964, 965, 966, 967, 968, 969, 970, 971, 972, 973, 974, 975, 976, 977, 978, 979, 980, 981, 761, 762, 763, 982, 983, 1226, 1227, 1228, 1229, 1230, 1231, 1232, 1256, 1257, 1258, 1259, 1260, 1261, 1262, 1263, 1264, 1281, 1282, 1274, 1275, 1276, 1277, 1278, 1279, 1280, 1283, 1284, 1285, 1286, 1287, 1265, 1266, 1267, 1304, 1305, 1306, 1307, 1308, 1309, 1310, 1311, 1312, 1313, 1314, 1315, 1316, 1317] (by decide +kernel) (by decide +kernel)) (goodIn_sub (fun _ h => List.mem_append_right _ h) (by decide +kernel))
set_option maxRecDepth 20000 in
theorem gL_law_X12_highestSafe : GoodIn wsL_law (wsV RL 233 RX12 yX12_highestSafe wsX12_highestSafe) := goodIn_app (goodIn_of _ (by decide +kernel)) ggL_law_X12_highestSafe
set_option maxRecDepth 20000 in
theorem ggL_law_X12_mostServings : GoodIn wsL_law wsX12_mostServings := goodIn_ca (goodIn_r _ [1172, 37, 32, 38, 884, 885, 886, 2, 887, 888, 889, 890, 821, 822, 1149, 1150, 1151, 31, 1152, 87, 745, 88, 89, 746, 747, 748, 749, 750, 83, 84, 85, 751, 752, 753, 82, 754, 755, 756, 757, 758, 759, 79, 1153, 1154, 1155, 91, 1156, 833, 764, 765, 99, 766, 891, 892, 893, 35, 894, 895, 104, 105, 896, 897, 898, 54, 899, 73, 900, 901, 902, 903, 904, 905, 906, 907, 908, 909, 668, 669, 670, 671, 672, 673, 910, 911, 912, 913, 914, 915, 916, 917, 918, 919, 920, 921, 922, 923, 838, 839, 924, 799, 800, 801, 802, 803, 804, 925, 926, 927, 928, 929, 830, 831, 832, 930, 931, 932, 933, 934, 935, 936, 937, 938, 939, 940, 10, 11, 12, 941, 196, 197, 942, 825, 826, 827, 828, 829, 834, 835, 836, 837, 943, 944, 945, 946, 947, 948, 949, 950, 951, 952, 953, 954, 95, 955, 956, 957, 958, 959, 868, 869, 870, 871, 872, 873, 874, 875, 960, 961, 962, 963, 964, 965, 966, 967, 968, 969, 970, 971, 972, 973, 974, 975, 976, 977, 978, 979, 980, 981, 761, 762, 763, 982, 983, 1053, 1054, 1055, 1056, 1226, 1227, 1228, 1229, 1230, 1231, 1232, 1256, 1257, 1258, 1259, 1260, 1261, 1262, 1263, 1264, 1274, 1275, 1276, 1277, 1278, 1279, 1280, 1281, 1282, 1283, 1284, 1285, 1286, 1287, 1265, 1266, 1267, 1304, 1305, 1306, 1307, 1308, 1309, 1310, 1311, 1312, 1313, 1314, 1315, 1316, 1317] (by decide +kernel) (by decide +kernel)) (goodIn_sub (fun _ h => List.mem_append_right _ h) (by decide +kernel))
set_option maxRecDepth 20000 in
theorem gL_law_X12_mostServings : GoodIn wsL_law (wsV RL 236 RX12 yX12_mostServings wsX12_mostServings) := goodIn_app (goodIn_of _ (by decide +kernel)) ggL_law_X12_mostServings
set_option maxRecDepth 20000 in
theorem ggL_law_X12_doneBehind : GoodIn wsL_law wsX12_doneBehind := goodIn_ca (goodIn_r _ [1176, 32, 37, 38, 884, 885, 886, 2, 887, 888, 889, 890, 821, 822, 1149, 1150, 1151, 31, 1152, 87, 745, 88, 89, 746, 747, 748, 749, 750, 83, 84, 85, 751, 752, 753, 82, 754, 755, 756, 757, 758, 759, 79, 1153, 1154, 1155, 91, 1156, 833, 764, 765, 99, 766, 891, 892, 893, 35, 894, 895, 104, 105, 896, 897, 898, 54, 899, 73, 900, 901, 902, 903, 904, 905, 906, 907, 908, 909, 668, 669, 670, 671, 672, 673, 910, 911, 912, 913, 914, 915, 916, 917, 918, 919, 920, 921, 922, 923, 838, 839, 924, 799, 800, 801, 802, 803, 804, 925, 926, 927, 928, 929, 830, 831, 832, 930, 931, 932, 933, 934, 935, 936, 937, 938, 939, 940, 10, 11, 12, 941, 196, 197, 942, 825, 826, 827, 828, 829, 834, 835, 836, 837, 943, 944, 945, 946, 947, 948, 949, 950, 951, 952, 953, 954, 95, 955, 956, 957, 958, 959, 868, 869, 870, 871, 872, 873, 874, 875, 960, 961, 962, 963, 964, 965, 966, 967, 968, 969, 970, 971, 972, 973, 974, 975, 976, 977, 978, 979, 980, 981, 761, 762, 763, 982, 983, 823, 1226, 1227, 1228, 1229, 1230, 1231, 1232, 1256, 1257, 1258, 1259, 1260, 1261, 1262, 1263, 1264, 1274, 1275, 1276, 1277, 1278, 1279, 1280, 1283, 1284, 1285, 1286, 1287, 1281, 1282, 1265, 1266, 1267, 1304, 1305, 1306, 1307, 1308, 1309, 1310, 1311, 1312, 1313, 1314, 1315, 1316, 1317] (by decide +kernel) (by decide +kernel)) (goodIn_sub (fun _ h => List.mem_append_right _ h) (by decide +kernel))
set_option maxRecDepth 20000 in
theorem gL_law_X12_doneBehind : GoodIn wsL_law (wsV RL 239 RX12 yX12_doneBehind wsX12_doneBehind) := goodIn_app (goodIn_of _ (by decide +kernel)) ggL_law_X12_doneBehind
set_option maxRecDepth 20000 in
theorem ggL_law_X12_minute : GoodIn wsL_law wsX12_minute := goodIn_r _ [1180, 32, 1226, 1227, 1228, 1229, 1230, 1231, 1232, 1256, 1257, 1258, 1259, 1260, 1261, 1262, 1263, 1264] (by decide +kernel) (by decide +kernel)
set_option maxRecDepth 20000 in
theorem gL_law_X12_minute : GoodIn wsL_law (wsV RL 242 RX12 yX12_minute wsX12_minute) := goodIn_app (goodIn_of _ (by decide +kernel)) ggL_law_X12_minute
set_option maxRecDepth 20000 in
theorem ggL_law_X12_servings : GoodIn wsL_law wsX12_servings := goodIn_r _ [1184, 32, 1226, 1227, 1228, 1229, 1230, 1231, 1232, 1256, 1257, 1258, 1259, 1260, 1261, 1262, 1263, 1264] (by decide +kernel) (by decide +kernel)
set_option maxRecDepth 20000 in
theorem gL_law_X12_servings : GoodIn wsL_law (wsV RL 245 RX12 yX12_servings wsX12_servings) := goodIn_app (goodIn_of _ (by decide +kernel)) ggL_law_X12_servings
set_option maxRecDepth 20000 in
theorem ggL_law_X12_setAltitude : GoodIn wsL_law wsX12_setAltitude := goodIn_ca (goodIn_r _ [792, 32, 509, 510, 2, 511, 512, 513, 793, 794, 795, 31, 796, 745, 87, 797, 10, 11, 12, 756, 757, 758, 759, 79, 798, 799, 800, 801, 802, 803, 804, 1226, 1227, 1228, 1229, 1230, 1231, 1232, 1256, 1257, 1258, 1259, 1260, 1261, 1262, 1263, 1264, 1274, 1275, 1276, 1277, 1278, 1279, 1280, 1283, 1284, 1285, 1286, 1287] (by decide +kernel) (by decide +kernel)) (goodIn_sub (fun _ h => List.mem_append_left _ (List.mem_append_right _ h)) (by decide +kernel))
set_option maxRecDepth 20000 in
theorem gL_law_X12_setAltitude : GoodIn wsL_law (wsV RL 105 RX12 yX12_setAltitude wsX12_setAltitude) := goodIn_app (goodIn_of _ (by decide +kernel)) ggL_law_X12_setAltitude
set_option maxRecDepth 20000 in
theorem ggL_law_X12_cook : GoodIn wsL_law wsX12_cook := goodIn_ca (goodIn_r _ [883, 36, 884, 885, 886, 2, 887, 32, 888, 889, 890, 821, 822, 891, 892, 893, 35, 894, 895, 104, 105, 896, 897, 898, 54, 899, 73, 900, 901, 902, 903, 904, 905, 906, 907, 908, 909, 668, 669, 670, 671, 672, 673, 910, 911, 912, 913, 914, 915, 916, 917, 918, 919, 920, 921, 922, 923, 838, 839, 924, 799, 800, 31, 801, 745, 802, 803, 804, 925, 757, 758, 759, 87, 79, 926, 927, 928, 929, 830, 831, 91, 832, 833, 764, 765, 930, 931, 932, 933, 934, 935, 936, 937, 88, 89, 938, 939, 940, 10, 11, 12, 941, 196, 197, 942, 825, 826, 827, 828, 99, 766, 829, 834, 835, 836, 837, 943, 944, 945, 946, 947, 948, 949, 950, 83, 85, 951, 952, 953, 82, 954, 755, 95, 955, 956, 957, 958, 959, 868, 869, 870, 746, 756, 871, 872, 873, 874, 875, 960, 961, 962, 963, 964, 965, 966, 967, 968, 969, 970, 971, 972, 973, 974, 975, 976, 977, 978, 979, 980, 981, 761, 762, 763, 982, 983, 1226, 1227, 1228, 1229, 1230, 1231, 1232, 1256, 1257, 1258, 1259, 1260, 1261, 1262, 1263, 1264, 1274, 1275, 1276, 1277, 1278, 1279, 1280, 1265, 1266, 1267, 1304, 1305, 1306, 1307, 1308, 1309, 1310, 1311, 1312, 1313, 1314, 1315, 1316, 1317, 1283, 1284, 1285, 1286, 1287, 1281, 1282] (by decide +kernel) (by decide +kernel)) (goodIn_sub (fun _ h => List.mem_append_right _ h) (by decide +kernel))
set_option maxRecDepth 20000 in
theorem gL_law_X12_cook : GoodIn wsL_law (wsV RL 141 RX12 yX12_cook wsX12_cook) := goodIn_app (goodIn_of _ (by decide +kernel)) ggL_law_X12_cook
set_option maxRecDepth 20000 in
theorem ggL_law_X15_climb : GoodIn wsL_law wsX15_climb := goodIn_r _ [783, 784, 151, 785, 786, 787, 140, 788, 1238, 1239, 1240, 1241, 1242, 1243, 1244, 1245, 1246, 1247, 1248, 1249] (by decide +kernel) (by decide +kernel)
set_option maxRecDepth 20000 in
theorem gL_law_X15_climb : GoodIn wsL_law (wsV RL 101 RX15 yX15_climb wsX15_climb) := goodIn_app (goodIn_of _ (by decide +kernel)) ggL_law_X15_climb
set_option maxRecDepth 20000 in
theorem ggL_law_X15_cook : GoodIn wsL_law wsX15_cook := goodIn_r _ [987, 862, 988, 989, 153, 990, 991, 992, 140, 993, 994, 995, 996, 997, 998, 151, 999, 1000, 13, 156, 1001, 1002, 1003, 1004, 1005, 1006, 412, 1007, 432, 434, 435, 433, 1008, 1009, 1010, 1011, 1012, 1013, 1014, 786, 787, 788, 784, 1015, 845, 846, 847, 1016, 1017, 1018, 1019, 148, 149, 1020, 1021, 1022, 1023, 841, 842, 843, 844, 1024, 1025, 1026, 1027, 154, 155, 1028, 1029, 1030, 1031, 859, 860, 861, 785, 1032, 1033, 1034, 1035, 1036, 1037, 1038, 1039, 1040, 1041, 399, 1042, 413, 414, 415, 1043, 1238, 1239, 1240, 1241, 1242, 1243, 1244, 1245, 1246, 1247, 1248, 1249, 1292, 1293, 1294, 1295, 1296, 1297, 1298, 1299, 1300, 1301, 1302, 1303] (by decide +kernel) (by decide +kernel)
set_option maxRecDepth 20000 in
theorem gL_law_X15_cook : GoodIn wsL_law (wsV RL 144 RX15 yX15_cook wsX15_cook) := goodIn_app (goodIn_of _ (by decide +kernel)) ggL_law_X15_cook
set_option maxRecDepth 20000 in
theorem ggL_law_X12_setServings : GoodIn wsL_law wsX12_setServings := goodIn_ca (goodIn_r _ [808, 32, 509, 510, 2, 511, 512, 513, 1226, 1227, 1228, 1229, 1230, 1231, 1232, 1256, 1257, 1258, 1259, 1260, 1261, 1262, 1263, 1264] (by decide +kernel) (by decide +kernel)) (goodIn_sub (fun _ h => List.mem_append_left _ (List.mem_append_right _ h)) (by decide +kernel))
set_option maxRecDepth 20000 in
theorem gL_law_X12_setServings : GoodIn wsL_law (wsV RL 111 RX12 yX12_setServings wsX12_setServings) := goodIn_app (goodIn_of _ (by decide +kernel)) ggL_law_X12_setServings
set_option maxRecDepth 20000 in
theorem ggL_law_X12_rest : GoodIn wsL_law wsX12_rest := goodIn_ca (goodIn_r _ [866, 32, 509, 510, 2, 511, 512, 513, 867, 868, 869, 31, 870, 746, 87, 756, 757, 758, 759, 79, 871, 872, 873, 91, 874, 99, 875, 196, 11, 197, 876, 877, 878, 879, 1226, 1227, 1228, 1229, 1230, 1231, 1232, 1256, 1257, 1258, 1259, 1260, 1261, 1262, 1263, 1264, 1274, 1275, 1276, 1277, 1278, 1279, 1280, 1283, 1284, 1285, 1286, 1287] (by decide +kernel) (by decide +kernel)) (goodIn_sub (fun _ h => List.mem_append_left _ (List.mem_append_right _ h)) (by decide +kernel))
set_option maxRecDepth 20000 in
theorem gL_law_X12_rest : GoodIn wsL_law (wsV RL 138 RX12 yX12_rest wsX12_rest) := goodIn_app (goodIn_of _ (by decide +kernel)) ggL_law_X12_rest
set_option maxRecDepth 20000 in
theorem ggL_law_X15_goBy : GoodIn wsL_law wsX15_goBy := goodIn_r _ [861, 862, 151, 1238, 1239, 1240, 1241, 1242, 1243, 1244, 1245, 1246, 1247, 1248, 1249] (by decide +kernel) (by decide +kernel)
set_option maxRecDepth 20000 in
theorem gL_law_X15_goBy : GoodIn wsL_law (wsV RL 134 RX15 yX15_goBy wsX15_goBy) := goodIn_app (goodIn_of _ (by decide +kernel)) ggL_law_X15_goBy
set_option maxRecDepth 20000 in
theorem ggL_law_X15_isSame : GoodIn wsL_law wsX15_isSame := goodIn_ca (goodIn_ca (goodIn_r _ [1188, 151, 154, 155, 156, 153, 784, 148, 149, 862, 1001, 1189, 1116, 1117, 2, 1118, 817, 818, 819, 820, 821, 822, 32, 823, 757, 758, 31, 759, 87, 79, 1190, 1103, 1104, 1105, 1191, 1107, 1108, 1109, 1192, 1099, 1100, 1101, 1193, 1120, 1121, 1122, 1194, 1111, 1112, 1113, 1114, 830, 831, 91, 832, 833, 764, 765, 844, 845, 846, 140, 847, 1195, 1073, 1074, 1075, 509, 510, 511, 512, 513, 1053, 1054, 1055, 1056, 85, 1196, 1095, 1096, 1097, 1063, 1064, 1065, 82, 1066, 755, 1067, 10, 11, 12, 888, 889, 890, 1068, 1069, 1070, 1071, 95, 955, 956, 957, 958, 1197, 1198, 1199, 1200, 1201, 1202, 399, 1203, 416, 417, 1204, 1205, 772, 773, 774, 1206, 1142, 1143, 1144, 1207, 1208, 1209, 1210, 1211, 1086, 1087, 1088, 1212, 1081, 1082, 1083, 1084, 799, 800, 801, 745, 802, 803, 804, 785, 786, 787, 788, 1213, 1182, 1183, 1184, 1214, 1133, 1134, 1135, 1215, 1178, 1179, 1180, 1216, 1077, 1078, 1079, 1217, 1218, 1219, 1220, 1221, 1222, 1223, 1224, 1225, 1124, 1125, 1126, 1238, 1239, 1240, 1241, 1242, 1243, 1244, 1245, 1246, 1247, 1248, 1249, 1283, 1284, 1285, 1286, 1287, 1226, 1227, 1228, 1229, 1230, 1231, 1232, 1256, 1257, 1258, 1259, 1260, 1261, 1262, 1263, 1264, 1274, 1275, 1276, 1277, 1278, 1279, 1280, 1281, 1282, 1292, 1293, 1294, 1295, 1296, 1297, 1298, 1299] (by decide +kernel) (by decide +kernel)) (goodIn_sub (fun _ h => List.mem_append_right _ h) (by decide +kernel))) (goodIn_sub (fun _ h => List.mem_append_left _ (List.mem_append_right _ h)) (by decide +kernel))
set_option maxRecDepth 20000 in
theorem gL_law_X15_isSame : GoodIn wsL_law (wsV RL 247 RX15 yX15_isSame wsX15_isSame) := goodIn_app (goodIn_of _ (by decide +kernel)) ggL_law_X15_isSame
set_option maxRecDepth 20000 in
theorem ggL_law_J4_append_15ec4 : GoodIn wsL_law wsJ4_append_15ec4 := goodIn_r _ [168, 169, 170, 171, 172, 121, 173, 174, 175, 176, 177, 178, 179, 125, 180, 181, 182, 183, 184, 126, 185, 186, 187, 188, 189, 190, 191, 192, 193, 194, 195, 196, 11, 197, 198, 199, 200, 201, 202, 203, 204, 205, 206, 207, 208, 209, 210, 211, 43, 212, 10, 12, 213, 214, 215, 216, 217, 218, 219, 220, 221, 124, 222, 223, 129, 224, 225, 226, 227, 228, 229, 230, 231, 232, 233, 234, 235, 236, 237, 238, 239, 240, 241, 242, 243, 244, 245, 246, 247, 248, 249, 250, 251, 252, 253, 254, 255, 256, 257, 258, 259, 260, 261, 262, 263, 264, 265, 266, 267, 268, 269, 270, 271, 272, 127, 128, 130, 131, 132, 133, 134, 273, 274, 275, 276, 277, 278, 279, 280, 281, 282, 283, 284, 285, 286, 287, 288, 289, 290, 291, 292, 293, 294, 1234, 1235, 1236, 1237, 1288, 1289, 1290, 1291] (by decide +kernel) (by decide +kernel)
set_option maxRecDepth 20000 in
theorem gL_law_J4_append_15ec4 : GoodIn wsL_law (wsV RL 37 RJ4 yJ4_append_15ec4 wsJ4_append_15ec4) := goodIn_app (goodIn_of _ (by decide +kernel)) ggL_law_J4_append_15ec4
set_option maxRecDepth 20000 in
theorem ggL_law_J4_append_bf812 : GoodIn wsL_law wsJ4_append_bf812 := goodIn_r _ [375, 376, 377, 171, 378, 121, 379, 174, 125, 380, 381, 382, 383, 180, 181, 182, 183, 184, 126, 185, 186, 187, 188, 189, 190, 191, 192, 193, 194, 195, 196, 11, 197, 198, 199, 200, 201, 202, 203, 204, 205, 206, 207, 208, 209, 210, 211, 43, 212, 10, 12, 213, 214, 215, 216, 217, 218, 219, 220, 221, 124, 384, 385, 386, 387, 388, 389, 390, 129, 391, 225, 226, 227, 228, 229, 230, 231, 232, 233, 234, 235, 236, 237, 238, 239, 240, 392, 393, 394, 395, 396, 241, 242, 243, 244, 245, 1234, 1235, 1236, 1237] (by decide +kernel) (by decide +kernel)
set_option maxRecDepth 20000 in
theorem gL_law_J4_append_bf812 : GoodIn wsL_law (wsV RL 72 RJ4 yJ4_append_bf812 wsJ4_append_bf812) := goodIn_app (goodIn_of _ (by decide +kernel)) ggL_law_J4_append_bf812
set_option maxRecDepth 20000 in
theorem ggL_law_X12_pourWater : GoodIn wsL_law wsX12_pourWater := goodIn_ca (goodIn_ca (goodIn_r _ [816, 817, 818, 819, 2, 820, 821, 822, 32, 823, 757, 758, 31, 759, 87, 79, 509, 510, 511, 512, 513, 824, 825, 826, 91, 827, 828, 10, 11, 12, 99, 766, 765, 764, 829, 830, 831, 832, 833, 834, 835, 836, 837, 838, 839, 1226, 1227, 1228, 1229, 1230, 1231, 1232, 1256, 1257, 1258, 1259, 1260, 1261, 1262, 1263, 1264, 1274, 1275, 1276, 1277, 1278, 1279, 1280, 1283, 1284, 1285, 1286, 1287] (by decide +kernel) (by decide +kernel)) (goodIn_sub (fun _ h => List.mem_append_right _ h) (by decide +kernel))) (goodIn_sub (fun _ h => List.mem_append_left _ (List.mem_append_right _ h)) (by decide +kernel))
set_option maxRecDepth 20000 in
theorem gL_law_X12_pourWater : GoodIn wsL_law (wsV RL 120 RX12 yX12_pourWater wsX12_pourWater) := goodIn_app (goodIn_of _ (by decide +kernel)) ggL_law_X12_pourWater
theorem dL_law_0 : decode cL_law 0 = .ok (.new 20, 3) := by decide +kernel
theorem dL_law_3 : decode cL_law 3 = .ok (.dup, 1) := by decide +kernel
theorem dL_law_4 : decode cL_law 4 = .ok (.invokespecial 145, 3) := by decide +kernel
theorem dL_law_7 : decode cL_law 7 = .ok (.astore_n 1, 1) := by decide +kernel
theorem dL_law_8 : decode cL_law 8 = .ok (.new 20, 3) := by decide +kernel
theorem dL_law_11 : decode cL_law 11 = .ok (.dup, 1) := by decide +kernel
theorem dL_law_12 : decode cL_law 12 = .ok (.invokespecial 145, 3) := by decide +kernel
theorem dL_law_15 : decode cL_law 15 = .ok (.astore_n 2, 1) := by decide +kernel
theorem dL_law_16 : decode cL_law 16 = .ok (.iconst 0, 1) := by decide +kernel
theorem dL_law_17 : decode cL_law 17 = .ok (.istore_n 3, 1) := by decide +kernel
theorem dL_law_18 : decode cL_law 18 = .ok (.iload_n 3, 1) := by decide +kernel
theorem dL_law_19 : decode cL_law 19 = .ok (.iconst 2, 1) := by decide +kernel
theorem dL_law_20 : decode cL_law 20 = .ok (.if_icmp .ge 1215, 3) := by decide +kernel
theorem dL_law_23 : decode cL_law 23 = .ok (.new 52, 3) := by decide +kernel
theorem dL_law_26 : decode cL_law 26 = .ok (.dup, 1) := by decide +kernel
theorem dL_law_27 : decode cL_law 27 = .ok (.aload_n 0, 1) := by decide +kernel
theorem dL_law_28 : decode cL_law 28 = .ok (.iload_n 3, 1) := by decide +kernel
theorem dL_law_29 : decode cL_law 29 = .ok (.invokestatic 146, 3) := by decide +kernel
theorem dL_law_32 : decode cL_law 32 = .ok (.aload_n 0, 1) := by decide +kernel
theorem dL_law_33 : decode cL_law 33 = .ok (.iload_n 3, 1) := by decide +kernel
theorem dL_law_34 : decode cL_law 34 = .ok (.iconst 3, 1) := by decide +kernel
theorem dL_law_35 : decode cL_law 35 = .ok (.iadd, 1) := by decide +kernel
theorem dL_law_36 : decode cL_law 36 = .ok (.invokestatic 146, 3) := by decide +kernel
theorem dL_law_39 : decode cL_law 39 = .ok (.bipush 31, 2) := by decide +kernel
theorem dL_law_41 : decode cL_law 41 = .ok (.imul, 1) := by decide +kernel
theorem dL_law_42 : decode cL_law 42 = .ok (.ixor, 1) := by decide +kernel
theorem dL_law_43 : decode cL_law 43 = .ok (.aload_n 0, 1) := by decide +kernel
theorem dL_law_44 : decode cL_law 44 = .ok (.iload_n 3, 1) := by decide +kernel
theorem dL_law_45 : decode cL_law 45 = .ok (.bipush 6, 2) := by decide +kernel
theorem dL_law_47 : decode cL_law 47 = .ok (.iadd, 1) := by decide +kernel
theorem dL_law_48 : decode cL_law 48 = .ok (.invokestatic 146, 3) := by decide +kernel
theorem dL_law_51 : decode cL_law 51 = .ok (.sipush 1009, 3) := by decide +kernel
theorem dL_law_54 : decode cL_law 54 = .ok (.imul, 1) := by decide +kernel
theorem dL_law_55 : decode cL_law 55 = .ok (.ixor, 1) := by decide +kernel
theorem dL_law_56 : decode cL_law 56 = .ok (.invokespecial 150, 3) := by decide +kernel
theorem dL_law_59 : decode cL_law 59 = .ok (.astore 4, 2) := by decide +kernel
theorem dL_law_61 : decode cL_law 61 = .ok (.new 32, 3) := by decide +kernel
theorem dL_law_64 : decode cL_law 64 = .ok (.dup, 1) := by decide +kernel
theorem dL_law_65 : decode cL_law 65 = .ok (.invokespecial 34, 3) := by decide +kernel
theorem dL_law_68 : decode cL_law 68 = .ok (.astore 5, 2) := by decide +kernel
theorem dL_law_70 : decode cL_law 70 = .ok (.aload 4, 2) := by decide +kernel
theorem dL_law_72 : decode cL_law 72 = .ok (.aload 5, 2) := by decide +kernel
theorem dL_law_74 : decode cL_law 74 = .ok (.bipush 14, 2) := by decide +kernel
theorem dL_law_76 : decode cL_law 76 = .ok (.invokestatic 152, 3) := by decide +kernel
theorem dL_law_79 : decode cL_law 79 = .ok (.astore 6, 2) := by decide +kernel
theorem dL_law_81 : decode cL_law 81 = .ok (.aload_n 1, 1) := by decide +kernel
theorem dL_law_82 : decode cL_law 82 = .ok (.aload 5, 2) := by decide +kernel
theorem dL_law_84 : decode cL_law 84 = .ok (.invokevirtual 44, 3) := by decide +kernel
theorem dL_law_87 : decode cL_law 87 = .ok (.invokestatic 156, 3) := by decide +kernel
theorem dL_law_90 : decode cL_law 90 = .ok (.ifCond .eq 5, 3) := by decide +kernel
theorem dL_law_93 : decode cL_law 93 = .ok (.iconst 0, 1) := by decide +kernel
theorem dL_law_94 : decode cL_law 94 = .ok (.ireturn, 1) := by decide +kernel
theorem dL_law_95 : decode cL_law 95 = .ok (.aload_n 1, 1) := by decide +kernel
theorem dL_law_96 : decode cL_law 96 = .ok (.invokevirtual 160, 3) := by decide +kernel
theorem dL_law_99 : decode cL_law 99 = .ok (.istore 7, 2) := by decide +kernel
theorem dL_law_101 : decode cL_law 101 = .ok (.iconst 0, 1) := by decide +kernel
theorem dL_law_102 : decode cL_law 102 = .ok (.istore 8, 2) := by decide +kernel
theorem dL_law_104 : decode cL_law 104 = .ok (.iload 8, 2) := by decide +kernel
theorem dL_law_106 : decode cL_law 106 = .ok (.bipush 8, 2) := by decide +kernel
theorem dL_law_108 : decode cL_law 108 = .ok (.if_icmp .ge 988, 3) := by decide +kernel
theorem dL_law_111 : decode cL_law 111 = .ok (.iconst 0, 1) := by decide +kernel
theorem dL_law_112 : decode cL_law 112 = .ok (.istore 9, 2) := by decide +kernel
theorem dL_law_114 : decode cL_law 114 = .ok (.iload 9, 2) := by decide +kernel
theorem dL_law_116 : decode cL_law 116 = .ok (.iconst 2, 1) := by decide +kernel
theorem dL_law_117 : decode cL_law 117 = .ok (.if_icmp .ge 22, 3) := by decide +kernel
theorem dL_law_120 : decode cL_law 120 = .ok (.aload_n 1, 1) := by decide +kernel
theorem dL_law_121 : decode cL_law 121 = .ok (.aload 6, 2) := by decide +kernel
theorem dL_law_123 : decode cL_law 123 = .ok (.aload 4, 2) := by decide +kernel
theorem dL_law_125 : decode cL_law 125 = .ok (.invokestatic 162, 3) := by decide +kernel
theorem dL_law_128 : decode cL_law 128 = .ok (.ifCond .ne 5, 3) := by decide +kernel
theorem dL_law_131 : decode cL_law 131 = .ok (.iconst 0, 1) := by decide +kernel
theorem dL_law_132 : decode cL_law 132 = .ok (.ireturn, 1) := by decide +kernel
theorem dL_law_133 : decode cL_law 133 = .ok (.iinc 9 1, 3) := by decide +kernel
theorem dL_law_136 : decode cL_law 136 = .ok (.goto (-22), 3) := by decide +kernel
theorem dL_law_139 : decode cL_law 139 = .ok (.aload_n 1, 1) := by decide +kernel
theorem dL_law_140 : decode cL_law 140 = .ok (.invokevirtual 166, 3) := by decide +kernel
theorem dL_law_143 : decode cL_law 143 = .ok (.lstore 9, 2) := by decide +kernel
theorem dL_law_145 : decode cL_law 145 = .ok (.iconst 0, 1) := by decide +kernel
theorem dL_law_146 : decode cL_law 146 = .ok (.istore 11, 2) := by decide +kernel
theorem dL_law_148 : decode cL_law 148 = .ok (.iconst 1, 1) := by decide +kernel
theorem dL_law_149 : decode cL_law 149 = .ok (.istore 12, 2) := by decide +kernel
theorem dL_law_151 : decode cL_law 151 = .ok (.iload 12, 2) := by decide +kernel
theorem dL_law_153 : decode cL_law 153 = .ok (.bipush 6, 2) := by decide +kernel
theorem dL_law_155 : decode cL_law 155 = .ok (.if_icmp .ge 20, 3) := by decide +kernel
theorem dL_law_158 : decode cL_law 158 = .ok (.iload 11, 2) := by decide +kernel
theorem dL_law_160 : decode cL_law 160 = .ok (.aload_n 1, 1) := by decide +kernel
theorem dL_law_161 : decode cL_law 161 = .ok (.iload 12, 2) := by decide +kernel
theorem dL_law_163 : decode cL_law 163 = .ok (.invokevirtual 170, 3) := by decide +kernel
theorem dL_law_166 : decode cL_law 166 = .ok (.iadd, 1) := by decide +kernel
theorem dL_law_167 : decode cL_law 167 = .ok (.istore 11, 2) := by decide +kernel
theorem dL_law_169 : decode cL_law 169 = .ok (.iinc 12 1, 3) := by decide +kernel
theorem dL_law_172 : decode cL_law 172 = .ok (.goto (-21), 3) := by decide +kernel
theorem dL_law_175 : decode cL_law 175 = .ok (.iload 11, 2) := by decide +kernel
theorem dL_law_177 : decode cL_law 177 = .ok (.aload_n 1, 1) := by decide +kernel
theorem dL_law_178 : decode cL_law 178 = .ok (.invokevirtual 173, 3) := by decide +kernel
theorem dL_law_181 : decode cL_law 181 = .ok (.if_icmp .ne 18, 3) := by decide +kernel
theorem dL_law_184 : decode cL_law 184 = .ok (.aload_n 1, 1) := by decide +kernel
theorem dL_law_185 : decode cL_law 185 = .ok (.invokevirtual 176, 3) := by decide +kernel
theorem dL_law_188 : decode cL_law 188 = .ok (.aload_n 1, 1) := by decide +kernel
theorem dL_law_189 : decode cL_law 189 = .ok (.aload_n 1, 1) := by decide +kernel
theorem dL_law_190 : decode cL_law 190 = .ok (.invokevirtual 179, 3) := by decide +kernel
theorem dL_law_193 : decode cL_law 193 = .ok (.invokevirtual 181, 3) := by decide +kernel
theorem dL_law_196 : decode cL_law 196 = .ok (.if_icmp .eq 5, 3) := by decide +kernel
theorem dL_law_199 : decode cL_law 199 = .ok (.iconst 0, 1) := by decide +kernel
theorem dL_law_200 : decode cL_law 200 = .ok (.ireturn, 1) := by decide +kernel
theorem dL_law_201 : decode cL_law 201 = .ok (.iconst 0, 1) := by decide +kernel
theorem dL_law_202 : decode cL_law 202 = .ok (.istore 12, 2) := by decide +kernel
theorem dL_law_204 : decode cL_law 204 = .ok (.iload 12, 2) := by decide +kernel
theorem dL_law_206 : decode cL_law 206 = .ok (.bipush 20, 2) := by decide +kernel
theorem dL_law_208 : decode cL_law 208 = .ok (.iload 11, 2) := by decide +kernel
theorem dL_law_210 : decode cL_law 210 = .ok (.invokestatic 184, 3) := by decide +kernel
theorem dL_law_213 : decode cL_law 213 = .ok (.if_icmp .ge 31, 3) := by decide +kernel
theorem dL_law_216 : decode cL_law 216 = .ok (.aload_n 1, 1) := by decide +kernel
theorem dL_law_217 : decode cL_law 217 = .ok (.iload 12, 2) := by decide +kernel
theorem dL_law_219 : decode cL_law 219 = .ok (.invokevirtual 189, 3) := by decide +kernel
theorem dL_law_222 : decode cL_law 222 = .ok (.iconst 1, 1) := by decide +kernel
theorem dL_law_223 : decode cL_law 223 = .ok (.if_icmp .lt 13, 3) := by decide +kernel
theorem dL_law_226 : decode cL_law 226 = .ok (.aload_n 1, 1) := by decide +kernel
theorem dL_law_227 : decode cL_law 227 = .ok (.iload 12, 2) := by decide +kernel
theorem dL_law_229 : decode cL_law 229 = .ok (.invokevirtual 189, 3) := by decide +kernel
theorem dL_law_232 : decode cL_law 232 = .ok (.iconst 5, 1) := by decide +kernel
theorem dL_law_233 : decode cL_law 233 = .ok (.if_icmp .le 5, 3) := by decide +kernel
theorem dL_law_236 : decode cL_law 236 = .ok (.iconst 0, 1) := by decide +kernel
theorem dL_law_237 : decode cL_law 237 = .ok (.ireturn, 1) := by decide +kernel
theorem dL_law_238 : decode cL_law 238 = .ok (.iinc 12 1, 3) := by decide +kernel
theorem dL_law_241 : decode cL_law 241 = .ok (.goto (-37), 3) := by decide +kernel
theorem dL_law_244 : decode cL_law 244 = .ok (.dconst 0, 1) := by decide +kernel
theorem dL_law_245 : decode cL_law 245 = .ok (.dstore 12, 2) := by decide +kernel
theorem dL_law_247 : decode cL_law 247 = .ok (.iconst 0, 1) := by decide +kernel
theorem dL_law_248 : decode cL_law 248 = .ok (.istore 14, 2) := by decide +kernel
theorem dL_law_250 : decode cL_law 250 = .ok (.iload 14, 2) := by decide +kernel
theorem dL_law_252 : decode cL_law 252 = .ok (.iload 7, 2) := by decide +kernel
theorem dL_law_254 : decode cL_law 254 = .ok (.if_icmp .ge 139, 3) := by decide +kernel
theorem dL_law_257 : decode cL_law 257 = .ok (.dload 12, 2) := by decide +kernel
theorem dL_law_259 : decode cL_law 259 = .ok (.aload_n 1, 1) := by decide +kernel
theorem dL_law_260 : decode cL_law 260 = .ok (.iload 14, 2) := by decide +kernel
theorem dL_law_262 : decode cL_law 262 = .ok (.invokevirtual 192, 3) := by decide +kernel
theorem dL_law_265 : decode cL_law 265 = .ok (.i2d, 1) := by decide +kernel
theorem dL_law_266 : decode cL_law 266 = .ok (.dadd, 1) := by decide +kernel
theorem dL_law_267 : decode cL_law 267 = .ok (.dstore 12, 2) := by decide +kernel
theorem dL_law_269 : decode cL_law 269 = .ok (.aload_n 1, 1) := by decide +kernel
theorem dL_law_270 : decode cL_law 270 = .ok (.iload 14, 2) := by decide +kernel
theorem dL_law_272 : decode cL_law 272 = .ok (.invokevirtual 195, 3) := by decide +kernel
theorem dL_law_275 : decode cL_law 275 = .ok (.ifCond .lt 110, 3) := by decide +kernel
theorem dL_law_278 : decode cL_law 278 = .ok (.aload_n 1, 1) := by decide +kernel
theorem dL_law_279 : decode cL_law 279 = .ok (.iload 14, 2) := by decide +kernel
theorem dL_law_281 : decode cL_law 281 = .ok (.invokevirtual 198, 3) := by decide +kernel
theorem dL_law_284 : decode cL_law 284 = .ok (.ifCond .lt 101, 3) := by decide +kernel
theorem dL_law_287 : decode cL_law 287 = .ok (.aload_n 1, 1) := by decide +kernel
theorem dL_law_288 : decode cL_law 288 = .ok (.iload 14, 2) := by decide +kernel
theorem dL_law_290 : decode cL_law 290 = .ok (.invokevirtual 195, 3) := by decide +kernel
theorem dL_law_293 : decode cL_law 293 = .ok (.aload_n 1, 1) := by decide +kernel
theorem dL_law_294 : decode cL_law 294 = .ok (.iload 14, 2) := by decide +kernel
theorem dL_law_296 : decode cL_law 296 = .ok (.invokevirtual 198, 3) := by decide +kernel
theorem dL_law_299 : decode cL_law 299 = .ok (.iadd, 1) := by decide +kernel
theorem dL_law_300 : decode cL_law 300 = .ok (.aload_n 1, 1) := by decide +kernel
theorem dL_law_301 : decode cL_law 301 = .ok (.iload 14, 2) := by decide +kernel
theorem dL_law_303 : decode cL_law 303 = .ok (.invokevirtual 201, 3) := by decide +kernel
theorem dL_law_306 : decode cL_law 306 = .ok (.iadd, 1) := by decide +kernel
theorem dL_law_307 : decode cL_law 307 = .ok (.aload_n 1, 1) := by decide +kernel
theorem dL_law_308 : decode cL_law 308 = .ok (.iload 14, 2) := by decide +kernel
theorem dL_law_310 : decode cL_law 310 = .ok (.invokevirtual 204, 3) := by decide +kernel
theorem dL_law_313 : decode cL_law 313 = .ok (.if_icmp .ne 72, 3) := by decide +kernel
theorem dL_law_316 : decode cL_law 316 = .ok (.aload_n 1, 1) := by decide +kernel
theorem dL_law_317 : decode cL_law 317 = .ok (.iload 14, 2) := by decide +kernel
theorem dL_law_319 : decode cL_law 319 = .ok (.invokevirtual 201, 3) := by decide +kernel
theorem dL_law_322 : decode cL_law 322 = .ok (.ifCond .lt 63, 3) := by decide +kernel
theorem dL_law_325 : decode cL_law 325 = .ok (.aload_n 1, 1) := by decide +kernel
theorem dL_law_326 : decode cL_law 326 = .ok (.iload 14, 2) := by decide +kernel
theorem dL_law_328 : decode cL_law 328 = .ok (.invokevirtual 192, 3) := by decide +kernel
theorem dL_law_331 : decode cL_law 331 = .ok (.bipush 20, 2) := by decide +kernel
theorem dL_law_333 : decode cL_law 333 = .ok (.if_icmp .lt 52, 3) := by decide +kernel
theorem dL_law_336 : decode cL_law 336 = .ok (.aload_n 1, 1) := by decide +kernel
theorem dL_law_337 : decode cL_law 337 = .ok (.iload 14, 2) := by decide +kernel
theorem dL_law_339 : decode cL_law 339 = .ok (.invokevirtual 192, 3) := by decide +kernel
theorem dL_law_342 : decode cL_law 342 = .ok (.bipush 100, 2) := by decide +kernel
theorem dL_law_344 : decode cL_law 344 = .ok (.if_icmp .gt 41, 3) := by decide +kernel
theorem dL_law_347 : decode cL_law 347 = .ok (.aload_n 1, 1) := by decide +kernel
theorem dL_law_348 : decode cL_law 348 = .ok (.iload 14, 2) := by decide +kernel
theorem dL_law_350 : decode cL_law 350 = .ok (.invokevirtual 207, 3) := by decide +kernel
theorem dL_law_353 : decode cL_law 353 = .ok (.ifCond .lt 32, 3) := by decide +kernel
theorem dL_law_356 : decode cL_law 356 = .ok (.aload_n 1, 1) := by decide +kernel
theorem dL_law_357 : decode cL_law 357 = .ok (.iload 14, 2) := by decide +kernel
theorem dL_law_359 : decode cL_law 359 = .ok (.invokevirtual 207, 3) := by decide +kernel
theorem dL_law_362 : decode cL_law 362 = .ok (.bipush 100, 2) := by decide +kernel
theorem dL_law_364 : decode cL_law 364 = .ok (.if_icmp .gt 21, 3) := by decide +kernel
theorem dL_law_367 : decode cL_law 367 = .ok (.aload_n 1, 1) := by decide +kernel
theorem dL_law_368 : decode cL_law 368 = .ok (.iload 14, 2) := by decide +kernel
theorem dL_law_370 : decode cL_law 370 = .ok (.invokevirtual 198, 3) := by decide +kernel
theorem dL_law_373 : decode cL_law 373 = .ok (.ifCond .ne 14, 3) := by decide +kernel
theorem dL_law_376 : decode cL_law 376 = .ok (.aload_n 1, 1) := by decide +kernel
theorem dL_law_377 : decode cL_law 377 = .ok (.iload 14, 2) := by decide +kernel
theorem dL_law_379 : decode cL_law 379 = .ok (.invokevirtual 207, 3) := by decide +kernel
theorem dL_law_382 : decode cL_law 382 = .ok (.ifCond .le 5, 3) := by decide +kernel
theorem dL_law_385 : decode cL_law 385 = .ok (.iconst 0, 1) := by decide +kernel
theorem dL_law_386 : decode cL_law 386 = .ok (.ireturn, 1) := by decide +kernel
theorem dL_law_387 : decode cL_law 387 = .ok (.iinc 14 1, 3) := by decide +kernel
theorem dL_law_390 : decode cL_law 390 = .ok (.goto (-140), 3) := by decide +kernel
theorem dL_law_393 : decode cL_law 393 = .ok (.aload_n 1, 1) := by decide +kernel
theorem dL_law_394 : decode cL_law 394 = .ok (.invokevirtual 210, 3) := by decide +kernel
theorem dL_law_397 : decode cL_law 397 = .ok (.dload 12, 2) := by decide +kernel
theorem dL_law_399 : decode cL_law 399 = .ok (.iload 7, 2) := by decide +kernel
theorem dL_law_401 : decode cL_law 401 = .ok (.i2d, 1) := by decide +kernel
theorem dL_law_402 : decode cL_law 402 = .ok (.ddiv, 1) := by decide +kernel
theorem dL_law_403 : decode cL_law 403 = .ok (.dcmp .l, 1) := by decide +kernel
theorem dL_law_404 : decode cL_law 404 = .ok (.ifCond .eq 5, 3) := by decide +kernel
theorem dL_law_407 : decode cL_law 407 = .ok (.iconst 0, 1) := by decide +kernel
theorem dL_law_408 : decode cL_law 408 = .ok (.ireturn, 1) := by decide +kernel
theorem dL_law_409 : decode cL_law 409 = .ok (.aload 4, 2) := by decide +kernel
theorem dL_law_411 : decode cL_law 411 = .ok (.sipush 999, 3) := by decide +kernel
theorem dL_law_414 : decode cL_law 414 = .ok (.invokevirtual 51, 3) := by decide +kernel
theorem dL_law_417 : decode cL_law 417 = .ok (.istore 14, 2) := by decide +kernel
theorem dL_law_419 : decode cL_law 419 = .ok (.aload 4, 2) := by decide +kernel
theorem dL_law_421 : decode cL_law 421 = .ok (.bipush 60, 2) := by decide +kernel
theorem dL_law_423 : decode cL_law 423 = .ok (.invokevirtual 51, 3) := by decide +kernel
theorem dL_law_426 : decode cL_law 426 = .ok (.istore 15, 2) := by decide +kernel
theorem dL_law_428 : decode cL_law 428 = .ok (.aload_n 1, 1) := by decide +kernel
theorem dL_law_429 : decode cL_law 429 = .ok (.iload 14, 2) := by decide +kernel
theorem dL_law_431 : decode cL_law 431 = .ok (.invokevirtual 214, 3) := by decide +kernel
theorem dL_law_434 : decode cL_law 434 = .ok (.aload_n 1, 1) := by decide +kernel
theorem dL_law_435 : decode cL_law 435 = .ok (.invokevirtual 217, 3) := by decide +kernel
theorem dL_law_438 : decode cL_law 438 = .ok (.irem, 1) := by decide +kernel
theorem dL_law_439 : decode cL_law 439 = .ok (.ifCond .ne 79, 3) := by decide +kernel
theorem dL_law_442 : decode cL_law 442 = .ok (.aload_n 1, 1) := by decide +kernel
theorem dL_law_443 : decode cL_law 443 = .ok (.iload 14, 2) := by decide +kernel
theorem dL_law_445 : decode cL_law 445 = .ok (.iconst 1, 1) := by decide +kernel
theorem dL_law_446 : decode cL_law 446 = .ok (.iadd, 1) := by decide +kernel
theorem dL_law_447 : decode cL_law 447 = .ok (.invokevirtual 214, 3) := by decide +kernel
theorem dL_law_450 : decode cL_law 450 = .ok (.aload_n 1, 1) := by decide +kernel
theorem dL_law_451 : decode cL_law 451 = .ok (.iload 14, 2) := by decide +kernel
theorem dL_law_453 : decode cL_law 453 = .ok (.invokevirtual 214, 3) := by decide +kernel
theorem dL_law_456 : decode cL_law 456 = .ok (.if_icmp .lt 62, 3) := by decide +kernel
theorem dL_law_459 : decode cL_law 459 = .ok (.aload_n 1, 1) := by decide +kernel
theorem dL_law_460 : decode cL_law 460 = .ok (.iload 14, 2) := by decide +kernel
theorem dL_law_462 : decode cL_law 462 = .ok (.iload 15, 2) := by decide +kernel
theorem dL_law_464 : decode cL_law 464 = .ok (.iconst 1, 1) := by decide +kernel
theorem dL_law_465 : decode cL_law 465 = .ok (.iadd, 1) := by decide +kernel
theorem dL_law_466 : decode cL_law 466 = .ok (.invokevirtual 219, 3) := by decide +kernel
theorem dL_law_469 : decode cL_law 469 = .ok (.aload_n 1, 1) := by decide +kernel
theorem dL_law_470 : decode cL_law 470 = .ok (.iload 14, 2) := by decide +kernel
theorem dL_law_472 : decode cL_law 472 = .ok (.iload 15, 2) := by decide +kernel
theorem dL_law_474 : decode cL_law 474 = .ok (.invokevirtual 219, 3) := by decide +kernel
theorem dL_law_477 : decode cL_law 477 = .ok (.if_icmp .lt 41, 3) := by decide +kernel
theorem dL_law_480 : decode cL_law 480 = .ok (.aload_n 1, 1) := by decide +kernel
theorem dL_law_481 : decode cL_law 481 = .ok (.iload 14, 2) := by decide +kernel
theorem dL_law_483 : decode cL_law 483 = .ok (.iconst 1, 1) := by decide +kernel
theorem dL_law_484 : decode cL_law 484 = .ok (.iadd, 1) := by decide +kernel
theorem dL_law_485 : decode cL_law 485 = .ok (.iload 15, 2) := by decide +kernel
theorem dL_law_487 : decode cL_law 487 = .ok (.invokevirtual 219, 3) := by decide +kernel
theorem dL_law_490 : decode cL_law 490 = .ok (.aload_n 1, 1) := by decide +kernel
theorem dL_law_491 : decode cL_law 491 = .ok (.iload 14, 2) := by decide +kernel
theorem dL_law_493 : decode cL_law 493 = .ok (.iload 15, 2) := by decide +kernel
theorem dL_law_495 : decode cL_law 495 = .ok (.invokevirtual 219, 3) := by decide +kernel
theorem dL_law_498 : decode cL_law 498 = .ok (.if_icmp .le 20, 3) := by decide +kernel
theorem dL_law_501 : decode cL_law 501 = .ok (.aload_n 1, 1) := by decide +kernel
theorem dL_law_502 : decode cL_law 502 = .ok (.iload 15, 2) := by decide +kernel
theorem dL_law_504 : decode cL_law 504 = .ok (.iconst 1, 1) := by decide +kernel
theorem dL_law_505 : decode cL_law 505 = .ok (.iadd, 1) := by decide +kernel
theorem dL_law_506 : decode cL_law 506 = .ok (.invokevirtual 181, 3) := by decide +kernel
theorem dL_law_509 : decode cL_law 509 = .ok (.aload_n 1, 1) := by decide +kernel
theorem dL_law_510 : decode cL_law 510 = .ok (.iload 15, 2) := by decide +kernel
theorem dL_law_512 : decode cL_law 512 = .ok (.invokevirtual 181, 3) := by decide +kernel
theorem dL_law_515 : decode cL_law 515 = .ok (.if_icmp .le 5, 3) := by decide +kernel
theorem dL_law_518 : decode cL_law 518 = .ok (.iconst 0, 1) := by decide +kernel
theorem dL_law_519 : decode cL_law 519 = .ok (.ireturn, 1) := by decide +kernel
theorem dL_law_520 : decode cL_law 520 = .ok (.aload 4, 2) := by decide +kernel
theorem dL_law_522 : decode cL_law 522 = .ok (.aload_n 1, 1) := by decide +kernel
theorem dL_law_523 : decode cL_law 523 = .ok (.invokevirtual 222, 3) := by decide +kernel
theorem dL_law_526 : decode cL_law 526 = .ok (.invokevirtual 51, 3) := by decide +kernel
theorem dL_law_529 : decode cL_law 529 = .ok (.istore 16, 2) := by decide +kernel
theorem dL_law_531 : decode cL_law 531 = .ok (.aload_n 1, 1) := by decide +kernel
theorem dL_law_532 : decode cL_law 532 = .ok (.iload 16, 2) := by decide +kernel
theorem dL_law_534 : decode cL_law 534 = .ok (.invokevirtual 224, 3) := by decide +kernel
theorem dL_law_537 : decode cL_law 537 = .ok (.istore 17, 2) := by decide +kernel
theorem dL_law_539 : decode cL_law 539 = .ok (.aload_n 1, 1) := by decide +kernel
theorem dL_law_540 : decode cL_law 540 = .ok (.iload 16, 2) := by decide +kernel
theorem dL_law_542 : decode cL_law 542 = .ok (.invokevirtual 227, 3) := by decide +kernel
theorem dL_law_545 : decode cL_law 545 = .ok (.istore 18, 2) := by decide +kernel
theorem dL_law_547 : decode cL_law 547 = .ok (.aload_n 1, 1) := by decide +kernel
theorem dL_law_548 : decode cL_law 548 = .ok (.iload 16, 2) := by decide +kernel
theorem dL_law_550 : decode cL_law 550 = .ok (.invokevirtual 230, 3) := by decide +kernel
theorem dL_law_553 : decode cL_law 553 = .ok (.istore 19, 2) := by decide +kernel
theorem dL_law_555 : decode cL_law 555 = .ok (.aload_n 1, 1) := by decide +kernel
theorem dL_law_556 : decode cL_law 556 = .ok (.iload 16, 2) := by decide +kernel
theorem dL_law_558 : decode cL_law 558 = .ok (.invokevirtual 233, 3) := by decide +kernel
theorem dL_law_561 : decode cL_law 561 = .ok (.istore 20, 2) := by decide +kernel
theorem dL_law_563 : decode cL_law 563 = .ok (.aload_n 1, 1) := by decide +kernel
theorem dL_law_564 : decode cL_law 564 = .ok (.iload 16, 2) := by decide +kernel
theorem dL_law_566 : decode cL_law 566 = .ok (.invokevirtual 236, 3) := by decide +kernel
theorem dL_law_569 : decode cL_law 569 = .ok (.istore 21, 2) := by decide +kernel
theorem dL_law_571 : decode cL_law 571 = .ok (.iload 7, 2) := by decide +kernel
theorem dL_law_573 : decode cL_law 573 = .ok (.newarray .int, 2) := by decide +kernel
theorem dL_law_575 : decode cL_law 575 = .ok (.astore 22, 2) := by decide +kernel
theorem dL_law_577 : decode cL_law 577 = .ok (.iconst 0, 1) := by decide +kernel
theorem dL_law_578 : decode cL_law 578 = .ok (.istore 23, 2) := by decide +kernel
theorem dL_law_580 : decode cL_law 580 = .ok (.iload 23, 2) := by decide +kernel
theorem dL_law_582 : decode cL_law 582 = .ok (.iload 7, 2) := by decide +kernel
theorem dL_law_584 : decode cL_law 584 = .ok (.if_icmp .ge 22, 3) := by decide +kernel
theorem dL_law_587 : decode cL_law 587 = .ok (.aload 22, 2) := by decide +kernel
theorem dL_law_589 : decode cL_law 589 = .ok (.iload 23, 2) := by decide +kernel
theorem dL_law_591 : decode cL_law 591 = .ok (.aload_n 1, 1) := by decide +kernel
theorem dL_law_592 : decode cL_law 592 = .ok (.iload 16, 2) := by decide +kernel
theorem dL_law_594 : decode cL_law 594 = .ok (.iload 23, 2) := by decide +kernel
theorem dL_law_596 : decode cL_law 596 = .ok (.invokevirtual 239, 3) := by decide +kernel
theorem dL_law_599 : decode cL_law 599 = .ok (.iastore, 1) := by decide +kernel
theorem dL_law_600 : decode cL_law 600 = .ok (.iinc 23 1, 3) := by decide +kernel
theorem dL_law_603 : decode cL_law 603 = .ok (.goto (-23), 3) := by decide +kernel
theorem dL_law_606 : decode cL_law 606 = .ok (.aload_n 1, 1) := by decide +kernel
theorem dL_law_607 : decode cL_law 607 = .ok (.invokevirtual 166, 3) := by decide +kernel
theorem dL_law_610 : decode cL_law 610 = .ok (.lload 9, 2) := by decide +kernel
theorem dL_law_612 : decode cL_law 612 = .ok (.lcmp, 1) := by decide +kernel
theorem dL_law_613 : decode cL_law 613 = .ok (.ifCond .ne 55, 3) := by decide +kernel
theorem dL_law_616 : decode cL_law 616 = .ok (.iload 17, 2) := by decide +kernel
theorem dL_law_618 : decode cL_law 618 = .ok (.ifCond .lt 50, 3) := by decide +kernel
theorem dL_law_621 : decode cL_law 621 = .ok (.iload 18, 2) := by decide +kernel
theorem dL_law_623 : decode cL_law 623 = .ok (.ifCond .lt 45, 3) := by decide +kernel
theorem dL_law_626 : decode cL_law 626 = .ok (.iload 18, 2) := by decide +kernel
theorem dL_law_628 : decode cL_law 628 = .ok (.bipush 100, 2) := by decide +kernel
theorem dL_law_630 : decode cL_law 630 = .ok (.if_icmp .gt 38, 3) := by decide +kernel
theorem dL_law_633 : decode cL_law 633 = .ok (.iload 19, 2) := by decide +kernel
theorem dL_law_635 : decode cL_law 635 = .ok (.ifCond .ge 7, 3) := by decide +kernel
theorem dL_law_638 : decode cL_law 638 = .ok (.iconst 1, 1) := by decide +kernel
theorem dL_law_639 : decode cL_law 639 = .ok (.goto 4, 3) := by decide +kernel
theorem dL_law_642 : decode cL_law 642 = .ok (.iconst 0, 1) := by decide +kernel
theorem dL_law_643 : decode cL_law 643 = .ok (.iload 18, 2) := by decide +kernel
theorem dL_law_645 : decode cL_law 645 = .ok (.ifCond .ne 7, 3) := by decide +kernel
theorem dL_law_648 : decode cL_law 648 = .ok (.iconst 1, 1) := by decide +kernel
theorem dL_law_649 : decode cL_law 649 = .ok (.goto 4, 3) := by decide +kernel
theorem dL_law_652 : decode cL_law 652 = .ok (.iconst 0, 1) := by decide +kernel
theorem dL_law_653 : decode cL_law 653 = .ok (.if_icmp .ne 15, 3) := by decide +kernel
theorem dL_law_656 : decode cL_law 656 = .ok (.iload 19, 2) := by decide +kernel
theorem dL_law_658 : decode cL_law 658 = .ok (.ifCond .eq 10, 3) := by decide +kernel
theorem dL_law_661 : decode cL_law 661 = .ok (.iload 19, 2) := by decide +kernel
theorem dL_law_663 : decode cL_law 663 = .ok (.bipush 100, 2) := by decide +kernel
theorem dL_law_665 : decode cL_law 665 = .ok (.if_icmp .le 5, 3) := by decide +kernel
theorem dL_law_668 : decode cL_law 668 = .ok (.iconst 0, 1) := by decide +kernel
theorem dL_law_669 : decode cL_law 669 = .ok (.ireturn, 1) := by decide +kernel
theorem dL_law_670 : decode cL_law 670 = .ok (.aload_n 1, 1) := by decide +kernel
theorem dL_law_671 : decode cL_law 671 = .ok (.invokevirtual 173, 3) := by decide +kernel
theorem dL_law_674 : decode cL_law 674 = .ok (.istore 23, 2) := by decide +kernel
theorem dL_law_676 : decode cL_law 676 = .ok (.aload_n 1, 1) := by decide +kernel
theorem dL_law_677 : decode cL_law 677 = .ok (.iconst 1, 1) := by decide +kernel
theorem dL_law_678 : decode cL_law 678 = .ok (.invokevirtual 170, 3) := by decide +kernel
theorem dL_law_681 : decode cL_law 681 = .ok (.istore 24, 2) := by decide +kernel
theorem dL_law_683 : decode cL_law 683 = .ok (.aload_n 1, 1) := by decide +kernel
theorem dL_law_684 : decode cL_law 684 = .ok (.invokevirtual 242, 3) := by decide +kernel
theorem dL_law_687 : decode cL_law 687 = .ok (.istore 25, 2) := by decide +kernel
theorem dL_law_689 : decode cL_law 689 = .ok (.aload_n 1, 1) := by decide +kernel
theorem dL_law_690 : decode cL_law 690 = .ok (.invokevirtual 179, 3) := by decide +kernel
theorem dL_law_693 : decode cL_law 693 = .ok (.istore 26, 2) := by decide +kernel
theorem dL_law_695 : decode cL_law 695 = .ok (.aload_n 1, 1) := by decide +kernel
theorem dL_law_696 : decode cL_law 696 = .ok (.invokevirtual 245, 3) := by decide +kernel
theorem dL_law_699 : decode cL_law 699 = .ok (.istore 27, 2) := by decide +kernel
theorem dL_law_701 : decode cL_law 701 = .ok (.aload 4, 2) := by decide +kernel
theorem dL_law_703 : decode cL_law 703 = .ok (.iconst 4, 1) := by decide +kernel
theorem dL_law_704 : decode cL_law 704 = .ok (.invokevirtual 51, 3) := by decide +kernel
theorem dL_law_707 : decode cL_law 707 = .ok (.istore 28, 2) := by decide +kernel
theorem dL_law_709 : decode cL_law 709 = .ok (.iload 28, 2) := by decide +kernel
theorem dL_law_711 : decode cL_law 711 = .ok (.ifCond .ne 66, 3) := by decide +kernel
theorem dL_law_714 : decode cL_law 714 = .ok (.iload 20, 2) := by decide +kernel
theorem dL_law_716 : decode cL_law 716 = .ok (.ifCond .lt 61, 3) := by decide +kernel
theorem dL_law_719 : decode cL_law 719 = .ok (.aload_n 1, 1) := by decide +kernel
theorem dL_law_720 : decode cL_law 720 = .ok (.iload 20, 2) := by decide +kernel
theorem dL_law_722 : decode cL_law 722 = .ok (.invokevirtual 105, 3) := by decide +kernel
theorem dL_law_725 : decode cL_law 725 = .ok (.iload 26, 2) := by decide +kernel
theorem dL_law_727 : decode cL_law 727 = .ok (.if_icmp .ne 30, 3) := by decide +kernel
theorem dL_law_730 : decode cL_law 730 = .ok (.aload_n 1, 1) := by decide +kernel
theorem dL_law_731 : decode cL_law 731 = .ok (.iload 16, 2) := by decide +kernel
theorem dL_law_733 : decode cL_law 733 = .ok (.invokevirtual 227, 3) := by decide +kernel
theorem dL_law_736 : decode cL_law 736 = .ok (.ifCond .ne 21, 3) := by decide +kernel
theorem dL_law_739 : decode cL_law 739 = .ok (.aload_n 1, 1) := by decide +kernel
theorem dL_law_740 : decode cL_law 740 = .ok (.iload 16, 2) := by decide +kernel
theorem dL_law_742 : decode cL_law 742 = .ok (.invokevirtual 141, 3) := by decide +kernel
theorem dL_law_745 : decode cL_law 745 = .ok (.ifCond .lt 12, 3) := by decide +kernel
theorem dL_law_748 : decode cL_law 748 = .ok (.aload_n 1, 1) := by decide +kernel
theorem dL_law_749 : decode cL_law 749 = .ok (.invokevirtual 173, 3) := by decide +kernel
theorem dL_law_752 : decode cL_law 752 = .ok (.iload 23, 2) := by decide +kernel
theorem dL_law_754 : decode cL_law 754 = .ok (.if_icmp .eq 5, 3) := by decide +kernel
theorem dL_law_757 : decode cL_law 757 = .ok (.iconst 0, 1) := by decide +kernel
theorem dL_law_758 : decode cL_law 758 = .ok (.ireturn, 1) := by decide +kernel
theorem dL_law_759 : decode cL_law 759 = .ok (.aload 6, 2) := by decide +kernel
theorem dL_law_761 : decode cL_law 761 = .ok (.iload 20, 2) := by decide +kernel
theorem dL_law_763 : decode cL_law 763 = .ok (.invokevirtual 101, 3) := by decide +kernel
theorem dL_law_766 : decode cL_law 766 = .ok (.aload 6, 2) := by decide +kernel
theorem dL_law_768 : decode cL_law 768 = .ok (.iload 16, 2) := by decide +kernel
theorem dL_law_770 : decode cL_law 770 = .ok (.invokevirtual 144, 3) := by decide +kernel
theorem dL_law_773 : decode cL_law 773 = .ok (.pop, 1) := by decide +kernel
theorem dL_law_774 : decode cL_law 774 = .ok (.goto 316, 3) := by decide +kernel
theorem dL_law_777 : decode cL_law 777 = .ok (.iload 28, 2) := by decide +kernel
theorem dL_law_779 : decode cL_law 779 = .ok (.iconst 1, 1) := by decide +kernel
theorem dL_law_780 : decode cL_law 780 = .ok (.if_icmp .ne 58, 3) := by decide +kernel
theorem dL_law_783 : decode cL_law 783 = .ok (.iload 21, 2) := by decide +kernel
theorem dL_law_785 : decode cL_law 785 = .ok (.ifCond .le 53, 3) := by decide +kernel
theorem dL_law_788 : decode cL_law 788 = .ok (.aload_n 1, 1) := by decide +kernel
theorem dL_law_789 : decode cL_law 789 = .ok (.iload 21, 2) := by decide +kernel
theorem dL_law_791 : decode cL_law 791 = .ok (.invokevirtual 111, 3) := by decide +kernel
theorem dL_law_794 : decode cL_law 794 = .ok (.iload 27, 2) := by decide +kernel
theorem dL_law_796 : decode cL_law 796 = .ok (.if_icmp .ne 22, 3) := by decide +kernel
theorem dL_law_799 : decode cL_law 799 = .ok (.aload_n 1, 1) := by decide +kernel
theorem dL_law_800 : decode cL_law 800 = .ok (.iload 16, 2) := by decide +kernel
theorem dL_law_802 : decode cL_law 802 = .ok (.invokevirtual 141, 3) := by decide +kernel
theorem dL_law_805 : decode cL_law 805 = .ok (.ifCond .lt 13, 3) := by decide +kernel
theorem dL_law_808 : decode cL_law 808 = .ok (.aload_n 1, 1) := by decide +kernel
theorem dL_law_809 : decode cL_law 809 = .ok (.iconst 1, 1) := by decide +kernel
theorem dL_law_810 : decode cL_law 810 = .ok (.invokevirtual 170, 3) := by decide +kernel
theorem dL_law_813 : decode cL_law 813 = .ok (.iload 24, 2) := by decide +kernel
