/-! the law's calls: the words of what is called -/
set_option maxRecDepth 20000 in
theorem ggL_law_L_waterIn : GoodIn wsL_law wsL_waterIn := goodIn_ca (goodIn_r _ [770, 748, 771, 772, 773, 2, 774, 753, 754, 755, 756, 757, 758, 24, 759, 436, 437, 23, 438, 79, 71, 1427, 1428, 1429, 1430, 1431, 1364, 1365, 1366, 1367, 1368, 1369, 1370, 1400, 1401, 1402, 1403, 1404, 1405, 1406, 1407, 1408, 1418, 1419, 1420, 1421, 1422, 1423, 1424] (by decide +kernel) (by decide +kernel)) (goodIn_sub (fun _ h => List.mem_append_right _ h) (by decide +kernel))
set_option maxRecDepth 20000 in
theorem gL_law_L_waterIn : GoodIn wsL_law (va_wsS RL 163 yL_waterIn wsL_waterIn) := goodIn_app (goodIn_of _ (by decide +kernel)) ggL_law_L_waterIn
set_option maxRecDepth 20000 in
theorem ggL_law_X14_waterIn : GoodIn wsL_law wsX14_waterIn := goodIn_r _ [778, 779, 780, 781, 5, 782, 163, 115, 764, 765, 766, 767, 113, 190, 191, 192, 140, 141, 142, 165, 166, 167, 168, 1371, 1372, 1373, 1374, 1375, 1376, 1377, 1378, 1379, 1380, 1381, 1382, 1383, 1384, 1385, 1386, 1387, 1388, 1389, 1390, 1391, 1392, 1393, 1432, 1433, 1434, 1435, 1436, 1437, 1438, 1439, 1440, 1441, 1442, 1443, 1444, 1445, 1446, 1447, 1448, 1449, 1450, 1451, 1452] (by decide +kernel) (by decide +kernel)
set_option maxRecDepth 20000 in
theorem gL_law_X14_waterIn : GoodIn wsL_law (wsV RL 165 RX14 yX14_waterIn wsX14_waterIn) := goodIn_app (goodIn_of _ (by decide +kernel)) ggL_law_X14_waterIn
set_option maxRecDepth 20000 in
theorem ggL_law_L_mealIn : GoodIn wsL_law wsL_mealIn := goodIn_ca (goodIn_r _ [785, 748, 786, 787, 788, 2, 789, 753, 754, 755, 756, 757, 758, 24, 759, 436, 437, 23, 438, 79, 71, 1427, 1428, 1429, 1430, 1431, 1364, 1365, 1366, 1367, 1368, 1369, 1370, 1400, 1401, 1402, 1403, 1404, 1405, 1406, 1407, 1408, 1418, 1419, 1420, 1421, 1422, 1423, 1424] (by decide +kernel) (by decide +kernel)) (goodIn_sub (fun _ h => List.mem_append_right _ h) (by decide +kernel))
set_option maxRecDepth 20000 in
theorem gL_law_L_mealIn : GoodIn wsL_law (va_wsS RL 166 yL_mealIn wsL_mealIn) := goodIn_app (goodIn_of _ (by decide +kernel)) ggL_law_L_mealIn
set_option maxRecDepth 20000 in
theorem ggL_law_X14_mealIn : GoodIn wsL_law wsX14_mealIn := goodIn_r _ [793, 779, 780, 781, 5, 782, 163, 115, 764, 765, 766, 767, 113, 190, 191, 192, 140, 141, 142, 165, 166, 167, 168, 1371, 1372, 1373, 1374, 1375, 1376, 1377, 1378, 1379, 1380, 1381, 1382, 1383, 1384, 1385, 1386, 1387, 1388, 1389, 1390, 1391, 1392, 1393, 1432, 1433, 1434, 1435, 1436, 1437, 1438, 1439, 1440, 1441, 1442, 1443, 1444, 1445, 1446, 1447, 1448, 1449, 1450, 1451, 1452] (by decide +kernel) (by decide +kernel)
set_option maxRecDepth 20000 in
theorem gL_law_X14_mealIn : GoodIn wsL_law (wsV RL 168 RX14 yX14_mealIn wsX14_mealIn) := goodIn_app (goodIn_of _ (by decide +kernel)) ggL_law_X14_mealIn
set_option maxRecDepth 20000 in
theorem ggL_law_L_heatOf : GoodIn wsL_law wsL_heatOf := goodIn_ca (goodIn_r _ [796, 748, 797, 798, 799, 2, 800, 753, 754, 755, 756, 757, 758, 24, 759, 436, 437, 23, 438, 79, 71, 1427, 1428, 1429, 1430, 1431, 1364, 1365, 1366, 1367, 1368, 1369, 1370, 1400, 1401, 1402, 1403, 1404, 1405, 1406, 1407, 1408, 1418, 1419, 1420, 1421, 1422, 1423, 1424] (by decide +kernel) (by decide +kernel)) (goodIn_sub (fun _ h => List.mem_append_right _ h) (by decide +kernel))
set_option maxRecDepth 20000 in
theorem gL_law_L_heatOf : GoodIn wsL_law (va_wsS RL 169 yL_heatOf wsL_heatOf) := goodIn_app (goodIn_of _ (by decide +kernel)) ggL_law_L_heatOf
set_option maxRecDepth 20000 in
theorem ggL_law_X14_heatOf : GoodIn wsL_law wsX14_heatOf := goodIn_r _ [804, 779, 780, 781, 5, 782, 163, 115, 764, 765, 766, 767, 113, 190, 191, 192, 140, 141, 142, 165, 166, 167, 168, 1371, 1372, 1373, 1374, 1375, 1376, 1377, 1378, 1379, 1380, 1381, 1382, 1383, 1384, 1385, 1386, 1387, 1388, 1389, 1390, 1391, 1392, 1393, 1432, 1433, 1434, 1435, 1436, 1437, 1438, 1439, 1440, 1441, 1442, 1443, 1444, 1445, 1446, 1447, 1448, 1449, 1450, 1451, 1452] (by decide +kernel) (by decide +kernel)
set_option maxRecDepth 20000 in
theorem gL_law_X14_heatOf : GoodIn wsL_law (wsV RL 171 RX14 yX14_heatOf wsX14_heatOf) := goodIn_app (goodIn_of _ (by decide +kernel)) ggL_law_X14_heatOf
set_option maxRecDepth 20000 in
theorem ggL_law_L_doneIn : GoodIn wsL_law wsL_doneIn := goodIn_ca (goodIn_r _ [807, 748, 808, 809, 810, 2, 811, 753, 754, 755, 756, 757, 758, 24, 759, 436, 437, 23, 438, 79, 71, 1427, 1428, 1429, 1430, 1431, 1364, 1365, 1366, 1367, 1368, 1369, 1370, 1400, 1401, 1402, 1403, 1404, 1405, 1406, 1407, 1408, 1418, 1419, 1420, 1421, 1422, 1423, 1424] (by decide +kernel) (by decide +kernel)) (goodIn_sub (fun _ h => List.mem_append_right _ h) (by decide +kernel))
set_option maxRecDepth 20000 in
theorem gL_law_L_doneIn : GoodIn wsL_law (va_wsS RL 172 yL_doneIn wsL_doneIn) := goodIn_app (goodIn_of _ (by decide +kernel)) ggL_law_L_doneIn
set_option maxRecDepth 20000 in
theorem ggL_law_X14_doneIn : GoodIn wsL_law wsX14_doneIn := goodIn_r _ [815, 779, 780, 781, 5, 782, 163, 115, 764, 765, 766, 767, 113, 190, 191, 192, 140, 141, 142, 165, 166, 167, 168, 1371, 1372, 1373, 1374, 1375, 1376, 1377, 1378, 1379, 1380, 1381, 1382, 1383, 1384, 1385, 1386, 1387, 1388, 1389, 1390, 1391, 1392, 1393, 1432, 1433, 1434, 1435, 1436, 1437, 1438, 1439, 1440, 1441, 1442, 1443, 1444, 1445, 1446, 1447, 1448, 1449, 1450, 1451, 1452] (by decide +kernel) (by decide +kernel)
set_option maxRecDepth 20000 in
theorem gL_law_X14_doneIn : GoodIn wsL_law (wsV RL 174 RX14 yX14_doneIn wsX14_doneIn) := goodIn_app (goodIn_of _ (by decide +kernel)) ggL_law_X14_doneIn
set_option maxRecDepth 20000 in
theorem ggL_law_L_roomIn : GoodIn wsL_law wsL_roomIn := goodIn_ca (goodIn_r _ [818, 748, 819, 820, 821, 2, 822, 753, 754, 755, 756, 757, 758, 24, 759, 436, 437, 23, 438, 79, 71, 823, 824, 825, 83, 826, 827, 443, 444, 1364, 1365, 1366, 1367, 1368, 1369, 1370, 1400, 1401, 1402, 1403, 1404, 1405, 1406, 1407, 1408, 1418, 1419, 1420, 1421, 1422, 1423, 1424, 1427, 1428, 1429, 1430, 1431] (by decide +kernel) (by decide +kernel)) (goodIn_sub (fun _ h => List.mem_append_right _ h) (by decide +kernel))
set_option maxRecDepth 20000 in
theorem gL_law_L_roomIn : GoodIn wsL_law (va_wsS RL 175 yL_roomIn wsL_roomIn) := goodIn_app (goodIn_of _ (by decide +kernel)) ggL_law_L_roomIn
set_option maxRecDepth 20000 in
theorem ggL_law_X14_roomIn : GoodIn wsL_law wsX14_roomIn := goodIn_r _ [831, 163, 764, 765, 766, 5, 767, 113, 190, 191, 192, 832, 833, 834, 835, 836, 837, 838, 839, 115, 140, 141, 142, 165, 166, 167, 168, 1371, 1372, 1373, 1374, 1375, 1376, 1377, 1378, 1379, 1380, 1381, 1382, 1383, 1384, 1385, 1386, 1387, 1388, 1389, 1390, 1391, 1392, 1393, 1432, 1433, 1434, 1435, 1436, 1437, 1438, 1439, 1440, 1441, 1442, 1443, 1444, 1445, 1446, 1447, 1448, 1449, 1450, 1451, 1452] (by decide +kernel) (by decide +kernel)
set_option maxRecDepth 20000 in
theorem gL_law_X14_roomIn : GoodIn wsL_law (wsV RL 177 RX14 yX14_roomIn wsX14_roomIn) := goodIn_app (goodIn_of _ (by decide +kernel)) ggL_law_X14_roomIn
set_option maxRecDepth 20000 in
theorem ggL_law_L_boilingAt : GoodIn wsL_law wsL_boilingAt := goodIn_ca (goodIn_r _ [842, 176, 843, 844, 845, 2, 846, 181, 182, 183, 184, 185, 847, 708, 23, 709] (by decide +kernel) (by decide +kernel)) (goodIn_sub (fun _ h => List.mem_append_left _ (List.mem_append_right _ h)) (by decide +kernel))
set_option maxRecDepth 20000 in
theorem gL_law_L_boilingAt : GoodIn wsL_law (va_wsS RL 178 yL_boilingAt wsL_boilingAt) := goodIn_app (goodIn_of _ (by decide +kernel)) ggL_law_L_boilingAt
set_option maxRecDepth 20000 in
theorem ggL_law_X14_boilingAt : GoodIn wsL_law wsX14_boilingAt := goodIn_r _ [851, 163, 852, 853, 5, 854, 190, 191, 192, 718, 719, 720, 165, 166, 167, 168, 1371, 1372, 1373, 1374, 1375, 1376, 1377, 1378, 1379, 1380, 1381, 1382, 1383, 1384, 1385, 1386, 1387, 1388, 1389, 1390, 1391, 1392, 1393] (by decide +kernel) (by decide +kernel)
set_option maxRecDepth 20000 in
theorem gL_law_X14_boilingAt : GoodIn wsL_law (wsV RL 180 RX14 yX14_boilingAt wsX14_boilingAt) := goodIn_app (goodIn_of _ (by decide +kernel)) ggL_law_X14_boilingAt
set_option maxRecDepth 20000 in
theorem ggL_law_L_minutesAt : GoodIn wsL_law wsL_minutesAt := goodIn_ca (goodIn_r _ [857, 176, 858, 859, 860, 2, 861, 181, 182, 183, 184, 185, 862, 863, 23, 864, 865, 866, 867, 707, 708, 709] (by decide +kernel) (by decide +kernel)) (goodIn_sub (fun _ h => List.mem_append_left _ (List.mem_append_right _ h)) (by decide +kernel))
set_option maxRecDepth 20000 in
theorem gL_law_L_minutesAt : GoodIn wsL_law (va_wsS RL 181 yL_minutesAt wsL_minutesAt) := goodIn_app (goodIn_of _ (by decide +kernel)) ggL_law_L_minutesAt
set_option maxRecDepth 20000 in
theorem ggL_law_X14_minutesAt : GoodIn wsL_law wsX14_minutesAt := goodIn_r _ [871, 163, 190, 191, 5, 192, 852, 853, 854, 872, 873, 874, 875, 876, 877, 718, 719, 720, 165, 166, 167, 168, 1371, 1372, 1373, 1374, 1375, 1376, 1377, 1378, 1379, 1380, 1381, 1382, 1383, 1384, 1385, 1386, 1387, 1388, 1389, 1390, 1391, 1392, 1393] (by decide +kernel) (by decide +kernel)
set_option maxRecDepth 20000 in
theorem gL_law_X14_minutesAt : GoodIn wsL_law (wsV RL 184 RX14 yX14_minutesAt wsX14_minutesAt) := goodIn_app (goodIn_of _ (by decide +kernel)) ggL_law_X14_minutesAt
set_option maxRecDepth 20000 in
theorem ggL_law_L_amountFor : GoodIn wsL_law wsL_amountFor := goodIn_ca (goodIn_r _ [880, 176, 881, 882, 883, 2, 884, 24, 181, 182, 183, 184, 185, 885, 886, 887, 23, 888, 80, 81, 889, 890, 891, 558, 559, 560, 892, 632, 633, 893, 894, 1364, 1365, 1366, 1367, 1368, 1369, 1370, 1400, 1401, 1402, 1403, 1404, 1405, 1406, 1407, 1408] (by decide +kernel) (by decide +kernel)) (goodIn_sub (fun _ h => List.mem_append_left _ (List.mem_append_right _ h)) (by decide +kernel))
set_option maxRecDepth 20000 in
theorem gL_law_L_amountFor : GoodIn wsL_law (va_wsS RL 185 yL_amountFor wsL_amountFor) := goodIn_app (goodIn_of _ (by decide +kernel)) ggL_law_L_amountFor
set_option maxRecDepth 20000 in
theorem ggL_law_X14_amountFor : GoodIn wsL_law wsX14_amountFor := goodIn_r _ [898, 163, 190, 191, 5, 192, 899, 900, 901, 902, 115, 903, 904, 905, 557, 558, 559, 560, 631, 632, 633, 165, 166, 167, 168, 1371, 1372, 1373, 1374, 1375, 1376, 1377, 1378, 1379, 1380, 1381, 1382, 1383, 1384, 1385, 1386, 1387, 1388, 1389, 1390, 1391, 1392, 1393] (by decide +kernel) (by decide +kernel)
set_option maxRecDepth 20000 in
theorem gL_law_X14_amountFor : GoodIn wsL_law (wsV RL 187 RX14 yX14_amountFor wsX14_amountFor) := goodIn_app (goodIn_of _ (by decide +kernel)) ggL_law_X14_amountFor
set_option maxRecDepth 20000 in
theorem ggL_law_X12_warnings : GoodIn wsL_law wsX12_warnings := goodIn_r _ [909, 24, 1364, 1365, 1366, 1367, 1368, 1369, 1370, 1400, 1401, 1402, 1403, 1404, 1405, 1406, 1407, 1408, 1425, 1426] (by decide +kernel) (by decide +kernel)
set_option maxRecDepth 20000 in
theorem gL_law_X12_warnings : GoodIn wsL_law (wsV RL 188 RX12 yX12_warnings wsX12_warnings) := goodIn_app (goodIn_of _ (by decide +kernel)) ggL_law_X12_warnings
set_option maxRecDepth 20000 in
theorem ggL_law_X14_warnings : GoodIn wsL_law wsX14_warnings := goodIn_r _ [913, 115, 663, 664, 665, 5, 666, 163, 1371, 1372, 1373, 1374, 1375, 1376, 1377, 1378, 1379, 1380, 1381, 1382, 1383, 1384, 1385, 1386, 1387, 1388, 1389, 1390, 1391, 1392, 1393] (by decide +kernel) (by decide +kernel)
set_option maxRecDepth 20000 in
theorem gL_law_X14_warnings : GoodIn wsL_law (wsV RL 191 RX14 yX14_warnings wsX14_warnings) := goodIn_app (goodIn_of _ (by decide +kernel)) ggL_law_X14_warnings
set_option maxRecDepth 20000 in
theorem ggL_law_L_warningsOf : GoodIn wsL_law wsL_warningsOf := goodIn_ca (goodIn_r _ [916, 176, 917, 918, 919, 2, 920, 24, 181, 182, 183, 184, 185, 921, 922, 923, 23, 924, 77, 1364, 1365, 1366, 1367, 1368, 1369, 1370, 1400, 1401, 1402, 1403, 1404, 1405, 1406, 1407, 1408] (by decide +kernel) (by decide +kernel)) (goodIn_sub (fun _ h => List.mem_append_left _ (List.mem_append_right _ h)) (by decide +kernel))
set_option maxRecDepth 20000 in
theorem gL_law_L_warningsOf : GoodIn wsL_law (va_wsS RL 192 yL_warningsOf wsL_warningsOf) := goodIn_app (goodIn_of _ (by decide +kernel)) ggL_law_L_warningsOf
set_option maxRecDepth 20000 in
theorem ggL_law_X14_warningsOf : GoodIn wsL_law wsX14_warningsOf := goodIn_r _ [928, 163, 115, 190, 191, 5, 192, 165, 166, 167, 168, 1371, 1372, 1373, 1374, 1375, 1376, 1377, 1378, 1379, 1380, 1381, 1382, 1383, 1384, 1385, 1386, 1387, 1388, 1389, 1390, 1391, 1392, 1393] (by decide +kernel) (by decide +kernel)
set_option maxRecDepth 20000 in
theorem gL_law_X14_warningsOf : GoodIn wsL_law (wsV RL 194 RX14 yX14_warningsOf wsX14_warningsOf) := goodIn_app (goodIn_of _ (by decide +kernel)) ggL_law_X14_warningsOf
set_option maxRecDepth 20000 in
theorem ggL_law_L_warningAt : GoodIn wsL_law wsL_warningAt := goodIn_ca (goodIn_r _ [931, 748, 932, 933, 934, 2, 935, 24, 936, 937, 938, 74, 939, 434, 940, 558, 559, 560, 941, 942, 943, 757, 758, 944, 945, 946, 947, 87, 948, 949, 950, 951, 1364, 1365, 1366, 1367, 1368, 1369, 1370, 1400, 1401, 1402, 1403, 1404, 1405, 1406, 1407, 1408, 1425, 1426] (by decide +kernel) (by decide +kernel)) (goodIn_sub (fun _ h => List.mem_append_right _ h) (by decide +kernel))
set_option maxRecDepth 20000 in
theorem gL_law_L_warningAt : GoodIn wsL_law (va_wsS RL 195 yL_warningAt wsL_warningAt) := goodIn_app (goodIn_of _ (by decide +kernel)) ggL_law_L_warningAt
set_option maxRecDepth 20000 in
theorem ggL_law_X14_warningAt : GoodIn wsL_law wsX14_warningAt := goodIn_r _ [955, 115, 956, 957, 958, 5, 959, 163, 557, 558, 559, 560, 190, 191, 192, 165, 166, 167, 168, 1371, 1372, 1373, 1374, 1375, 1376, 1377, 1378, 1379, 1380, 1381, 1382, 1383, 1384, 1385, 1386, 1387, 1388, 1389, 1390, 1391, 1392, 1393] (by decide +kernel) (by decide +kernel)
set_option maxRecDepth 20000 in
theorem gL_law_X14_warningAt : GoodIn wsL_law (wsV RL 197 RX14 yX14_warningAt wsX14_warningAt) := goodIn_app (goodIn_of _ (by decide +kernel)) ggL_law_X14_warningAt
set_option maxRecDepth 20000 in
theorem ggL_law_X12_notes : GoodIn wsL_law wsX12_notes := goodIn_r _ [963, 24, 1364, 1365, 1366, 1367, 1368, 1369, 1370, 1400, 1401, 1402, 1403, 1404, 1405, 1406, 1407, 1408, 1425, 1426] (by decide +kernel) (by decide +kernel)
set_option maxRecDepth 20000 in
theorem gL_law_X12_notes : GoodIn wsL_law (wsV RL 198 RX12 yX12_notes wsX12_notes) := goodIn_app (goodIn_of _ (by decide +kernel)) ggL_law_X12_notes
set_option maxRecDepth 20000 in
theorem ggL_law_X14_notes : GoodIn wsL_law wsX14_notes := goodIn_r _ [967, 115, 663, 664, 665, 5, 666, 163, 1371, 1372, 1373, 1374, 1375, 1376, 1377, 1378, 1379, 1380, 1381, 1382, 1383, 1384, 1385, 1386, 1387, 1388, 1389, 1390, 1391, 1392, 1393] (by decide +kernel) (by decide +kernel)
set_option maxRecDepth 20000 in
theorem gL_law_X14_notes : GoodIn wsL_law (wsV RL 201 RX14 yX14_notes wsX14_notes) := goodIn_app (goodIn_of _ (by decide +kernel)) ggL_law_X14_notes
set_option maxRecDepth 20000 in
theorem ggL_law_L_noteAt : GoodIn wsL_law wsL_noteAt := goodIn_ca (goodIn_r _ [970, 748, 971, 972, 973, 2, 974, 24, 936, 937, 938, 74, 939, 434, 940, 558, 559, 560, 941, 942, 943, 757, 758, 944, 945, 946, 947, 87, 948, 949, 950, 951, 1364, 1365, 1366, 1367, 1368, 1369, 1370, 1400, 1401, 1402, 1403, 1404, 1405, 1406, 1407, 1408, 1425, 1426] (by decide +kernel) (by decide +kernel)) (goodIn_sub (fun _ h => List.mem_append_right _ h) (by decide +kernel))
set_option maxRecDepth 20000 in
theorem gL_law_L_noteAt : GoodIn wsL_law (va_wsS RL 202 yL_noteAt wsL_noteAt) := goodIn_app (goodIn_of _ (by decide +kernel)) ggL_law_L_noteAt
set_option maxRecDepth 20000 in
theorem ggL_law_X14_noteAt : GoodIn wsL_law wsX14_noteAt := goodIn_r _ [978, 115, 956, 957, 958, 5, 959, 163, 557, 558, 559, 560, 190, 191, 192, 165, 166, 167, 168, 1371, 1372, 1373, 1374, 1375, 1376, 1377, 1378, 1379, 1380, 1381, 1382, 1383, 1384, 1385, 1386, 1387, 1388, 1389, 1390, 1391, 1392, 1393] (by decide +kernel) (by decide +kernel)
set_option maxRecDepth 20000 in
theorem gL_law_X14_noteAt : GoodIn wsL_law (wsV RL 204 RX14 yX14_noteAt wsX14_noteAt) := goodIn_app (goodIn_of _ (by decide +kernel)) ggL_law_X14_noteAt
set_option maxRecDepth 20000 in
theorem ggL_law_L_setAltitude : GoodIn wsL_law wsL_setAltitude := goodIn_ca (goodIn_r _ [981, 176, 982, 983, 984, 2, 985, 24, 181, 182, 183, 184, 185, 986, 987, 988, 23, 989, 424, 79, 990, 558, 559, 560, 435, 436, 437, 438, 71, 991, 704, 705, 706, 707, 708, 709, 1364, 1365, 1366, 1367, 1368, 1369, 1370, 1400, 1401, 1402, 1403, 1404, 1405, 1406, 1407, 1408, 1418, 1419, 1420, 1421, 1422, 1423, 1424, 1427, 1428, 1429, 1430, 1431] (by decide +kernel) (by decide +kernel)) (goodIn_sub (fun _ h => List.mem_append_left _ (List.mem_append_right _ h)) (by decide +kernel))
set_option maxRecDepth 20000 in
theorem gL_law_L_setAltitude : GoodIn wsL_law (va_wsS RL 205 yL_setAltitude wsL_setAltitude) := goodIn_app (goodIn_of _ (by decide +kernel)) ggL_law_L_setAltitude
set_option maxRecDepth 20000 in
theorem ggL_law_X14_setAltitude : GoodIn wsL_law wsX14_setAltitude := goodIn_r _ [995, 163, 115, 852, 853, 5, 854, 190, 191, 192, 165, 166, 167, 168, 996, 997, 998, 999, 113, 557, 558, 559, 560, 140, 141, 142, 714, 715, 716, 717, 718, 719, 720, 1371, 1372, 1373, 1374, 1375, 1376, 1377, 1378, 1379, 1380, 1381, 1382, 1383, 1384, 1385, 1386, 1387, 1388, 1389, 1390, 1391, 1392, 1393, 1432, 1433, 1434, 1435, 1436, 1437, 1438, 1439, 1440, 1441, 1442, 1443, 1444, 1445, 1446, 1447, 1448, 1449, 1450, 1451, 1452] (by decide +kernel) (by decide +kernel)
set_option maxRecDepth 20000 in
theorem gL_law_X14_setAltitude : GoodIn wsL_law (wsV RL 207 RX14 yX14_setAltitude wsX14_setAltitude) := goodIn_app (goodIn_of _ (by decide +kernel)) ggL_law_X14_setAltitude
set_option maxRecDepth 20000 in
theorem ggL_law_L_setServings : GoodIn wsL_law wsL_setServings := goodIn_ca (goodIn_r _ [1002, 176, 1003, 1004, 1005, 2, 1006, 24, 181, 182, 183, 184, 185, 1364, 1365, 1366, 1367, 1368, 1369, 1370, 1400, 1401, 1402, 1403, 1404, 1405, 1406, 1407, 1408] (by decide +kernel) (by decide +kernel)) (goodIn_sub (fun _ h => List.mem_append_left _ (List.mem_append_right _ h)) (by decide +kernel))
set_option maxRecDepth 20000 in
theorem gL_law_L_setServings : GoodIn wsL_law (va_wsS RL 208 yL_setServings wsL_setServings) := goodIn_app (goodIn_of _ (by decide +kernel)) ggL_law_L_setServings
