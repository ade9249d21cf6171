/-! the law's calls -/
set_option maxRecDepth 20000 in
theorem ggL_law_X14_recipes : GoodIn wsL_law wsX14_recipes := goodIn_r _ [682, 113, 663, 664, 665, 5, 666, 163, 1371, 1372, 1373, 1374, 1375, 1376, 1377, 1378, 1379, 1380, 1381, 1382, 1383, 1384, 1385, 1386, 1387, 1388, 1389, 1390, 1391, 1392, 1393, 1432, 1433, 1434, 1435, 1436, 1437, 1438, 1439, 1440, 1441, 1442, 1443, 1444, 1445, 1446, 1447, 1448, 1449, 1450, 1451, 1452] (by decide +kernel) (by decide +kernel)
set_option maxRecDepth 20000 in
theorem gL_law_X14_recipes : GoodIn wsL_law (wsV RL 135 RX14 yX14_recipes wsX14_recipes) := goodIn_app (goodIn_of _ (by decide +kernel)) ggL_law_X14_recipes
set_option maxRecDepth 20000 in
theorem ggL_law_X12_acts : GoodIn wsL_law wsX12_acts := goodIn_r _ [686, 24, 1364, 1365, 1366, 1367, 1368, 1369, 1370, 1400, 1401, 1402, 1403, 1404, 1405, 1406, 1407, 1408, 1418, 1419, 1420, 1421, 1422, 1423, 1424] (by decide +kernel) (by decide +kernel)
set_option maxRecDepth 20000 in
theorem gL_law_X12_acts : GoodIn wsL_law (wsV RL 136 RX12 yX12_acts wsX12_acts) := goodIn_app (goodIn_of _ (by decide +kernel)) ggL_law_X12_acts
set_option maxRecDepth 20000 in
theorem ggL_law_X14_acts : GoodIn wsL_law wsX14_acts := goodIn_r _ [690, 113, 663, 664, 665, 5, 666, 163, 1371, 1372, 1373, 1374, 1375, 1376, 1377, 1378, 1379, 1380, 1381, 1382, 1383, 1384, 1385, 1386, 1387, 1388, 1389, 1390, 1391, 1392, 1393, 1432, 1433, 1434, 1435, 1436, 1437, 1438, 1439, 1440, 1441, 1442, 1443, 1444, 1445, 1446, 1447, 1448, 1449, 1450, 1451, 1452] (by decide +kernel) (by decide +kernel)
set_option maxRecDepth 20000 in
theorem gL_law_X14_acts : GoodIn wsL_law (wsV RL 139 RX14 yX14_acts wsX14_acts) := goodIn_app (goodIn_of _ (by decide +kernel)) ggL_law_X14_acts
set_option maxRecDepth 20000 in
theorem ggL_law_X12_altitude : GoodIn wsL_law wsX12_altitude := goodIn_r _ [694, 24, 1364, 1365, 1366, 1367, 1368, 1369, 1370, 1400, 1401, 1402, 1403, 1404, 1405, 1406, 1407, 1408] (by decide +kernel) (by decide +kernel)
set_option maxRecDepth 20000 in
theorem gL_law_X12_altitude : GoodIn wsL_law (wsV RL 140 RX12 yX12_altitude wsX12_altitude) := goodIn_app (goodIn_of _ (by decide +kernel)) ggL_law_X12_altitude
set_option maxRecDepth 20000 in
theorem ggL_law_X14_altitude : GoodIn wsL_law wsX14_altitude := goodIn_r _ [698, 115, 663, 664, 665, 5, 666, 163, 1371, 1372, 1373, 1374, 1375, 1376, 1377, 1378, 1379, 1380, 1381, 1382, 1383, 1384, 1385, 1386, 1387, 1388, 1389, 1390, 1391, 1392, 1393] (by decide +kernel) (by decide +kernel)
set_option maxRecDepth 20000 in
theorem gL_law_X14_altitude : GoodIn wsL_law (wsV RL 143 RX14 yX14_altitude wsX14_altitude) := goodIn_app (goodIn_of _ (by decide +kernel)) ggL_law_X14_altitude
set_option maxRecDepth 20000 in
theorem ggL_law_X12_boilingPoint : GoodIn wsL_law wsX12_boilingPoint := goodIn_r _ [702, 24, 703, 704, 705, 23, 706, 424, 707, 708, 709, 1364, 1365, 1366, 1367, 1368, 1369, 1370, 1400, 1401, 1402, 1403, 1404, 1405, 1406, 1407, 1408] (by decide +kernel) (by decide +kernel)
set_option maxRecDepth 20000 in
theorem gL_law_X12_boilingPoint : GoodIn wsL_law (wsV RL 144 RX12 yX12_boilingPoint wsX12_boilingPoint) := goodIn_app (goodIn_of _ (by decide +kernel)) ggL_law_X12_boilingPoint
set_option maxRecDepth 20000 in
theorem ggL_law_X14_boilingPoint : GoodIn wsL_law wsX14_boilingPoint := goodIn_r _ [713, 714, 715, 716, 5, 717, 115, 718, 719, 720, 663, 664, 665, 666, 163, 1371, 1372, 1373, 1374, 1375, 1376, 1377, 1378, 1379, 1380, 1381, 1382, 1383, 1384, 1385, 1386, 1387, 1388, 1389, 1390, 1391, 1392, 1393] (by decide +kernel) (by decide +kernel)
set_option maxRecDepth 20000 in
theorem gL_law_X14_boilingPoint : GoodIn wsL_law (wsV RL 147 RX14 yX14_boilingPoint wsX14_boilingPoint) := goodIn_app (goodIn_of _ (by decide +kernel)) ggL_law_X14_boilingPoint
set_option maxRecDepth 20000 in
theorem ggL_law_X12_servings : GoodIn wsL_law wsX12_servings := goodIn_r _ [724, 24, 1364, 1365, 1366, 1367, 1368, 1369, 1370, 1400, 1401, 1402, 1403, 1404, 1405, 1406, 1407, 1408] (by decide +kernel) (by decide +kernel)
set_option maxRecDepth 20000 in
theorem gL_law_X12_servings : GoodIn wsL_law (wsV RL 148 RX12 yX12_servings wsX12_servings) := goodIn_app (goodIn_of _ (by decide +kernel)) ggL_law_X12_servings
set_option maxRecDepth 20000 in
theorem ggL_law_X14_servings : GoodIn wsL_law wsX14_servings := goodIn_r _ [728, 115, 663, 664, 665, 5, 666, 163, 1371, 1372, 1373, 1374, 1375, 1376, 1377, 1378, 1379, 1380, 1381, 1382, 1383, 1384, 1385, 1386, 1387, 1388, 1389, 1390, 1391, 1392, 1393] (by decide +kernel) (by decide +kernel)
set_option maxRecDepth 20000 in
theorem gL_law_X14_servings : GoodIn wsL_law (wsV RL 151 RX14 yX14_servings wsX14_servings) := goodIn_app (goodIn_of _ (by decide +kernel)) ggL_law_X14_servings
set_option maxRecDepth 20000 in
theorem ggL_law_X12_spoon : GoodIn wsL_law wsX12_spoon := goodIn_r _ [732, 24, 1364, 1365, 1366, 1367, 1368, 1369, 1370, 1400, 1401, 1402, 1403, 1404, 1405, 1406, 1407, 1408] (by decide +kernel) (by decide +kernel)
set_option maxRecDepth 20000 in
theorem gL_law_X12_spoon : GoodIn wsL_law (wsV RL 152 RX12 yX12_spoon wsX12_spoon) := goodIn_app (goodIn_of _ (by decide +kernel)) ggL_law_X12_spoon
set_option maxRecDepth 20000 in
theorem ggL_law_X14_spoon : GoodIn wsL_law wsX14_spoon := goodIn_r _ [736, 115, 663, 664, 665, 5, 666, 163, 1371, 1372, 1373, 1374, 1375, 1376, 1377, 1378, 1379, 1380, 1381, 1382, 1383, 1384, 1385, 1386, 1387, 1388, 1389, 1390, 1391, 1392, 1393] (by decide +kernel) (by decide +kernel)
set_option maxRecDepth 20000 in
theorem gL_law_X14_spoon : GoodIn wsL_law (wsV RL 155 RX14 yX14_spoon wsX14_spoon) := goodIn_app (goodIn_of _ (by decide +kernel)) ggL_law_X14_spoon
set_option maxRecDepth 20000 in
theorem ggL_law_X12_minute : GoodIn wsL_law wsX12_minute := goodIn_r _ [740, 24, 1364, 1365, 1366, 1367, 1368, 1369, 1370, 1400, 1401, 1402, 1403, 1404, 1405, 1406, 1407, 1408] (by decide +kernel) (by decide +kernel)
set_option maxRecDepth 20000 in
theorem gL_law_X12_minute : GoodIn wsL_law (wsV RL 156 RX12 yX12_minute wsX12_minute) := goodIn_app (goodIn_of _ (by decide +kernel)) ggL_law_X12_minute
set_option maxRecDepth 20000 in
theorem ggL_law_X14_minute : GoodIn wsL_law wsX14_minute := goodIn_r _ [744, 115, 663, 664, 665, 5, 666, 163, 1371, 1372, 1373, 1374, 1375, 1376, 1377, 1378, 1379, 1380, 1381, 1382, 1383, 1384, 1385, 1386, 1387, 1388, 1389, 1390, 1391, 1392, 1393] (by decide +kernel) (by decide +kernel)
set_option maxRecDepth 20000 in
theorem gL_law_X14_minute : GoodIn wsL_law (wsV RL 159 RX14 yX14_minute wsX14_minute) := goodIn_app (goodIn_of _ (by decide +kernel)) ggL_law_X14_minute
set_option maxRecDepth 20000 in
theorem ggL_law_L_holdsOf : GoodIn wsL_law wsL_holdsOf := goodIn_ca (goodIn_r _ [747, 748, 749, 750, 751, 2, 752, 753, 754, 755, 756, 757, 758, 24, 759, 436, 437, 23, 438, 79, 71, 1427, 1428, 1429, 1430, 1431, 1364, 1365, 1366, 1367, 1368, 1369, 1370, 1400, 1401, 1402, 1403, 1404, 1405, 1406, 1407, 1408, 1418, 1419, 1420, 1421, 1422, 1423, 1424] (by decide +kernel) (by decide +kernel)) (goodIn_sub (fun _ h => List.mem_append_right _ h) (by decide +kernel))
set_option maxRecDepth 20000 in
theorem gL_law_L_holdsOf : GoodIn wsL_law (va_wsS RL 160 yL_holdsOf wsL_holdsOf) := goodIn_app (goodIn_of _ (by decide +kernel)) ggL_law_L_holdsOf
set_option maxRecDepth 20000 in
theorem ggL_law_X14_holdsOf : GoodIn wsL_law wsX14_holdsOf := goodIn_r _ [763, 163, 113, 764, 765, 766, 5, 767, 190, 191, 192, 165, 166, 167, 168, 1371, 1372, 1373, 1374, 1375, 1376, 1377, 1378, 1379, 1380, 1381, 1382, 1383, 1384, 1385, 1386, 1387, 1388, 1389, 1390, 1391, 1392, 1393, 1432, 1433, 1434, 1435, 1436, 1437, 1438, 1439, 1440, 1441, 1442, 1443, 1444, 1445, 1446, 1447, 1448, 1449, 1450, 1451, 1452] (by decide +kernel) (by decide +kernel)
set_option maxRecDepth 20000 in
theorem gL_law_X14_holdsOf : GoodIn wsL_law (wsV RL 162 RX14 yX14_holdsOf wsX14_holdsOf) := goodIn_app (goodIn_of _ (by decide +kernel)) ggL_law_X14_holdsOf
set_option maxRecDepth 20000 in
theorem ggL_law_L_waterIn : GoodIn wsL_law wsL_waterIn := goodIn_ca (goodIn_r _ [770, 748, 771, 772, 773, 2, 774, 753, 754, 755, 756, 757, 758, 24, 759, 436, 437, 23, 438, 79, 71, 1427, 1428, 1429, 1430, 1431, 1364, 1365, 1366, 1367, 1368, 1369, 1370, 1400, 1401, 1402, 1403, 1404, 1405, 1406, 1407, 1408, 1418, 1419, 1420, 1421, 1422, 1423, 1424] (by decide +kernel) (by decide +kernel)) (goodIn_sub (fun _ h => List.mem_append_right _ h) (by decide +kernel))
set_option maxRecDepth 20000 in
theorem gL_law_L_waterIn : GoodIn wsL_law (va_wsS RL 163 yL_waterIn wsL_waterIn) := goodIn_app (goodIn_of _ (by decide +kernel)) ggL_law_L_waterIn
set_option maxRecDepth 20000 in
theorem ggL_law_X14_waterIn : GoodIn wsL_law wsX14_waterIn := goodIn_r _ [778, 779, 780, 781, 5, 782, 163, 115, 764, 765, 766, 767, 113, 190, 191, 192, 140, 141, 142, 165, 166, 167, 168, 1371, 1372, 1373, 1374, 1375, 1376, 1377, 1378, 1379, 1380, 1381, 1382, 1383, 1384, 1385, 1386, 1387, 1388, 1389, 1390, 1391, 1392, 1393, 1432, 1433, 1434, 1435, 1436, 1437, 1438, 1439, 1440, 1441, 1442, 1443, 1444, 1445, 1446, 1447, 1448, 1449, 1450, 1451, 1452] (by decide +kernel) (by decide +kernel)
set_option maxRecDepth 20000 in
theorem gL_law_X14_waterIn : GoodIn wsL_law (wsV RL 165 RX14 yX14_waterIn wsX14_waterIn) := goodIn_app (goodIn_of _ (by decide +kernel)) ggL_law_X14_waterIn
set_option maxRecDepth 20000 in
theorem ggL_law_L_mealIn : GoodIn wsL_law wsL_mealIn := goodIn_ca (goodIn_r _ [785, 748, 786, 787, 788, 2, 789, 753, 754, 755, 756, 757, 758, 24, 759, 436, 437, 23, 438, 79, 71, 1427, 1428, 1429, 1430, 1431, 1364, 1365, 1366, 1367, 1368, 1369, 1370, 1400, 1401, 1402, 1403, 1404, 1405, 1406, 1407, 1408, 1418, 1419, 1420, 1421, 1422, 1423, 1424] (by decide +kernel) (by decide +kernel)) (goodIn_sub (fun _ h => List.mem_append_right _ h) (by decide +kernel))
set_option maxRecDepth 20000 in
theorem gL_law_L_mealIn : GoodIn wsL_law (va_wsS RL 166 yL_mealIn wsL_mealIn) := goodIn_app (goodIn_of _ (by decide +kernel)) ggL_law_L_mealIn
set_option maxRecDepth 20000 in
theorem ggL_law_X14_mealIn : GoodIn wsL_law wsX14_mealIn := goodIn_r _ [793, 779, 780, 781, 5, 782, 163, 115, 764, 765, 766, 767, 113, 190, 191, 192, 140, 141, 142, 165, 166, 167, 168, 1371, 1372, 1373, 1374, 1375, 1376, 1377, 1378, 1379, 1380, 1381, 1382, 1383, 1384, 1385, 1386, 1387, 1388, 1389, 1390, 1391, 1392, 1393, 1432, 1433, 1434, 1435, 1436, 1437, 1438, 1439, 1440, 1441, 1442, 1443, 1444, 1445, 1446, 1447, 1448, 1449, 1450, 1451, 1452] (by decide +kernel) (by decide +kernel)
set_option maxRecDepth 20000 in
theorem gL_law_X14_mealIn : GoodIn wsL_law (wsV RL 168 RX14 yX14_mealIn wsX14_mealIn) := goodIn_app (goodIn_of _ (by decide +kernel)) ggL_law_X14_mealIn
set_option maxRecDepth 20000 in
theorem ggL_law_L_heatOf : GoodIn wsL_law wsL_heatOf := goodIn_ca (goodIn_r _ [796, 748, 797, 798, 799, 2, 800, 753, 754, 755, 756, 757, 758, 24, 759, 436, 437, 23, 438, 79, 71, 1427, 1428, 1429, 1430, 1431, 1364, 1365, 1366, 1367, 1368, 1369, 1370, 1400, 1401, 1402, 1403, 1404, 1405, 1406, 1407, 1408, 1418, 1419, 1420, 1421, 1422, 1423, 1424] (by decide +kernel) (by decide +kernel)) (goodIn_sub (fun _ h => List.mem_append_right _ h) (by decide +kernel))
set_option maxRecDepth 20000 in
theorem gL_law_L_heatOf : GoodIn wsL_law (va_wsS RL 169 yL_heatOf wsL_heatOf) := goodIn_app (goodIn_of _ (by decide +kernel)) ggL_law_L_heatOf
set_option maxRecDepth 20000 in
theorem ggL_law_X14_heatOf : GoodIn wsL_law wsX14_heatOf := goodIn_r _ [804, 779, 780, 781, 5, 782, 163, 115, 764, 765, 766, 767, 113, 190, 191, 192, 140, 141, 142, 165, 166, 167, 168, 1371, 1372, 1373, 1374, 1375, 1376, 1377, 1378, 1379, 1380, 1381, 1382, 1383, 1384, 1385, 1386, 1387, 1388, 1389, 1390, 1391, 1392, 1393, 1432, 1433, 1434, 1435, 1436, 1437, 1438, 1439, 1440, 1441, 1442, 1443, 1444, 1445, 1446, 1447, 1448, 1449, 1450, 1451, 1452] (by decide +kernel) (by decide +kernel)
set_option maxRecDepth 20000 in
theorem gL_law_X14_heatOf : GoodIn wsL_law (wsV RL 171 RX14 yX14_heatOf wsX14_heatOf) := goodIn_app (goodIn_of _ (by decide +kernel)) ggL_law_X14_heatOf
set_option maxRecDepth 20000 in
theorem ggL_law_L_doneIn : GoodIn wsL_law wsL_doneIn := goodIn_ca (goodIn_r _ [807, 748, 808, 809, 810, 2, 811, 753, 754, 755, 756, 757, 758, 24, 759, 436, 437, 23, 438, 79, 71, 1427, 1428, 1429, 1430, 1431, 1364, 1365, 1366, 1367, 1368, 1369, 1370, 1400, 1401, 1402, 1403, 1404, 1405, 1406, 1407, 1408, 1418, 1419, 1420, 1421, 1422, 1423, 1424] (by decide +kernel) (by decide +kernel)) (goodIn_sub (fun _ h => List.mem_append_right _ h) (by decide +kernel))
set_option maxRecDepth 20000 in
theorem gL_law_L_doneIn : GoodIn wsL_law (va_wsS RL 172 yL_doneIn wsL_doneIn) := goodIn_app (goodIn_of _ (by decide +kernel)) ggL_law_L_doneIn
set_option maxRecDepth 20000 in
theorem ggL_law_X14_doneIn : GoodIn wsL_law wsX14_doneIn := goodIn_r _ [815, 779, 780, 781, 5, 782, 163, 115, 764, 765, 766, 767, 113, 190, 191, 192, 140, 141, 142, 165, 166, 167, 168, 1371, 1372, 1373, 1374, 1375, 1376, 1377, 1378, 1379, 1380, 1381, 1382, 1383, 1384, 1385, 1386, 1387, 1388, 1389, 1390, 1391, 1392, 1393, 1432, 1433, 1434, 1435, 1436, 1437, 1438, 1439, 1440, 1441, 1442, 1443, 1444, 1445, 1446, 1447, 1448, 1449, 1450, 1451, 1452] (by decide +kernel) (by decide +kernel)
set_option maxRecDepth 20000 in
theorem gL_law_X14_doneIn : GoodIn wsL_law (wsV RL 174 RX14 yX14_doneIn wsX14_doneIn) := goodIn_app (goodIn_of _ (by decide +kernel)) ggL_law_X14_doneIn
set_option maxRecDepth 20000 in
theorem pgL_roomIn_1 : GoodIn wsL_law (Cond.codeWith yL_roomIn cL_roomIn 4 (some .int) [(0, 9, 12, 24)] :: wsL_roomIn_r1) := goodIn_r _ [818, 748, 819, 820, 821, 2, 822, 753, 754, 755, 756, 757, 758, 24, 759, 436, 437, 23, 438, 79, 71, 823, 824, 825, 83] (by decide +kernel) (by decide +kernel)
set_option maxRecDepth 20000 in
theorem pgL_roomIn_2 : GoodIn wsL_law wsL_roomIn_r2 := goodIn_r _ [826, 827, 443, 444] (by decide +kernel) (by decide +kernel)
set_option maxRecDepth 20000 in
theorem ggL_law_L_roomIn : GoodIn wsL_law wsL_roomIn := goodIn_ca (goodIn_ca (goodIn_ca (goodIn_ca (goodIn_ca (goodIn_ca pgL_roomIn_1 (pgL_roomIn_2)) pgx_X12) pgx_X6) pgx_X2) pgx_X7) pgt_229
set_option maxRecDepth 20000 in
theorem gL_law_L_roomIn : GoodIn wsL_law (va_wsS RL 175 yL_roomIn wsL_roomIn) := goodIn_app (goodIn_of _ (by decide +kernel)) ggL_law_L_roomIn
set_option maxRecDepth 20000 in
theorem pgX14_roomIn_1 : GoodIn wsL_law (Cond.code yX14_roomIn cX14_roomIn 2 (some .int) :: wsX14_roomIn_r1) := goodIn_r _ [831, 163, 764, 765, 766, 5, 767, 113, 190, 191, 192, 832, 833, 834, 835, 836, 837, 838, 839, 115, 140, 141, 142, 165, 166] (by decide +kernel) (by decide +kernel)
set_option maxRecDepth 20000 in
theorem pgX14_roomIn_2 : GoodIn wsL_law wsX14_roomIn_r2 := goodIn_r _ [167, 168] (by decide +kernel) (by decide +kernel)
set_option maxRecDepth 20000 in
theorem ggL_law_X14_roomIn : GoodIn wsL_law wsX14_roomIn := goodIn_ca (goodIn_ca (goodIn_ca pgX14_roomIn_1 (pgX14_roomIn_2)) pgx_X14) pgx_X13
set_option maxRecDepth 20000 in
theorem gL_law_X14_roomIn : GoodIn wsL_law (wsV RL 177 RX14 yX14_roomIn wsX14_roomIn) := goodIn_app (goodIn_of _ (by decide +kernel)) ggL_law_X14_roomIn
set_option maxRecDepth 20000 in
theorem ggL_law_L_boilingAt : GoodIn wsL_law wsL_boilingAt := goodIn_ca (goodIn_r _ [842, 176, 843, 844, 845, 2, 846, 181, 182, 183, 184, 185, 847, 708, 23, 709] (by decide +kernel) (by decide +kernel)) (goodIn_sub (fun _ h => List.mem_append_left _ (List.mem_append_right _ h)) (by decide +kernel))
set_option maxRecDepth 20000 in
theorem gL_law_L_boilingAt : GoodIn wsL_law (va_wsS RL 178 yL_boilingAt wsL_boilingAt) := goodIn_app (goodIn_of _ (by decide +kernel)) ggL_law_L_boilingAt
set_option maxRecDepth 20000 in
theorem ggL_law_X14_boilingAt : GoodIn wsL_law wsX14_boilingAt := goodIn_r _ [851, 163, 852, 853, 5, 854, 190, 191, 192, 718, 719, 720, 165, 166, 167, 168, 1371, 1372, 1373, 1374, 1375, 1376, 1377, 1378, 1379, 1380, 1381, 1382, 1383, 1384, 1385, 1386, 1387, 1388, 1389, 1390, 1391, 1392, 1393] (by decide +kernel) (by decide +kernel)
set_option maxRecDepth 20000 in
theorem gL_law_X14_boilingAt : GoodIn wsL_law (wsV RL 180 RX14 yX14_boilingAt wsX14_boilingAt) := goodIn_app (goodIn_of _ (by decide +kernel)) ggL_law_X14_boilingAt
set_option maxRecDepth 20000 in
theorem ggL_law_L_minutesAt : GoodIn wsL_law wsL_minutesAt := goodIn_ca (goodIn_r _ [857, 176, 858, 859, 860, 2, 861, 181, 182, 183, 184, 185, 862, 863, 23, 864, 865, 866, 867, 707, 708, 709] (by decide +kernel) (by decide +kernel)) (goodIn_sub (fun _ h => List.mem_append_left _ (List.mem_append_right _ h)) (by decide +kernel))
set_option maxRecDepth 20000 in
theorem gL_law_L_minutesAt : GoodIn wsL_law (va_wsS RL 181 yL_minutesAt wsL_minutesAt) := goodIn_app (goodIn_of _ (by decide +kernel)) ggL_law_L_minutesAt
set_option maxRecDepth 20000 in
theorem ggL_law_X14_minutesAt : GoodIn wsL_law wsX14_minutesAt := goodIn_r _ [871, 163, 190, 191, 5, 192, 852, 853, 854, 872, 873, 874, 875, 876, 877, 718, 719, 720, 165, 166, 167, 168, 1371, 1372, 1373, 1374, 1375, 1376, 1377, 1378, 1379, 1380, 1381, 1382, 1383, 1384, 1385, 1386, 1387, 1388, 1389, 1390, 1391, 1392, 1393] (by decide +kernel) (by decide +kernel)
set_option maxRecDepth 20000 in
theorem gL_law_X14_minutesAt : GoodIn wsL_law (wsV RL 184 RX14 yX14_minutesAt wsX14_minutesAt) := goodIn_app (goodIn_of _ (by decide +kernel)) ggL_law_X14_minutesAt
set_option maxRecDepth 20000 in
theorem pgL_amountFor_1 : GoodIn wsL_law (Cond.codeWith yL_amountFor cL_amountFor 4 (some .int) [(0, 9, 12, 19)] :: wsL_amountFor_r1) := goodIn_r _ [880, 176, 881, 882, 883, 2, 884, 24, 181, 182, 183, 184, 185, 885, 886, 887, 23, 888, 80, 81, 889, 890, 891, 558, 559] (by decide +kernel) (by decide +kernel)
set_option maxRecDepth 20000 in
theorem pgL_amountFor_2 : GoodIn wsL_law wsL_amountFor_r2 := goodIn_r _ [560, 892, 632, 633, 893, 894] (by decide +kernel) (by decide +kernel)
set_option maxRecDepth 20000 in
theorem ggL_law_L_amountFor : GoodIn wsL_law wsL_amountFor := goodIn_ca (goodIn_ca (goodIn_ca (goodIn_ca pgL_amountFor_1 (pgL_amountFor_2)) pgx_X12) pgx_X6) pgt_224
set_option maxRecDepth 20000 in
theorem gL_law_L_amountFor : GoodIn wsL_law (va_wsS RL 185 yL_amountFor wsL_amountFor) := goodIn_app (goodIn_of _ (by decide +kernel)) ggL_law_L_amountFor
set_option maxRecDepth 20000 in
theorem ggL_law_X14_amountFor : GoodIn wsL_law wsX14_amountFor := goodIn_r _ [898, 163, 190, 191, 5, 192, 899, 900, 901, 902, 115, 903, 904, 905, 557, 558, 559, 560, 631, 632, 633, 165, 166, 167, 168, 1371, 1372, 1373, 1374, 1375, 1376, 1377, 1378, 1379, 1380, 1381, 1382, 1383, 1384, 1385, 1386, 1387, 1388, 1389, 1390, 1391, 1392, 1393] (by decide +kernel) (by decide +kernel)
set_option maxRecDepth 20000 in
theorem gL_law_X14_amountFor : GoodIn wsL_law (wsV RL 187 RX14 yX14_amountFor wsX14_amountFor) := goodIn_app (goodIn_of _ (by decide +kernel)) ggL_law_X14_amountFor
set_option maxRecDepth 20000 in
theorem ggL_law_X12_warnings : GoodIn wsL_law wsX12_warnings := goodIn_r _ [909, 24, 1364, 1365, 1366, 1367, 1368, 1369, 1370, 1400, 1401, 1402, 1403, 1404, 1405, 1406, 1407, 1408, 1425, 1426] (by decide +kernel) (by decide +kernel)
set_option maxRecDepth 20000 in
theorem gL_law_X12_warnings : GoodIn wsL_law (wsV RL 188 RX12 yX12_warnings wsX12_warnings) := goodIn_app (goodIn_of _ (by decide +kernel)) ggL_law_X12_warnings
set_option maxRecDepth 20000 in
theorem ggL_law_X14_warnings : GoodIn wsL_law wsX14_warnings := goodIn_r _ [913, 115, 663, 664, 665, 5, 666, 163, 1371, 1372, 1373, 1374, 1375, 1376, 1377, 1378, 1379, 1380, 1381, 1382, 1383, 1384, 1385, 1386, 1387, 1388, 1389, 1390, 1391, 1392, 1393] (by decide +kernel) (by decide +kernel)
set_option maxRecDepth 20000 in
theorem gL_law_X14_warnings : GoodIn wsL_law (wsV RL 191 RX14 yX14_warnings wsX14_warnings) := goodIn_app (goodIn_of _ (by decide +kernel)) ggL_law_X14_warnings
set_option maxRecDepth 20000 in
theorem ggL_law_L_warningsOf : GoodIn wsL_law wsL_warningsOf := goodIn_ca (goodIn_r _ [916, 176, 917, 918, 919, 2, 920, 24, 181, 182, 183, 184, 185, 921, 922, 923, 23, 924, 77, 1364, 1365, 1366, 1367, 1368, 1369, 1370, 1400, 1401, 1402, 1403, 1404, 1405, 1406, 1407, 1408] (by decide +kernel) (by decide +kernel)) (goodIn_sub (fun _ h => List.mem_append_left _ (List.mem_append_right _ h)) (by decide +kernel))
set_option maxRecDepth 20000 in
theorem gL_law_L_warningsOf : GoodIn wsL_law (va_wsS RL 192 yL_warningsOf wsL_warningsOf) := goodIn_app (goodIn_of _ (by decide +kernel)) ggL_law_L_warningsOf
set_option maxRecDepth 20000 in
theorem ggL_law_X14_warningsOf : GoodIn wsL_law wsX14_warningsOf := goodIn_r _ [928, 163, 115, 190, 191, 5, 192, 165, 166, 167, 168, 1371, 1372, 1373, 1374, 1375, 1376, 1377, 1378, 1379, 1380, 1381, 1382, 1383, 1384, 1385, 1386, 1387, 1388, 1389, 1390, 1391, 1392, 1393] (by decide +kernel) (by decide +kernel)
set_option maxRecDepth 20000 in
theorem gL_law_X14_warningsOf : GoodIn wsL_law (wsV RL 194 RX14 yX14_warningsOf wsX14_warningsOf) := goodIn_app (goodIn_of _ (by decide +kernel)) ggL_law_X14_warningsOf
set_option maxRecDepth 20000 in
theorem pgL_warningAt_1 : GoodIn wsL_law (Cond.codeWith yL_warningAt cL_warningAt 4 (some .int) [(0, 9, 12, 24)] :: wsL_warningAt_r1) := goodIn_r _ [931, 748, 932, 933, 934, 2, 935, 24, 936, 937, 938, 74, 939, 434, 940, 558, 559, 560, 941, 942, 943, 757, 758, 944, 945] (by decide +kernel) (by decide +kernel)
set_option maxRecDepth 20000 in
theorem pgL_warningAt_2 : GoodIn wsL_law wsL_warningAt_r2 := goodIn_r _ [946, 947, 87, 948, 949, 950, 951] (by decide +kernel) (by decide +kernel)
set_option maxRecDepth 20000 in
theorem ggL_law_L_warningAt : GoodIn wsL_law wsL_warningAt := goodIn_ca (goodIn_ca (goodIn_ca (goodIn_ca (goodIn_ca pgL_warningAt_1 (pgL_warningAt_2)) pgx_X12) pgx_X6) pgx_X4) pgt_229
set_option maxRecDepth 20000 in
theorem gL_law_L_warningAt : GoodIn wsL_law (va_wsS RL 195 yL_warningAt wsL_warningAt) := goodIn_app (goodIn_of _ (by decide +kernel)) ggL_law_L_warningAt
