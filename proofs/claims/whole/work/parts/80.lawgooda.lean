/-! the law's calls -/
set_option maxRecDepth 20000 in
theorem pgX12_init_1 : GoodIn wsL_law (Cond.code yX12_init cX12_init 1 none :: wsX12_init_r1) := goodIn_r _ [9, 10, 11, 12, 13, 14, 15, 16, 17, 18, 19, 20, 21, 22, 23, 24, 25, 26, 27, 28, 29, 30, 31, 32, 33] (by decide +kernel) (by decide +kernel)
set_option maxRecDepth 20000 in
theorem pgX12_init_2 : GoodIn wsL_law wsX12_init_r2 := goodIn_r _ [34, 35, 36, 37, 38, 39, 40, 41, 42, 43, 44, 45, 46, 47, 48, 49, 50, 51, 52, 53, 54, 6, 55, 56] (by decide +kernel) (by decide +kernel)
set_option maxRecDepth 20000 in
theorem pgX12_init_3 : GoodIn wsL_law wsX12_init_r3 := goodIn_r _ [57, 58, 59, 60, 61, 62, 63, 64, 65, 66, 67, 68, 69, 70, 71, 72, 73, 74, 75, 76, 77, 78, 79, 80] (by decide +kernel) (by decide +kernel)
set_option maxRecDepth 20000 in
theorem pgX12_init_4 : GoodIn wsL_law wsX12_init_r4 := goodIn_r _ [81, 82, 83, 84, 85, 86, 87, 88, 89, 90, 91, 92, 93, 94, 95, 96, 97] (by decide +kernel) (by decide +kernel)
set_option maxRecDepth 20000 in
theorem ggL_law_X12_init : GoodIn wsL_law wsX12_init := goodIn_ca (goodIn_ca (goodIn_ca (goodIn_ca (goodIn_ca (goodIn_ca (goodIn_ca (goodIn_ca (goodIn_ca (goodIn_ca pgX12_init_1 (goodIn_app pgX12_init_2 (goodIn_app pgX12_init_3 (pgX12_init_4)))) pgx_X9) pgx_X12) pgx_X8) pgx_X6) pgx_X3) pgx_X10) pgx_X2) pgx_X4) pgx_X7
set_option maxRecDepth 20000 in
theorem gL_law_X12_init : GoodIn wsL_law (wsX12_init) := ggL_law_X12_init
set_option maxRecDepth 20000 in
theorem pgX14_init_1 : GoodIn wsL_law (Cond.code yX14_init cX14_init 1 none :: wsX14_init_r1) := goodIn_r _ [100, 101, 11, 12, 53, 102, 103, 104, 105, 106, 107, 108, 109, 110, 111, 112, 113, 114, 115, 116, 117, 118, 119, 120, 121] (by decide +kernel) (by decide +kernel)
set_option maxRecDepth 20000 in
theorem pgX14_init_2 : GoodIn wsL_law wsX14_init_r2 := goodIn_r _ [122, 123, 124, 125, 126, 127, 128, 129, 130, 131, 132, 133, 134, 135, 136, 137, 138, 5, 139, 140, 141, 142] (by decide +kernel) (by decide +kernel)
set_option maxRecDepth 20000 in
theorem ggL_law_X14_init : GoodIn wsL_law wsX14_init := goodIn_ca (goodIn_ca (goodIn_ca pgX14_init_1 (pgX14_init_2)) pgx_X14) pgx_X13
set_option maxRecDepth 20000 in
theorem gL_law_X14_init : GoodIn wsL_law (wsX14_init) := ggL_law_X14_init
set_option maxRecDepth 20000 in
theorem ggL_law_L_feed : GoodIn wsL_law wsL_feed := goodIn_ca (goodIn_r _ [146, 147, 148, 149, 150, 2, 151, 152, 153, 16, 154, 155, 156, 15, 157, 158, 36, 1364, 1365, 1366, 1367, 1368, 1369, 1370, 1394, 1395] (by decide +kernel) (by decide +kernel)) (goodIn_sub (fun _ h => List.mem_append_left _ (List.mem_append_left _ (List.mem_append_right _ h))) (by decide +kernel))
set_option maxRecDepth 20000 in
theorem gL_law_L_feed : GoodIn wsL_law (va_wsS RL 106 yL_feed wsL_feed) := goodIn_app (goodIn_of _ (by decide +kernel)) ggL_law_L_feed
set_option maxRecDepth 20000 in
theorem ggL_law_X14_feed : GoodIn wsL_law wsX14_feed := goodIn_r _ [162, 163, 164, 53, 102, 165, 166, 167, 5, 168, 1371, 1372, 1373, 1374, 1375, 1376, 1377, 1378, 1379, 1380, 1381, 1382, 1383, 1384, 1385, 1386, 1387, 1388, 1389, 1390, 1391, 1392, 1393] (by decide +kernel) (by decide +kernel)
set_option maxRecDepth 20000 in
theorem gL_law_X14_feed : GoodIn wsL_law (wsV RL 111 RX14 yX14_feed wsX14_feed) := goodIn_app (goodIn_of _ (by decide +kernel)) ggL_law_X14_feed
set_option maxRecDepth 20000 in
theorem ggL_law_X14_thrown : GoodIn wsL_law wsX14_thrown := goodIn_r _ [172, 163, 1371, 1372, 1373, 1374, 1375, 1376, 1377, 1378, 1379, 1380, 1381, 1382, 1383, 1384, 1385, 1386, 1387, 1388, 1389, 1390, 1391, 1392, 1393] (by decide +kernel) (by decide +kernel)
set_option maxRecDepth 20000 in
theorem gL_law_X14_thrown : GoodIn wsL_law (wsV RL 112 RX14 yX14_thrown wsX14_thrown) := goodIn_app (goodIn_of _ (by decide +kernel)) ggL_law_X14_thrown
set_option maxRecDepth 20000 in
theorem ggL_law_L_trim : GoodIn wsL_law wsL_trim := goodIn_ca (goodIn_r _ [175, 176, 177, 178, 179, 2, 180, 16, 181, 182, 183, 184, 185, 1364, 1365, 1366, 1367, 1368, 1369, 1370, 1394, 1395] (by decide +kernel) (by decide +kernel)) (goodIn_sub (fun _ h => List.mem_append_left _ (List.mem_append_right _ h)) (by decide +kernel))
set_option maxRecDepth 20000 in
theorem gL_law_L_trim : GoodIn wsL_law (va_wsS RL 116 yL_trim wsL_trim) := goodIn_app (goodIn_of _ (by decide +kernel)) ggL_law_L_trim
set_option maxRecDepth 20000 in
theorem ggL_law_X14_trim : GoodIn wsL_law wsX14_trim := goodIn_r _ [189, 163, 164, 190, 191, 5, 192, 165, 166, 167, 168, 1371, 1372, 1373, 1374, 1375, 1376, 1377, 1378, 1379, 1380, 1381, 1382, 1383, 1384, 1385, 1386, 1387, 1388, 1389, 1390, 1391, 1392, 1393] (by decide +kernel) (by decide +kernel)
set_option maxRecDepth 20000 in
theorem gL_law_X14_trim : GoodIn wsL_law (wsV RL 119 RX14 yX14_trim wsX14_trim) := goodIn_app (goodIn_of _ (by decide +kernel)) ggL_law_X14_trim
set_option maxRecDepth 20000 in
theorem pgX12_teach_1 : GoodIn wsL_law (Cond.code yX12_teach cX12_teach 2 (some .int) :: wsX12_teach_r1) := goodIn_r _ [196, 20, 16, 31, 24, 197, 198, 199, 19, 200, 44, 45, 46, 47, 201, 43, 202, 203, 204, 205, 58, 59, 60, 11, 12] (by decide +kernel) (by decide +kernel)
set_option maxRecDepth 20000 in
theorem pgX12_teach_2 : GoodIn wsL_law wsX12_teach_r2 := goodIn_r _ [6, 61, 53, 62, 63, 64, 65, 206, 207, 208, 42, 209, 210, 56, 211, 212, 213, 214, 215, 216, 217, 218, 15, 219] (by decide +kernel) (by decide +kernel)
set_option maxRecDepth 20000 in
theorem pgX12_teach_3 : GoodIn wsL_law wsX12_teach_r3 := goodIn_r _ [158, 36, 220, 221, 222, 223, 224, 225, 226, 227, 228, 229, 230, 231, 232, 233, 234, 235, 236, 237, 238, 239, 240, 241] (by decide +kernel) (by decide +kernel)
set_option maxRecDepth 20000 in
theorem pgX12_teach_4 : GoodIn wsL_law wsX12_teach_r4 := goodIn_r _ [242, 243, 244, 245, 246, 247, 248, 249, 250, 251, 252, 253, 254, 255, 256, 257, 258, 259, 52, 54, 55, 260, 261, 262] (by decide +kernel) (by decide +kernel)
set_option maxRecDepth 20000 in
theorem pgX12_teach_5 : GoodIn wsL_law wsX12_teach_r5 := goodIn_r _ [263, 57, 264, 265, 266, 267, 268, 269, 270, 271, 272, 273, 274, 275, 276, 277, 278, 279, 280, 281, 282, 283, 284, 285] (by decide +kernel) (by decide +kernel)
set_option maxRecDepth 20000 in
theorem pgX12_teach_6 : GoodIn wsL_law wsX12_teach_r6 := goodIn_r _ [286, 287, 288, 289, 290, 291, 292, 293, 294, 295, 296, 297, 298, 299, 300, 301, 302, 303, 304, 305, 306, 307, 308, 309] (by decide +kernel) (by decide +kernel)
set_option maxRecDepth 20000 in
theorem pgX12_teach_7 : GoodIn wsL_law wsX12_teach_r7 := goodIn_r _ [310, 311, 312, 313, 314, 315, 316, 317, 318, 319, 320, 321, 322, 323, 324, 325, 326, 327, 328, 329, 330, 331, 332, 333] (by decide +kernel) (by decide +kernel)
set_option maxRecDepth 20000 in
theorem pgX12_teach_8 : GoodIn wsL_law wsX12_teach_r8 := goodIn_r _ [334, 335, 336, 337, 338, 339, 340, 341, 342, 343, 344, 345, 346, 347, 348, 349, 350, 351, 352, 353, 354, 355, 356, 357] (by decide +kernel) (by decide +kernel)
set_option maxRecDepth 20000 in
theorem pgX12_teach_9 : GoodIn wsL_law wsX12_teach_r9 := goodIn_r _ [358, 359, 360, 361, 362, 363, 364, 365, 366, 367, 368, 369, 370, 371, 372, 373, 374, 375, 376, 377, 378, 379, 380, 381] (by decide +kernel) (by decide +kernel)
set_option maxRecDepth 20000 in
theorem pgX12_teach_10 : GoodIn wsL_law wsX12_teach_r10 := goodIn_r _ [382, 383, 384, 385, 386, 387, 388, 389, 390, 391, 392, 393, 394, 395, 396, 397, 398, 399, 400, 401, 402, 403, 404, 405] (by decide +kernel) (by decide +kernel)
set_option maxRecDepth 20000 in
theorem pgX12_teach_11 : GoodIn wsL_law wsX12_teach_r11 := goodIn_r _ [406, 407, 408, 409, 410, 411, 412, 413, 414, 415, 416, 417, 418, 419, 420, 421, 422, 23, 423, 79, 424, 80, 81, 425] (by decide +kernel) (by decide +kernel)
set_option maxRecDepth 20000 in
theorem pgX12_teach_12 : GoodIn wsL_law wsX12_teach_r12 := goodIn_r _ [426, 427, 428, 429, 75, 76, 77, 430, 431, 432, 74, 433, 434, 435, 436, 437, 438, 71, 439, 440, 441, 83, 442, 443] (by decide +kernel) (by decide +kernel)
set_option maxRecDepth 20000 in
theorem pgX12_teach_13 : GoodIn wsL_law wsX12_teach_r13 := goodIn_r _ [444, 91, 445, 446, 447, 448, 449] (by decide +kernel) (by decide +kernel)
set_option maxRecDepth 20000 in
theorem ggL_law_X12_teach : GoodIn wsL_law wsX12_teach := goodIn_ca (goodIn_ca (goodIn_ca (goodIn_ca (goodIn_ca (goodIn_ca (goodIn_ca (goodIn_ca (goodIn_ca (goodIn_ca (goodIn_ca pgX12_teach_1 (goodIn_app pgX12_teach_2 (goodIn_app pgX12_teach_3 (goodIn_app pgX12_teach_4 (goodIn_app pgX12_teach_5 (goodIn_app pgX12_teach_6 (goodIn_app pgX12_teach_7 (goodIn_app pgX12_teach_8 (goodIn_app pgX12_teach_9 (goodIn_app pgX12_teach_10 (goodIn_app pgX12_teach_11 (goodIn_app pgX12_teach_12 (pgX12_teach_13))))))))))))) pgx_X12) pgx_X9) pgx_X8) pgx_X2) pgx_X10) pgx_X1) pgx_X11) pgx_X6) pgx_X7) pgx_X4
set_option maxRecDepth 20000 in
theorem gL_law_X12_teach : GoodIn wsL_law (wsV RL 120 RX12 yX12_teach wsX12_teach) := goodIn_app (goodIn_of _ (by decide +kernel)) ggL_law_X12_teach
set_option maxRecDepth 20000 in
theorem pgX14_teach_1 : GoodIn wsL_law (Cond.code yX14_teach cX14_teach 1 (some .int) :: wsX14_teach_r1) := goodIn_r _ [453, 163, 454, 455, 456, 457, 458, 459, 114, 164, 106, 460, 103, 113, 461, 462, 463, 112, 464, 465, 466, 467, 468, 469, 470] (by decide +kernel) (by decide +kernel)
set_option maxRecDepth 20000 in
theorem pgX14_teach_2 : GoodIn wsL_law wsX14_teach_r2 := goodIn_r _ [471, 472, 5, 473, 104, 474, 475, 476, 477, 478, 479, 480, 481, 102, 482, 483, 484, 485, 105, 107, 486, 487, 488, 190] (by decide +kernel) (by decide +kernel)
set_option maxRecDepth 20000 in
theorem pgX14_teach_3 : GoodIn wsL_law wsX14_teach_r3 := goodIn_r _ [191, 192, 489, 490, 491, 492, 493, 494, 495, 496, 497, 498, 499, 500, 501, 502, 503, 504, 505, 506, 507, 508, 509, 510] (by decide +kernel) (by decide +kernel)
set_option maxRecDepth 20000 in
theorem pgX14_teach_4 : GoodIn wsL_law wsX14_teach_r4 := goodIn_r _ [511, 512, 513, 514, 515, 516, 517, 518, 519, 520, 521, 522, 523, 524, 525, 526, 527, 528, 529, 530, 531, 532, 533, 534] (by decide +kernel) (by decide +kernel)
set_option maxRecDepth 20000 in
theorem pgX14_teach_5 : GoodIn wsL_law wsX14_teach_r5 := goodIn_r _ [535, 536, 537, 538, 539, 540, 541, 542, 543, 544, 545, 546, 547, 548, 549, 550, 551, 552, 553, 554, 555, 556, 557, 558] (by decide +kernel) (by decide +kernel)
set_option maxRecDepth 20000 in
theorem pgX14_teach_6 : GoodIn wsL_law wsX14_teach_r6 := goodIn_r _ [559, 560, 108, 109, 561, 562, 563, 564, 565, 566, 567, 568, 569, 570, 571, 572, 573, 574, 575, 576, 577, 578, 579, 580] (by decide +kernel) (by decide +kernel)
set_option maxRecDepth 20000 in
theorem pgX14_teach_7 : GoodIn wsL_law wsX14_teach_r7 := goodIn_r _ [581, 582, 583, 584, 585, 586, 587, 588, 589, 590, 591, 592, 593, 594, 595, 596, 597, 598, 599, 600, 601, 602, 603, 604] (by decide +kernel) (by decide +kernel)
set_option maxRecDepth 20000 in
theorem pgX14_teach_8 : GoodIn wsL_law wsX14_teach_r8 := goodIn_r _ [605, 606, 607, 608, 609, 610, 611, 612, 613, 614, 615, 616, 617, 618, 619, 620, 621, 622, 623, 624, 625, 626, 627, 628] (by decide +kernel) (by decide +kernel)
set_option maxRecDepth 20000 in
theorem pgX14_teach_9 : GoodIn wsL_law wsX14_teach_r9 := goodIn_r _ [629, 630, 631, 632, 633, 634, 635, 636, 637, 638, 639, 640, 641, 642, 643, 644, 645, 646, 647, 120, 121, 122, 123, 124] (by decide +kernel) (by decide +kernel)
set_option maxRecDepth 20000 in
theorem pgX14_teach_10 : GoodIn wsL_law wsX14_teach_r10 := goodIn_r _ [125, 126, 127, 128, 129, 130, 131, 132, 133, 134, 135, 648, 649, 650, 651, 652, 653, 654, 136, 137, 138, 139, 115, 140] (by decide +kernel) (by decide +kernel)
set_option maxRecDepth 20000 in
theorem pgX14_teach_11 : GoodIn wsL_law wsX14_teach_r11 := goodIn_r _ [141, 142] (by decide +kernel) (by decide +kernel)
set_option maxRecDepth 20000 in
theorem ggL_law_X14_teach : GoodIn wsL_law wsX14_teach := goodIn_ca (goodIn_ca (goodIn_ca pgX14_teach_1 (goodIn_app pgX14_teach_2 (goodIn_app pgX14_teach_3 (goodIn_app pgX14_teach_4 (goodIn_app pgX14_teach_5 (goodIn_app pgX14_teach_6 (goodIn_app pgX14_teach_7 (goodIn_app pgX14_teach_8 (goodIn_app pgX14_teach_9 (goodIn_app pgX14_teach_10 (pgX14_teach_11))))))))))) pgx_X14) pgx_X13
set_option maxRecDepth 20000 in
theorem gL_law_X14_teach : GoodIn wsL_law (wsV RL 123 RX14 yX14_teach wsX14_teach) := goodIn_app (goodIn_of _ (by decide +kernel)) ggL_law_X14_teach
set_option maxRecDepth 20000 in
theorem ggL_law_X12_errorAt : GoodIn wsL_law wsX12_errorAt := goodIn_r _ [658, 31, 1364, 1365, 1366, 1367, 1368, 1369, 1370] (by decide +kernel) (by decide +kernel)
set_option maxRecDepth 20000 in
theorem gL_law_X12_errorAt : GoodIn wsL_law (wsV RL 124 RX12 yX12_errorAt wsX12_errorAt) := goodIn_app (goodIn_of _ (by decide +kernel)) ggL_law_X12_errorAt
set_option maxRecDepth 20000 in
theorem ggL_law_X14_errorAt : GoodIn wsL_law wsX14_errorAt := goodIn_r _ [662, 103, 663, 664, 665, 5, 666, 163, 1371, 1372, 1373, 1374, 1375, 1376, 1377, 1378, 1379, 1380, 1381, 1382, 1383, 1384, 1385, 1386, 1387, 1388, 1389, 1390, 1391, 1392, 1393] (by decide +kernel) (by decide +kernel)
set_option maxRecDepth 20000 in
theorem gL_law_X14_errorAt : GoodIn wsL_law (wsV RL 127 RX14 yX14_errorAt wsX14_errorAt) := goodIn_app (goodIn_of _ (by decide +kernel)) ggL_law_X14_errorAt
set_option maxRecDepth 20000 in
theorem ggL_law_X12_pans : GoodIn wsL_law wsX12_pans := goodIn_r _ [670, 24, 1364, 1365, 1366, 1367, 1368, 1369, 1370, 1400, 1401, 1402, 1403, 1404, 1405, 1406, 1407, 1408, 1418, 1419, 1420, 1421, 1422, 1423, 1424] (by decide +kernel) (by decide +kernel)
set_option maxRecDepth 20000 in
theorem gL_law_X12_pans : GoodIn wsL_law (wsV RL 128 RX12 yX12_pans wsX12_pans) := goodIn_app (goodIn_of _ (by decide +kernel)) ggL_law_X12_pans
set_option maxRecDepth 20000 in
theorem ggL_law_X14_pans : GoodIn wsL_law wsX14_pans := goodIn_r _ [674, 113, 663, 664, 665, 5, 666, 163, 1371, 1372, 1373, 1374, 1375, 1376, 1377, 1378, 1379, 1380, 1381, 1382, 1383, 1384, 1385, 1386, 1387, 1388, 1389, 1390, 1391, 1392, 1393, 1432, 1433, 1434, 1435, 1436, 1437, 1438, 1439, 1440, 1441, 1442, 1443, 1444, 1445, 1446, 1447, 1448, 1449, 1450, 1451, 1452] (by decide +kernel) (by decide +kernel)
set_option maxRecDepth 20000 in
theorem gL_law_X14_pans : GoodIn wsL_law (wsV RL 131 RX14 yX14_pans wsX14_pans) := goodIn_app (goodIn_of _ (by decide +kernel)) ggL_law_X14_pans
set_option maxRecDepth 20000 in
theorem ggL_law_X12_recipes : GoodIn wsL_law wsX12_recipes := goodIn_r _ [678, 24, 1364, 1365, 1366, 1367, 1368, 1369, 1370, 1400, 1401, 1402, 1403, 1404, 1405, 1406, 1407, 1408, 1418, 1419, 1420, 1421, 1422, 1423, 1424] (by decide +kernel) (by decide +kernel)
set_option maxRecDepth 20000 in
theorem gL_law_X12_recipes : GoodIn wsL_law (wsV RL 132 RX12 yX12_recipes wsX12_recipes) := goodIn_app (goodIn_of _ (by decide +kernel)) ggL_law_X12_recipes
