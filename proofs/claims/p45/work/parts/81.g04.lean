set_option maxRecDepth 20000 in
theorem pgL_law_J4_toString_0e30d_3 : GoodIn wsL_law wsJ4_toString_0e30d_r4 := goodIn_r _ [363, 364, 280, 281, 282, 229, 230, 231, 283, 284, 285, 236, 286, 287, 239, 288, 365, 366, 367, 225, 244, 245, 131, 132] (by decide +kernel) (by decide +kernel)
set_option maxRecDepth 20000 in
theorem pgL_law_J4_toString_0e30d_4 : GoodIn wsL_law wsJ4_toString_0e30d_r5 := goodIn_r _ [133, 134, 368, 369, 370, 371] (by decide +kernel) (by decide +kernel)
set_option maxRecDepth 20000 in
theorem pgL_law_J4_toString_0e30d_5 : GoodIn wsL_law wsJ00 := goodIn_r _ [1288, 1289, 1290, 1291] (by decide +kernel) (by decide +kernel)
set_option maxRecDepth 20000 in
theorem pgL_law_J4_toString_0e30d_6 : GoodIn wsL_law wsJ40 := goodIn_r _ [1234, 1235, 1236, 1237] (by decide +kernel) (by decide +kernel)
set_option maxRecDepth 20000 in
theorem ggL_law_J4_toString_0e30d : GoodIn wsL_law wsJ4_toString_0e30d := goodIn_ca (goodIn_ca (goodIn_ca pgL_law_J4_toString_0e30d_0 (goodIn_app pgL_law_J4_toString_0e30d_1 (goodIn_app pgL_law_J4_toString_0e30d_2 (goodIn_app pgL_law_J4_toString_0e30d_3 (pgL_law_J4_toString_0e30d_4))))) pgL_law_J4_toString_0e30d_5) pgL_law_J4_toString_0e30d_6
set_option maxRecDepth 20000 in
theorem gL_law_J4_toString_0e30d : GoodIn wsL_law (wsV RL 44 RJ4 yJ4_toString_0e30d wsJ4_toString_0e30d) := goodIn_app (goodIn_of _ (by decide +kernel)) ggL_law_J4_toString_0e30d
set_option maxRecDepth 20000 in
theorem pgL_law_L_taught_0 : GoodIn wsL_law (Cond.code yL_taught cL_taught 6 (some .int) :: wsL_taught_r1) := goodIn_r _ [477, 13, 478, 247, 248, 234, 249, 250, 251, 252, 253, 254, 255, 256, 479, 480, 481, 482, 483, 484, 485, 486, 487, 488, 275] (by decide +kernel) (by decide +kernel)
set_option maxRecDepth 20000 in
theorem pgL_law_L_taught_1 : GoodIn wsL_law wsL_taught_r2 := goodIn_r _ [489, 490, 316, 317, 236, 318, 319, 239, 320, 491, 492, 129, 493, 312, 313, 314, 229, 230, 231, 315, 365, 366, 367, 225] (by decide +kernel) (by decide +kernel)
set_option maxRecDepth 20000 in
theorem pgL_law_L_taught_2 : GoodIn wsL_law wsL_taught_r3 := goodIn_r _ [244, 245, 494, 495, 496, 2, 497, 498, 499, 24, 500, 501, 502, 23, 503, 504, 44, 505, 506, 507, 508, 509, 510, 511] (by decide +kernel) (by decide +kernel)
set_option maxRecDepth 20000 in
theorem pgL_law_L_taught_3 : GoodIn wsL_law wsL_taught_r4 := goodIn_r _ [512, 513, 514, 515, 516, 517, 28, 39, 32, 518, 519, 520, 27, 521, 52, 53, 54, 55, 522, 51, 523, 524, 525, 526] (by decide +kernel) (by decide +kernel)
set_option maxRecDepth 20000 in
theorem pgL_law_L_taught_4 : GoodIn wsL_law wsL_taught_r5 := goodIn_r _ [66, 67, 68, 19, 20, 62, 69, 70, 71, 72, 73, 527, 528, 529, 50, 530, 531, 64, 532, 533, 534, 535, 536, 537] (by decide +kernel) (by decide +kernel)
set_option maxRecDepth 20000 in
theorem pgL_law_L_taught_5 : GoodIn wsL_law wsL_taught_r6 := goodIn_r _ [538, 539, 540, 541, 542, 543, 544, 545, 546, 547, 548, 549, 550, 551, 552, 553, 554, 555, 556, 557, 558, 559, 560, 561] (by decide +kernel) (by decide +kernel)
