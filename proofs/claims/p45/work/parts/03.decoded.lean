theorem dX12_highestSafe_39 : decode cX12_highestSafe 39 = .ok (.pop, 1) := by decide +kernel
theorem dX12_highestSafe_40 : decode cX12_highestSafe 40 = .ok (.aload_n 0, 1) := by decide +kernel
theorem dX12_highestSafe_41 : decode cX12_highestSafe 41 = .ok (.getfield 39, 3) := by decide +kernel
theorem dX12_highestSafe_44 : decode cX12_highestSafe 44 = .ok (.getfield 144, 3) := by decide +kernel
theorem dX12_highestSafe_47 : decode cX12_highestSafe 47 = .ok (.getfield 148, 3) := by decide +kernel
theorem dX12_highestSafe_50 : decode cX12_highestSafe 50 = .ok (.ifCond .ne 5, 3) := by decide +kernel
theorem dX12_highestSafe_53 : decode cX12_highestSafe 53 = .ok (.iload_n 2, 1) := by decide +kernel
theorem dX12_highestSafe_54 : decode cX12_highestSafe 54 = .ok (.ireturn, 1) := by decide +kernel
theorem dX12_highestSafe_55 : decode cX12_highestSafe 55 = .ok (.iinc 2 (-1), 3) := by decide +kernel
theorem dX12_highestSafe_58 : decode cX12_highestSafe 58 = .ok (.goto (-50), 3) := by decide +kernel
theorem dX12_highestSafe_61 : decode cX12_highestSafe 61 = .ok (.iconst (-1), 1) := by decide +kernel
theorem dX12_highestSafe_62 : decode cX12_highestSafe 62 = .ok (.ireturn, 1) := by decide +kernel
set_option maxRecDepth 20000 in
theorem ggX12_mostServings_X12_requireRecipe : GoodIn wsX12_mostServings wsX12_requireRecipe := goodIn_ca (goodIn_r _ [8, 2, 9, 10, 7, 11, 12, 13, 197, 198, 199, 200, 201, 202, 203, 204, 205, 206, 207, 208, 209, 210, 211, 212, 213, 214, 215, 216, 217, 218, 219] (by decide +kernel) (by decide +kernel)) (goodIn_sub (fun _ h => List.mem_cons_of_mem _ (List.mem_append_right _ h)) (by decide +kernel))
set_option maxRecDepth 20000 in
theorem gX12_mostServings_X12_requireRecipe : GoodIn wsX12_mostServings (wsV RX12 189 RX12 yX12_requireRecipe wsX12_requireRecipe) := goodIn_app (goodIn_of _ (by decide +kernel)) ggX12_mostServings_X12_requireRecipe
set_option maxRecDepth 20000 in
theorem ggX12_mostServings_X6_become : GoodIn wsX12_mostServings wsX6_become := goodIn_r _ [18, 19, 20, 21, 22, 23, 24, 25, 26, 17, 27, 28, 29, 30, 31, 32, 33, 34, 35, 36, 37, 38, 39, 40, 41, 42, 43, 44, 45, 46, 47, 48, 49, 50, 51, 204, 205, 206, 207, 208, 209, 210, 211, 212, 213, 214, 215, 216, 217, 218, 219, 220, 221, 222, 223, 224, 225, 226] (by decide +kernel) (by decide +kernel)
set_option maxRecDepth 20000 in
theorem gX12_mostServings_X6_become : GoodIn wsX12_mostServings (wsV RX12 195 RX6 yX6_become wsX6_become) := goodIn_app (goodIn_of _ (by decide +kernel)) ggX12_mostServings_X6_become
set_option maxRecDepth 20000 in
theorem pgX12_mostServings_X3_run_0 : GoodIn wsX12_mostServings (Cond.code yX3_run cX3_run 3 (some .int) :: wsX3_run_r1) := goodIn_r _ [56, 57, 58, 59, 60, 61, 62, 63, 64, 65, 66, 67, 68, 55, 69, 70, 71, 72, 73, 74, 75, 76, 77, 78, 79] (by decide +kernel) (by decide +kernel)
set_option maxRecDepth 20000 in
theorem pgX12_mostServings_X3_run_1 : GoodIn wsX12_mostServings wsX3_run_r2 := goodIn_r _ [80, 81, 82, 83, 84, 85, 86, 87, 88, 89, 90, 91, 92, 93, 94, 95, 96, 7, 97, 98, 99, 100, 17, 101] (by decide +kernel) (by decide +kernel)
set_option maxRecDepth 20000 in
theorem pgX12_mostServings_X3_run_2 : GoodIn wsX12_mostServings wsX3_run_r3 := goodIn_r _ [20, 102, 103, 104, 105, 38, 39, 40, 19, 41, 106, 107, 108, 109, 110, 111, 45, 112, 47, 48, 49, 113, 114, 115] (by decide +kernel) (by decide +kernel)
set_option maxRecDepth 20000 in
theorem pgX12_mostServings_X3_run_3 : GoodIn wsX12_mostServings wsX3_run_r4 := goodIn_r _ [116, 117, 118, 119, 120, 21, 22, 121, 122, 123, 124, 125, 126, 127, 128, 129, 130, 131, 132, 133, 134, 50, 51, 135] (by decide +kernel) (by decide +kernel)
set_option maxRecDepth 20000 in
theorem pgX12_mostServings_X3_run_4 : GoodIn wsX12_mostServings wsX3_run_r5 := goodIn_r _ [136, 137, 138, 139, 140, 141, 142, 143, 144, 145, 146, 147, 28, 30, 148, 149, 150, 34, 151, 36, 152, 153, 154, 155] (by decide +kernel) (by decide +kernel)
set_option maxRecDepth 20000 in
theorem pgX12_mostServings_X3_run_5 : GoodIn wsX12_mostServings wsX3_run_r6 := goodIn_r _ [156, 157, 158, 159, 160, 23, 37, 161, 162, 163, 164, 165, 166, 167, 168, 169, 170, 171, 172, 173, 174, 175, 176, 177] (by decide +kernel) (by decide +kernel)
set_option maxRecDepth 20000 in
theorem pgX12_mostServings_X3_run_6 : GoodIn wsX12_mostServings wsX3_run_r7 := goodIn_r _ [178, 179, 180, 181, 182, 183, 184, 185, 186, 187, 188, 189, 190, 191, 192] (by decide +kernel) (by decide +kernel)
set_option maxRecDepth 20000 in
theorem pgX12_mostServings_X3_run_7 : GoodIn wsX12_mostServings wsX30 := goodIn_r _ [227, 228, 229] (by decide +kernel) (by decide +kernel)
set_option maxRecDepth 20000 in
theorem pgX12_mostServings_X3_run_8 : GoodIn wsX12_mostServings wsX60 := goodIn_r _ [204, 205, 206, 207, 208, 209, 210, 211, 212] (by decide +kernel) (by decide +kernel)
set_option maxRecDepth 20000 in
theorem pgX12_mostServings_X3_run_9 : GoodIn wsX12_mostServings wsX20 := goodIn_r _ [213, 214, 215, 216, 217, 218, 219] (by decide +kernel) (by decide +kernel)
set_option maxRecDepth 20000 in
theorem pgX12_mostServings_X3_run_10 : GoodIn wsX12_mostServings wsX10 := goodIn_r _ [230, 231, 232, 233, 234, 235, 236, 237, 238] (by decide +kernel) (by decide +kernel)
set_option maxRecDepth 20000 in
theorem pgX12_mostServings_X3_run_11 : GoodIn wsX12_mostServings wsX110 := goodIn_r _ [239, 240, 241, 242, 243] (by decide +kernel) (by decide +kernel)
set_option maxRecDepth 20000 in
theorem pgX12_mostServings_X3_run_12 : GoodIn wsX12_mostServings wsX70 := goodIn_r _ [222, 223, 224, 225, 226] (by decide +kernel) (by decide +kernel)
set_option maxRecDepth 20000 in
theorem pgX12_mostServings_X3_run_13 : GoodIn wsX12_mostServings wsX40 := goodIn_r _ [220, 221] (by decide +kernel) (by decide +kernel)
set_option maxRecDepth 20000 in
theorem ggX12_mostServings_X3_run : GoodIn wsX12_mostServings wsX3_run := goodIn_ca (goodIn_ca (goodIn_ca (goodIn_ca (goodIn_ca (goodIn_ca (goodIn_ca (goodIn_ca pgX12_mostServings_X3_run_0 (goodIn_app pgX12_mostServings_X3_run_1 (goodIn_app pgX12_mostServings_X3_run_2 (goodIn_app pgX12_mostServings_X3_run_3 (goodIn_app pgX12_mostServings_X3_run_4 (goodIn_app pgX12_mostServings_X3_run_5 (pgX12_mostServings_X3_run_6))))))) pgX12_mostServings_X3_run_7) pgX12_mostServings_X3_run_8) pgX12_mostServings_X3_run_9) pgX12_mostServings_X3_run_10) pgX12_mostServings_X3_run_11) pgX12_mostServings_X3_run_12) pgX12_mostServings_X3_run_13
set_option maxRecDepth 20000 in
theorem gX12_mostServings_X3_run : GoodIn wsX12_mostServings (wsV RX12 192 RX3 yX3_run wsX3_run) := goodIn_app (goodIn_of _ (by decide +kernel)) ggX12_mostServings_X3_run
set_option maxRecDepth 20000 in
theorem ggX12_mostServings_X6_warningsOfKind : GoodIn wsX12_mostServings wsX6_warningsOfKind := goodIn_r _ [196, 30, 204, 205, 206, 207, 208, 209, 210, 211, 212] (by decide +kernel) (by decide +kernel)
set_option maxRecDepth 20000 in
theorem gX12_mostServings_X6_warningsOfKind : GoodIn wsX12_mostServings (wsV RX12 153 RX6 yX6_warningsOfKind wsX6_warningsOfKind) := goodIn_app (goodIn_of _ (by decide +kernel)) ggX12_mostServings_X6_warningsOfKind
theorem dX12_mostServings_0 : decode cX12_mostServings 0 = .ok (.aload_n 0, 1) := by decide +kernel
theorem dX12_mostServings_1 : decode cX12_mostServings 1 = .ok (.iload_n 1, 1) := by decide +kernel
theorem dX12_mostServings_2 : decode cX12_mostServings 2 = .ok (.invokevirtual 189, 3) := by decide +kernel
theorem dX12_mostServings_5 : decode cX12_mostServings 5 = .ok (.bipush 12, 2) := by decide +kernel
theorem dX12_mostServings_7 : decode cX12_mostServings 7 = .ok (.istore_n 2, 1) := by decide +kernel
theorem dX12_mostServings_8 : decode cX12_mostServings 8 = .ok (.iload_n 2, 1) := by decide +kernel
theorem dX12_mostServings_9 : decode cX12_mostServings 9 = .ok (.iconst 1, 1) := by decide +kernel
theorem dX12_mostServings_10 : decode cX12_mostServings 10 = .ok (.if_icmp .lt 50, 3) := by decide +kernel
theorem dX12_mostServings_13 : decode cX12_mostServings 13 = .ok (.aload_n 0, 1) := by decide +kernel
theorem dX12_mostServings_14 : decode cX12_mostServings 14 = .ok (.getfield 39, 3) := by decide +kernel
theorem dX12_mostServings_17 : decode cX12_mostServings 17 = .ok (.aload_n 0, 1) := by decide +kernel
theorem dX12_mostServings_18 : decode cX12_mostServings 18 = .ok (.getfield 26, 3) := by decide +kernel
theorem dX12_mostServings_21 : decode cX12_mostServings 21 = .ok (.invokevirtual 195, 3) := by decide +kernel
theorem dX12_mostServings_24 : decode cX12_mostServings 24 = .ok (.aload_n 0, 1) := by decide +kernel
theorem dX12_mostServings_25 : decode cX12_mostServings 25 = .ok (.getfield 39, 3) := by decide +kernel
theorem dX12_mostServings_28 : decode cX12_mostServings 28 = .ok (.iload_n 2, 1) := by decide +kernel
theorem dX12_mostServings_29 : decode cX12_mostServings 29 = .ok (.putfield 100, 3) := by decide +kernel
theorem dX12_mostServings_32 : decode cX12_mostServings 32 = .ok (.aload_n 0, 1) := by decide +kernel
theorem dX12_mostServings_33 : decode cX12_mostServings 33 = .ok (.getfield 42, 3) := by decide +kernel
theorem dX12_mostServings_36 : decode cX12_mostServings 36 = .ok (.iload_n 1, 1) := by decide +kernel
theorem dX12_mostServings_37 : decode cX12_mostServings 37 = .ok (.invokevirtual 192, 3) := by decide +kernel
theorem dX12_mostServings_40 : decode cX12_mostServings 40 = .ok (.pop, 1) := by decide +kernel
theorem dX12_mostServings_41 : decode cX12_mostServings 41 = .ok (.aload_n 0, 1) := by decide +kernel
theorem dX12_mostServings_42 : decode cX12_mostServings 42 = .ok (.getfield 39, 3) := by decide +kernel
theorem dX12_mostServings_45 : decode cX12_mostServings 45 = .ok (.iconst 1, 1) := by decide +kernel
theorem dX12_mostServings_46 : decode cX12_mostServings 46 = .ok (.invokevirtual 153, 3) := by decide +kernel
theorem dX12_mostServings_49 : decode cX12_mostServings 49 = .ok (.ifCond .ne 5, 3) := by decide +kernel
theorem dX12_mostServings_52 : decode cX12_mostServings 52 = .ok (.iload_n 2, 1) := by decide +kernel
theorem dX12_mostServings_53 : decode cX12_mostServings 53 = .ok (.ireturn, 1) := by decide +kernel
theorem dX12_mostServings_54 : decode cX12_mostServings 54 = .ok (.iinc 2 (-1), 3) := by decide +kernel
theorem dX12_mostServings_57 : decode cX12_mostServings 57 = .ok (.goto (-49), 3) := by decide +kernel
theorem dX12_mostServings_60 : decode cX12_mostServings 60 = .ok (.iconst (-1), 1) := by decide +kernel
theorem dX12_mostServings_61 : decode cX12_mostServings 61 = .ok (.ireturn, 1) := by decide +kernel
set_option maxRecDepth 20000 in
theorem ggX12_meanHeat_X6_panAt : GoodIn wsX12_meanHeat wsX6_panAt := goodIn_r _ [6, 7, 8, 16, 17, 18, 19, 20, 21, 22, 23, 24, 25, 26, 27, 28, 29, 30, 31] (by decide +kernel) (by decide +kernel)
set_option maxRecDepth 20000 in
theorem gX12_meanHeat_X6_panAt : GoodIn wsX12_meanHeat (wsV RX12 201 RX6 yX6_panAt wsX6_panAt) := goodIn_app (goodIn_of _ (by decide +kernel)) ggX12_meanHeat_X6_panAt
theorem dX12_meanHeat_0 : decode cX12_meanHeat 0 = .ok (.aload_n 0, 1) := by decide +kernel
theorem dX12_meanHeat_1 : decode cX12_meanHeat 1 = .ok (.getfield 26, 3) := by decide +kernel
theorem dX12_meanHeat_4 : decode cX12_meanHeat 4 = .ok (.getfield 82, 3) := by decide +kernel
theorem dX12_meanHeat_7 : decode cX12_meanHeat 7 = .ok (.getfield 83, 3) := by decide +kernel
theorem dX12_meanHeat_10 : decode cX12_meanHeat 10 = .ok (.istore_n 1, 1) := by decide +kernel
theorem dX12_meanHeat_11 : decode cX12_meanHeat 11 = .ok (.iload_n 1, 1) := by decide +kernel
theorem dX12_meanHeat_12 : decode cX12_meanHeat 12 = .ok (.ifCond .ne 5, 3) := by decide +kernel
theorem dX12_meanHeat_15 : decode cX12_meanHeat 15 = .ok (.dconst 0, 1) := by decide +kernel
theorem dX12_meanHeat_16 : decode cX12_meanHeat 16 = .ok (.dreturn, 1) := by decide +kernel
theorem dX12_meanHeat_17 : decode cX12_meanHeat 17 = .ok (.iconst 0, 1) := by decide +kernel
theorem dX12_meanHeat_18 : decode cX12_meanHeat 18 = .ok (.istore_n 2, 1) := by decide +kernel
theorem dX12_meanHeat_19 : decode cX12_meanHeat 19 = .ok (.iconst 0, 1) := by decide +kernel
theorem dX12_meanHeat_20 : decode cX12_meanHeat 20 = .ok (.istore_n 3, 1) := by decide +kernel
theorem dX12_meanHeat_21 : decode cX12_meanHeat 21 = .ok (.iload_n 3, 1) := by decide +kernel
theorem dX12_meanHeat_22 : decode cX12_meanHeat 22 = .ok (.iload_n 1, 1) := by decide +kernel
theorem dX12_meanHeat_23 : decode cX12_meanHeat 23 = .ok (.if_icmp .ge 36, 3) := by decide +kernel
theorem dX12_meanHeat_26 : decode cX12_meanHeat 26 = .ok (.aload_n 0, 1) := by decide +kernel
theorem dX12_meanHeat_27 : decode cX12_meanHeat 27 = .ok (.getfield 26, 3) := by decide +kernel
theorem dX12_meanHeat_30 : decode cX12_meanHeat 30 = .ok (.iload_n 3, 1) := by decide +kernel
theorem dX12_meanHeat_31 : decode cX12_meanHeat 31 = .ok (.invokevirtual 201, 3) := by decide +kernel
theorem dX12_meanHeat_34 : decode cX12_meanHeat 34 = .ok (.astore 4, 2) := by decide +kernel
theorem dX12_meanHeat_36 : decode cX12_meanHeat 36 = .ok (.iload_n 2, 1) := by decide +kernel
theorem dX12_meanHeat_37 : decode cX12_meanHeat 37 = .ok (.aload 4, 2) := by decide +kernel
theorem dX12_meanHeat_39 : decode cX12_meanHeat 39 = .ok (.ifnonnull 7, 3) := by decide +kernel
theorem dX12_meanHeat_42 : decode cX12_meanHeat 42 = .ok (.iconst 0, 1) := by decide +kernel
theorem dX12_meanHeat_43 : decode cX12_meanHeat 43 = .ok (.goto 8, 3) := by decide +kernel
theorem dX12_meanHeat_46 : decode cX12_meanHeat 46 = .ok (.aload 4, 2) := by decide +kernel
theorem dX12_meanHeat_48 : decode cX12_meanHeat 48 = .ok (.getfield 124, 3) := by decide +kernel
theorem dX12_meanHeat_51 : decode cX12_meanHeat 51 = .ok (.iadd, 1) := by decide +kernel
theorem dX12_meanHeat_52 : decode cX12_meanHeat 52 = .ok (.istore_n 2, 1) := by decide +kernel
theorem dX12_meanHeat_53 : decode cX12_meanHeat 53 = .ok (.iinc 3 1, 3) := by decide +kernel
theorem dX12_meanHeat_56 : decode cX12_meanHeat 56 = .ok (.goto (-35), 3) := by decide +kernel
theorem dX12_meanHeat_59 : decode cX12_meanHeat 59 = .ok (.iload_n 2, 1) := by decide +kernel
theorem dX12_meanHeat_60 : decode cX12_meanHeat 60 = .ok (.i2d, 1) := by decide +kernel
theorem dX12_meanHeat_61 : decode cX12_meanHeat 61 = .ok (.iload_n 1, 1) := by decide +kernel
theorem dX12_meanHeat_62 : decode cX12_meanHeat 62 = .ok (.i2d, 1) := by decide +kernel
theorem dX12_meanHeat_63 : decode cX12_meanHeat 63 = .ok (.ddiv, 1) := by decide +kernel
theorem dX12_meanHeat_64 : decode cX12_meanHeat 64 = .ok (.dreturn, 1) := by decide +kernel
set_option maxRecDepth 20000 in
theorem ggX12_digest_X12_mixed : GoodIn wsX12_digest wsX12_mixed := goodIn_r _ [6, 7] (by decide +kernel) (by decide +kernel)
set_option maxRecDepth 20000 in
theorem gX12_digest_X12_mixed : GoodIn wsX12_digest (va_wsS RX12 206 yX12_mixed wsX12_mixed) := goodIn_app (goodIn_of _ (by decide +kernel)) ggX12_digest_X12_mixed
set_option maxRecDepth 20000 in
theorem ggX12_digest_X6_warningsOfKind : GoodIn wsX12_digest wsX6_warningsOfKind := goodIn_r _ [12, 13, 52, 53, 54, 55, 56, 57, 58, 59, 60] (by decide +kernel) (by decide +kernel)
set_option maxRecDepth 20000 in
theorem gX12_digest_X6_warningsOfKind : GoodIn wsX12_digest (wsV RX12 153 RX6 yX6_warningsOfKind wsX6_warningsOfKind) := goodIn_app (goodIn_of _ (by decide +kernel)) ggX12_digest_X6_warningsOfKind
set_option maxRecDepth 20000 in
theorem ggX12_digest_X6_panAt : GoodIn wsX12_digest wsX6_panAt := goodIn_r _ [17, 18, 19, 52, 53, 54, 55, 56, 57, 58, 59, 60, 61, 62, 63, 64, 65, 66, 67] (by decide +kernel) (by decide +kernel)
set_option maxRecDepth 20000 in
theorem gX12_digest_X6_panAt : GoodIn wsX12_digest (wsV RX12 201 RX6 yX6_panAt wsX6_panAt) := goodIn_app (goodIn_of _ (by decide +kernel)) ggX12_digest_X6_panAt
set_option maxRecDepth 20000 in
theorem ggX12_digest_X12_mixedWithPan : GoodIn wsX12_digest wsX12_mixedWithPan := goodIn_r _ [22, 3, 4, 5, 6, 7, 70, 71, 72, 73, 74] (by decide +kernel) (by decide +kernel)
set_option maxRecDepth 20000 in
theorem gX12_digest_X12_mixedWithPan : GoodIn wsX12_digest (va_wsS RX12 210 yX12_mixedWithPan wsX12_mixedWithPan) := goodIn_app (goodIn_of _ (by decide +kernel)) ggX12_digest_X12_mixedWithPan
set_option maxRecDepth 20000 in
theorem ggX12_digest_X12_mixedWithHistory : GoodIn wsX12_digest wsX12_mixedWithHistory := goodIn_r _ [25, 26, 27, 28, 29, 30, 31, 32, 33, 34, 35, 36, 37, 38, 39, 40, 41, 42, 43, 44, 3, 4, 5, 6, 7, 68, 69] (by decide +kernel) (by decide +kernel)
set_option maxRecDepth 20000 in
theorem gX12_digest_X12_mixedWithHistory : GoodIn wsX12_digest (va_wsS RX12 214 yX12_mixedWithHistory wsX12_mixedWithHistory) := goodIn_app (goodIn_of _ (by decide +kernel)) ggX12_digest_X12_mixedWithHistory
theorem dX12_digest_0 : decode cX12_digest 0 = .ok (.ldc2_w 204, 3) := by decide +kernel
theorem dX12_digest_3 : decode cX12_digest 3 = .ok (.lstore_n 1, 1) := by decide +kernel
theorem dX12_digest_4 : decode cX12_digest 4 = .ok (.lload_n 1, 1) := by decide +kernel
theorem dX12_digest_5 : decode cX12_digest 5 = .ok (.aload_n 0, 1) := by decide +kernel
theorem dX12_digest_6 : decode cX12_digest 6 = .ok (.getfield 26, 3) := by decide +kernel
theorem dX12_digest_9 : decode cX12_digest 9 = .ok (.getfield 82, 3) := by decide +kernel
theorem dX12_digest_12 : decode cX12_digest 12 = .ok (.getfield 83, 3) := by decide +kernel
theorem dX12_digest_15 : decode cX12_digest 15 = .ok (.invokestatic 206, 3) := by decide +kernel
theorem dX12_digest_18 : decode cX12_digest 18 = .ok (.lstore_n 1, 1) := by decide +kernel
theorem dX12_digest_19 : decode cX12_digest 19 = .ok (.lload_n 1, 1) := by decide +kernel
theorem dX12_digest_20 : decode cX12_digest 20 = .ok (.aload_n 0, 1) := by decide +kernel
theorem dX12_digest_21 : decode cX12_digest 21 = .ok (.getfield 26, 3) := by decide +kernel
theorem dX12_digest_24 : decode cX12_digest 24 = .ok (.getfield 82, 3) := by decide +kernel
theorem dX12_digest_27 : decode cX12_digest 27 = .ok (.getfield 88, 3) := by decide +kernel
theorem dX12_digest_30 : decode cX12_digest 30 = .ok (.invokestatic 206, 3) := by decide +kernel
theorem dX12_digest_33 : decode cX12_digest 33 = .ok (.lstore_n 1, 1) := by decide +kernel
theorem dX12_digest_34 : decode cX12_digest 34 = .ok (.lload_n 1, 1) := by decide +kernel
theorem dX12_digest_35 : decode cX12_digest 35 = .ok (.aload_n 0, 1) := by decide +kernel
theorem dX12_digest_36 : decode cX12_digest 36 = .ok (.getfield 26, 3) := by decide +kernel
theorem dX12_digest_39 : decode cX12_digest 39 = .ok (.getfield 82, 3) := by decide +kernel
theorem dX12_digest_42 : decode cX12_digest 42 = .ok (.getfield 91, 3) := by decide +kernel
theorem dX12_digest_45 : decode cX12_digest 45 = .ok (.invokestatic 206, 3) := by decide +kernel
theorem dX12_digest_48 : decode cX12_digest 48 = .ok (.lstore_n 1, 1) := by decide +kernel
theorem dX12_digest_49 : decode cX12_digest 49 = .ok (.lload_n 1, 1) := by decide +kernel
theorem dX12_digest_50 : decode cX12_digest 50 = .ok (.aload_n 0, 1) := by decide +kernel
theorem dX12_digest_51 : decode cX12_digest 51 = .ok (.getfield 26, 3) := by decide +kernel
theorem dX12_digest_54 : decode cX12_digest 54 = .ok (.getfield 94, 3) := by decide +kernel
theorem dX12_digest_57 : decode cX12_digest 57 = .ok (.invokestatic 206, 3) := by decide +kernel
theorem dX12_digest_60 : decode cX12_digest 60 = .ok (.lstore_n 1, 1) := by decide +kernel
theorem dX12_digest_61 : decode cX12_digest 61 = .ok (.lload_n 1, 1) := by decide +kernel
theorem dX12_digest_62 : decode cX12_digest 62 = .ok (.aload_n 0, 1) := by decide +kernel
theorem dX12_digest_63 : decode cX12_digest 63 = .ok (.getfield 26, 3) := by decide +kernel
theorem dX12_digest_66 : decode cX12_digest 66 = .ok (.getfield 100, 3) := by decide +kernel
theorem dX12_digest_69 : decode cX12_digest 69 = .ok (.invokestatic 206, 3) := by decide +kernel
theorem dX12_digest_72 : decode cX12_digest 72 = .ok (.lstore_n 1, 1) := by decide +kernel
theorem dX12_digest_73 : decode cX12_digest 73 = .ok (.lload_n 1, 1) := by decide +kernel
theorem dX12_digest_74 : decode cX12_digest 74 = .ok (.aload_n 0, 1) := by decide +kernel
theorem dX12_digest_75 : decode cX12_digest 75 = .ok (.getfield 26, 3) := by decide +kernel
theorem dX12_digest_78 : decode cX12_digest 78 = .ok (.getfield 103, 3) := by decide +kernel
theorem dX12_digest_81 : decode cX12_digest 81 = .ok (.invokestatic 206, 3) := by decide +kernel
theorem dX12_digest_84 : decode cX12_digest 84 = .ok (.lstore_n 1, 1) := by decide +kernel
theorem dX12_digest_85 : decode cX12_digest 85 = .ok (.lload_n 1, 1) := by decide +kernel
theorem dX12_digest_86 : decode cX12_digest 86 = .ok (.aload_n 0, 1) := by decide +kernel
theorem dX12_digest_87 : decode cX12_digest 87 = .ok (.getfield 26, 3) := by decide +kernel
theorem dX12_digest_90 : decode cX12_digest 90 = .ok (.getfield 106, 3) := by decide +kernel
theorem dX12_digest_93 : decode cX12_digest 93 = .ok (.invokestatic 206, 3) := by decide +kernel
theorem dX12_digest_96 : decode cX12_digest 96 = .ok (.lstore_n 1, 1) := by decide +kernel
theorem dX12_digest_97 : decode cX12_digest 97 = .ok (.lload_n 1, 1) := by decide +kernel
theorem dX12_digest_98 : decode cX12_digest 98 = .ok (.aload_n 0, 1) := by decide +kernel
theorem dX12_digest_99 : decode cX12_digest 99 = .ok (.getfield 26, 3) := by decide +kernel
theorem dX12_digest_102 : decode cX12_digest 102 = .ok (.getfield 144, 3) := by decide +kernel
theorem dX12_digest_105 : decode cX12_digest 105 = .ok (.getfield 148, 3) := by decide +kernel
theorem dX12_digest_108 : decode cX12_digest 108 = .ok (.invokestatic 206, 3) := by decide +kernel
theorem dX12_digest_111 : decode cX12_digest 111 = .ok (.lstore_n 1, 1) := by decide +kernel
theorem dX12_digest_112 : decode cX12_digest 112 = .ok (.lload_n 1, 1) := by decide +kernel
theorem dX12_digest_113 : decode cX12_digest 113 = .ok (.aload_n 0, 1) := by decide +kernel
theorem dX12_digest_114 : decode cX12_digest 114 = .ok (.getfield 26, 3) := by decide +kernel
theorem dX12_digest_117 : decode cX12_digest 117 = .ok (.getfield 166, 3) := by decide +kernel
theorem dX12_digest_120 : decode cX12_digest 120 = .ok (.getfield 148, 3) := by decide +kernel
theorem dX12_digest_123 : decode cX12_digest 123 = .ok (.invokestatic 206, 3) := by decide +kernel
theorem dX12_digest_126 : decode cX12_digest 126 = .ok (.lstore_n 1, 1) := by decide +kernel
theorem dX12_digest_127 : decode cX12_digest 127 = .ok (.iconst 1, 1) := by decide +kernel
theorem dX12_digest_128 : decode cX12_digest 128 = .ok (.istore_n 3, 1) := by decide +kernel
theorem dX12_digest_129 : decode cX12_digest 129 = .ok (.iload_n 3, 1) := by decide +kernel
theorem dX12_digest_130 : decode cX12_digest 130 = .ok (.iconst 5, 1) := by decide +kernel
theorem dX12_digest_131 : decode cX12_digest 131 = .ok (.if_icmp .gt 22, 3) := by decide +kernel
theorem dX12_digest_134 : decode cX12_digest 134 = .ok (.lload_n 1, 1) := by decide +kernel
theorem dX12_digest_135 : decode cX12_digest 135 = .ok (.aload_n 0, 1) := by decide +kernel
theorem dX12_digest_136 : decode cX12_digest 136 = .ok (.getfield 26, 3) := by decide +kernel
theorem dX12_digest_139 : decode cX12_digest 139 = .ok (.iload_n 3, 1) := by decide +kernel
theorem dX12_digest_140 : decode cX12_digest 140 = .ok (.invokevirtual 153, 3) := by decide +kernel
theorem dX12_digest_143 : decode cX12_digest 143 = .ok (.invokestatic 206, 3) := by decide +kernel
theorem dX12_digest_146 : decode cX12_digest 146 = .ok (.lstore_n 1, 1) := by decide +kernel
theorem dX12_digest_147 : decode cX12_digest 147 = .ok (.iinc 3 1, 3) := by decide +kernel
theorem dX12_digest_150 : decode cX12_digest 150 = .ok (.goto (-21), 3) := by decide +kernel
theorem dX12_digest_153 : decode cX12_digest 153 = .ok (.iconst 0, 1) := by decide +kernel
theorem dX12_digest_154 : decode cX12_digest 154 = .ok (.istore_n 3, 1) := by decide +kernel
theorem dX12_digest_155 : decode cX12_digest 155 = .ok (.iload_n 3, 1) := by decide +kernel
theorem dX12_digest_156 : decode cX12_digest 156 = .ok (.aload_n 0, 1) := by decide +kernel
theorem dX12_digest_157 : decode cX12_digest 157 = .ok (.getfield 26, 3) := by decide +kernel
theorem dX12_digest_160 : decode cX12_digest 160 = .ok (.getfield 82, 3) := by decide +kernel
theorem dX12_digest_163 : decode cX12_digest 163 = .ok (.getfield 83, 3) := by decide +kernel
theorem dX12_digest_166 : decode cX12_digest 166 = .ok (.if_icmp .ge 22, 3) := by decide +kernel
theorem dX12_digest_169 : decode cX12_digest 169 = .ok (.lload_n 1, 1) := by decide +kernel
theorem dX12_digest_170 : decode cX12_digest 170 = .ok (.aload_n 0, 1) := by decide +kernel
theorem dX12_digest_171 : decode cX12_digest 171 = .ok (.getfield 26, 3) := by decide +kernel
theorem dX12_digest_174 : decode cX12_digest 174 = .ok (.iload_n 3, 1) := by decide +kernel
theorem dX12_digest_175 : decode cX12_digest 175 = .ok (.invokevirtual 201, 3) := by decide +kernel
theorem dX12_digest_178 : decode cX12_digest 178 = .ok (.invokestatic 210, 3) := by decide +kernel
theorem dX12_digest_181 : decode cX12_digest 181 = .ok (.lstore_n 1, 1) := by decide +kernel
theorem dX12_digest_182 : decode cX12_digest 182 = .ok (.iinc 3 1, 3) := by decide +kernel
theorem dX12_digest_185 : decode cX12_digest 185 = .ok (.goto (-30), 3) := by decide +kernel
theorem dX12_digest_188 : decode cX12_digest 188 = .ok (.lload_n 1, 1) := by decide +kernel
theorem dX12_digest_189 : decode cX12_digest 189 = .ok (.aload_n 0, 1) := by decide +kernel
theorem dX12_digest_190 : decode cX12_digest 190 = .ok (.getfield 26, 3) := by decide +kernel
theorem dX12_digest_193 : decode cX12_digest 193 = .ok (.getfield 144, 3) := by decide +kernel
theorem dX12_digest_196 : decode cX12_digest 196 = .ok (.invokestatic 214, 3) := by decide +kernel
theorem dX12_digest_199 : decode cX12_digest 199 = .ok (.aload_n 0, 1) := by decide +kernel
theorem dX12_digest_200 : decode cX12_digest 200 = .ok (.getfield 26, 3) := by decide +kernel
theorem dX12_digest_203 : decode cX12_digest 203 = .ok (.getfield 166, 3) := by decide +kernel
theorem dX12_digest_206 : decode cX12_digest 206 = .ok (.invokestatic 214, 3) := by decide +kernel
theorem dX12_digest_209 : decode cX12_digest 209 = .ok (.lreturn, 1) := by decide +kernel
theorem dX12_mixed_0 : decode cX12_mixed 0 = .ok (.lload_n 0, 1) := by decide +kernel
theorem dX12_mixed_1 : decode cX12_mixed 1 = .ok (.ldc2_w 218, 3) := by decide +kernel
theorem dX12_mixed_4 : decode cX12_mixed 4 = .ok (.lmul, 1) := by decide +kernel
theorem dX12_mixed_5 : decode cX12_mixed 5 = .ok (.iload_n 2, 1) := by decide +kernel
theorem dX12_mixed_6 : decode cX12_mixed 6 = .ok (.i2l, 1) := by decide +kernel
theorem dX12_mixed_7 : decode cX12_mixed 7 = .ok (.ladd, 1) := by decide +kernel
theorem dX12_mixed_8 : decode cX12_mixed 8 = .ok (.lreturn, 1) := by decide +kernel
set_option maxRecDepth 20000 in
theorem ggX12_mixedWithPan_X12_mixed : GoodIn wsX12_mixedWithPan wsX12_mixed := goodIn_r _ [4, 5] (by decide +kernel) (by decide +kernel)
set_option maxRecDepth 20000 in
theorem gX12_mixedWithPan_X12_mixed : GoodIn wsX12_mixedWithPan (va_wsS RX12 206 yX12_mixed wsX12_mixed) := goodIn_app (goodIn_of _ (by decide +kernel)) ggX12_mixedWithPan_X12_mixed
theorem dX12_mixedWithPan_0 : decode cX12_mixedWithPan 0 = .ok (.aload_n 2, 1) := by decide +kernel
theorem dX12_mixedWithPan_1 : decode cX12_mixedWithPan 1 = .ok (.ifnonnull 5, 3) := by decide +kernel
theorem dX12_mixedWithPan_4 : decode cX12_mixedWithPan 4 = .ok (.lload_n 0, 1) := by decide +kernel
theorem dX12_mixedWithPan_5 : decode cX12_mixedWithPan 5 = .ok (.lreturn, 1) := by decide +kernel
theorem dX12_mixedWithPan_6 : decode cX12_mixedWithPan 6 = .ok (.lload_n 0, 1) := by decide +kernel
theorem dX12_mixedWithPan_7 : decode cX12_mixedWithPan 7 = .ok (.aload_n 2, 1) := by decide +kernel
theorem dX12_mixedWithPan_8 : decode cX12_mixedWithPan 8 = .ok (.getfield 113, 3) := by decide +kernel
theorem dX12_mixedWithPan_11 : decode cX12_mixedWithPan 11 = .ok (.invokestatic 206, 3) := by decide +kernel
theorem dX12_mixedWithPan_14 : decode cX12_mixedWithPan 14 = .ok (.lstore_n 3, 1) := by decide +kernel
theorem dX12_mixedWithPan_15 : decode cX12_mixedWithPan 15 = .ok (.lload_n 3, 1) := by decide +kernel
theorem dX12_mixedWithPan_16 : decode cX12_mixedWithPan 16 = .ok (.aload_n 2, 1) := by decide +kernel
theorem dX12_mixedWithPan_17 : decode cX12_mixedWithPan 17 = .ok (.getfield 118, 3) := by decide +kernel
theorem dX12_mixedWithPan_20 : decode cX12_mixedWithPan 20 = .ok (.invokestatic 206, 3) := by decide +kernel
theorem dX12_mixedWithPan_23 : decode cX12_mixedWithPan 23 = .ok (.lstore_n 3, 1) := by decide +kernel
theorem dX12_mixedWithPan_24 : decode cX12_mixedWithPan 24 = .ok (.lload_n 3, 1) := by decide +kernel
theorem dX12_mixedWithPan_25 : decode cX12_mixedWithPan 25 = .ok (.aload_n 2, 1) := by decide +kernel
theorem dX12_mixedWithPan_26 : decode cX12_mixedWithPan 26 = .ok (.getfield 121, 3) := by decide +kernel
theorem dX12_mixedWithPan_29 : decode cX12_mixedWithPan 29 = .ok (.invokestatic 206, 3) := by decide +kernel
theorem dX12_mixedWithPan_32 : decode cX12_mixedWithPan 32 = .ok (.lstore_n 3, 1) := by decide +kernel
theorem dX12_mixedWithPan_33 : decode cX12_mixedWithPan 33 = .ok (.lload_n 3, 1) := by decide +kernel
theorem dX12_mixedWithPan_34 : decode cX12_mixedWithPan 34 = .ok (.aload_n 2, 1) := by decide +kernel
theorem dX12_mixedWithPan_35 : decode cX12_mixedWithPan 35 = .ok (.getfield 124, 3) := by decide +kernel
theorem dX12_mixedWithPan_38 : decode cX12_mixedWithPan 38 = .ok (.invokestatic 206, 3) := by decide +kernel
theorem dX12_mixedWithPan_41 : decode cX12_mixedWithPan 41 = .ok (.lstore_n 3, 1) := by decide +kernel
theorem dX12_mixedWithPan_42 : decode cX12_mixedWithPan 42 = .ok (.lload_n 3, 1) := by decide +kernel
theorem dX12_mixedWithPan_43 : decode cX12_mixedWithPan 43 = .ok (.aload_n 2, 1) := by decide +kernel
theorem dX12_mixedWithPan_44 : decode cX12_mixedWithPan 44 = .ok (.getfield 127, 3) := by decide +kernel
theorem dX12_mixedWithPan_47 : decode cX12_mixedWithPan 47 = .ok (.invokestatic 206, 3) := by decide +kernel
theorem dX12_mixedWithPan_50 : decode cX12_mixedWithPan 50 = .ok (.lreturn, 1) := by decide +kernel
set_option maxRecDepth 20000 in
theorem ggX12_mixedWithHistory_X4_kept : GoodIn wsX12_mixedWithHistory wsX4_kept := goodIn_r _ [5, 6, 7, 8, 9, 10, 25, 26] (by decide +kernel) (by decide +kernel)
set_option maxRecDepth 20000 in
theorem gX12_mixedWithHistory_X4_kept : GoodIn wsX12_mixedWithHistory (wsV RX12 156 RX4 yX4_kept wsX4_kept) := goodIn_app (goodIn_of _ (by decide +kernel)) ggX12_mixedWithHistory_X4_kept
set_option maxRecDepth 20000 in
theorem ggX12_mixedWithHistory_X4_recall : GoodIn wsX12_mixedWithHistory wsX4_recall := goodIn_r _ [14, 6, 15, 16, 17, 18, 19, 25, 26] (by decide +kernel) (by decide +kernel)
set_option maxRecDepth 20000 in
theorem gX12_mixedWithHistory_X4_recall : GoodIn wsX12_mixedWithHistory (wsV RX12 163 RX4 yX4_recall wsX4_recall) := goodIn_app (goodIn_of _ (by decide +kernel)) ggX12_mixedWithHistory_X4_recall
set_option maxRecDepth 20000 in
theorem ggX12_mixedWithHistory_X12_mixed : GoodIn wsX12_mixedWithHistory wsX12_mixed := goodIn_r _ [23, 24] (by decide +kernel) (by decide +kernel)
set_option maxRecDepth 20000 in
theorem gX12_mixedWithHistory_X12_mixed : GoodIn wsX12_mixedWithHistory (va_wsS RX12 206 yX12_mixed wsX12_mixed) := goodIn_app (goodIn_of _ (by decide +kernel)) ggX12_mixedWithHistory_X12_mixed
theorem dX12_mixedWithHistory_0 : decode cX12_mixedWithHistory 0 = .ok (.lload_n 0, 1) := by decide +kernel
theorem dX12_mixedWithHistory_1 : decode cX12_mixedWithHistory 1 = .ok (.lstore_n 3, 1) := by decide +kernel
theorem dX12_mixedWithHistory_2 : decode cX12_mixedWithHistory 2 = .ok (.aload_n 2, 1) := by decide +kernel
theorem dX12_mixedWithHistory_3 : decode cX12_mixedWithHistory 3 = .ok (.invokevirtual 156, 3) := by decide +kernel
theorem dX12_mixedWithHistory_6 : decode cX12_mixedWithHistory 6 = .ok (.istore 5, 2) := by decide +kernel
theorem dX12_mixedWithHistory_8 : decode cX12_mixedWithHistory 8 = .ok (.iconst 0, 1) := by decide +kernel
theorem dX12_mixedWithHistory_9 : decode cX12_mixedWithHistory 9 = .ok (.istore 6, 2) := by decide +kernel
theorem dX12_mixedWithHistory_11 : decode cX12_mixedWithHistory 11 = .ok (.iload 6, 2) := by decide +kernel
theorem dX12_mixedWithHistory_13 : decode cX12_mixedWithHistory 13 = .ok (.iload 5, 2) := by decide +kernel
theorem dX12_mixedWithHistory_15 : decode cX12_mixedWithHistory 15 = .ok (.if_icmp .ge 20, 3) := by decide +kernel
theorem dX12_mixedWithHistory_18 : decode cX12_mixedWithHistory 18 = .ok (.lload_n 3, 1) := by decide +kernel
theorem dX12_mixedWithHistory_19 : decode cX12_mixedWithHistory 19 = .ok (.aload_n 2, 1) := by decide +kernel
theorem dX12_mixedWithHistory_20 : decode cX12_mixedWithHistory 20 = .ok (.iload 6, 2) := by decide +kernel
theorem dX12_mixedWithHistory_22 : decode cX12_mixedWithHistory 22 = .ok (.invokevirtual 163, 3) := by decide +kernel
theorem dX12_mixedWithHistory_25 : decode cX12_mixedWithHistory 25 = .ok (.invokestatic 206, 3) := by decide +kernel
theorem dX12_mixedWithHistory_28 : decode cX12_mixedWithHistory 28 = .ok (.lstore_n 3, 1) := by decide +kernel
theorem dX12_mixedWithHistory_29 : decode cX12_mixedWithHistory 29 = .ok (.iinc 6 1, 3) := by decide +kernel
theorem dX12_mixedWithHistory_32 : decode cX12_mixedWithHistory 32 = .ok (.goto (-21), 3) := by decide +kernel
theorem dX12_mixedWithHistory_35 : decode cX12_mixedWithHistory 35 = .ok (.lload_n 3, 1) := by decide +kernel
theorem dX12_mixedWithHistory_36 : decode cX12_mixedWithHistory 36 = .ok (.lreturn, 1) := by decide +kernel
theorem dX12_requireWithin_0 : decode cX12_requireWithin 0 = .ok (.iload_n 0, 1) := by decide +kernel
theorem dX12_requireWithin_1 : decode cX12_requireWithin 1 = .ok (.iload_n 1, 1) := by decide +kernel
theorem dX12_requireWithin_2 : decode cX12_requireWithin 2 = .ok (.if_icmp .lt 8, 3) := by decide +kernel
theorem dX12_requireWithin_5 : decode cX12_requireWithin 5 = .ok (.iload_n 0, 1) := by decide +kernel
theorem dX12_requireWithin_6 : decode cX12_requireWithin 6 = .ok (.iload_n 2, 1) := by decide +kernel
theorem dX12_requireWithin_7 : decode cX12_requireWithin 7 = .ok (.if_icmp .le 13, 3) := by decide +kernel
theorem dX12_requireWithin_10 : decode cX12_requireWithin 10 = .ok (.new 220, 3) := by decide +kernel
theorem dX12_requireWithin_13 : decode cX12_requireWithin 13 = .ok (.dup, 1) := by decide +kernel
theorem dX12_requireWithin_14 : decode cX12_requireWithin 14 = .ok (.ldc 222, 2) := by decide +kernel
theorem dX12_requireWithin_16 : decode cX12_requireWithin 16 = .ok (.invokespecial 224, 3) := by decide +kernel
theorem dX12_requireWithin_19 : decode cX12_requireWithin 19 = .ok (.athrow, 1) := by decide +kernel
theorem dX12_requireWithin_20 : decode cX12_requireWithin 20 = .ok (.return_, 1) := by decide +kernel
theorem dX12_requireIndex_0 : decode cX12_requireIndex 0 = .ok (.iload_n 0, 1) := by decide +kernel
theorem dX12_requireIndex_1 : decode cX12_requireIndex 1 = .ok (.ifCond .lt 8, 3) := by decide +kernel
theorem dX12_requireIndex_4 : decode cX12_requireIndex 4 = .ok (.iload_n 0, 1) := by decide +kernel
theorem dX12_requireIndex_5 : decode cX12_requireIndex 5 = .ok (.iload_n 1, 1) := by decide +kernel
theorem dX12_requireIndex_6 : decode cX12_requireIndex 6 = .ok (.if_icmp .lt 13, 3) := by decide +kernel
theorem dX12_requireIndex_9 : decode cX12_requireIndex 9 = .ok (.new 225, 3) := by decide +kernel
theorem dX12_requireIndex_12 : decode cX12_requireIndex 12 = .ok (.dup, 1) := by decide +kernel
theorem dX12_requireIndex_13 : decode cX12_requireIndex 13 = .ok (.ldc 227, 2) := by decide +kernel
theorem dX12_requireIndex_15 : decode cX12_requireIndex 15 = .ok (.invokespecial 229, 3) := by decide +kernel
theorem dX12_requireIndex_18 : decode cX12_requireIndex 18 = .ok (.athrow, 1) := by decide +kernel
theorem dX12_requireIndex_19 : decode cX12_requireIndex 19 = .ok (.return_, 1) := by decide +kernel
set_option maxRecDepth 20000 in
theorem ggX12_requireRecipe_X12_requireIndex : GoodIn wsX12_requireRecipe wsX12_requireIndex := goodIn_ca (goodIn_r _ [5, 6, 7] (by decide +kernel) (by decide +kernel)) (goodIn_sub (fun _ h => List.mem_cons_of_mem _ (List.mem_append_right _ h)) (by decide +kernel))
set_option maxRecDepth 20000 in
theorem gX12_requireRecipe_X12_requireIndex : GoodIn wsX12_requireRecipe (va_wsS RX12 159 yX12_requireIndex wsX12_requireIndex) := goodIn_app (goodIn_of _ (by decide +kernel)) ggX12_requireRecipe_X12_requireIndex
theorem dX12_requireRecipe_0 : decode cX12_requireRecipe 0 = .ok (.iload_n 1, 1) := by decide +kernel
theorem dX12_requireRecipe_1 : decode cX12_requireRecipe 1 = .ok (.aload_n 0, 1) := by decide +kernel
theorem dX12_requireRecipe_2 : decode cX12_requireRecipe 2 = .ok (.getfield 26, 3) := by decide +kernel
theorem dX12_requireRecipe_5 : decode cX12_requireRecipe 5 = .ok (.getfield 82, 3) := by decide +kernel
theorem dX12_requireRecipe_8 : decode cX12_requireRecipe 8 = .ok (.getfield 88, 3) := by decide +kernel
theorem dX12_requireRecipe_11 : decode cX12_requireRecipe 11 = .ok (.invokestatic 159, 3) := by decide +kernel
theorem dX12_requireRecipe_14 : decode cX12_requireRecipe 14 = .ok (.return_, 1) := by decide +kernel
set_option maxRecDepth 20000 in
theorem ggX12_requirePan_X6_panAt : GoodIn wsX12_requirePan wsX6_panAt := goodIn_r _ [8, 9, 10, 18, 19, 20, 21, 22, 23, 24, 25, 26, 27, 28, 29, 30, 31, 32, 33] (by decide +kernel) (by decide +kernel)
set_option maxRecDepth 20000 in
theorem gX12_requirePan_X6_panAt : GoodIn wsX12_requirePan (wsV RX12 201 RX6 yX6_panAt wsX6_panAt) := goodIn_app (goodIn_of _ (by decide +kernel)) ggX12_requirePan_X6_panAt
theorem dX12_requirePan_0 : decode cX12_requirePan 0 = .ok (.aload_n 0, 1) := by decide +kernel
theorem dX12_requirePan_1 : decode cX12_requirePan 1 = .ok (.getfield 26, 3) := by decide +kernel
theorem dX12_requirePan_4 : decode cX12_requirePan 4 = .ok (.iload_n 1, 1) := by decide +kernel
theorem dX12_requirePan_5 : decode cX12_requirePan 5 = .ok (.invokevirtual 201, 3) := by decide +kernel
theorem dX12_requirePan_8 : decode cX12_requirePan 8 = .ok (.astore_n 2, 1) := by decide +kernel
theorem dX12_requirePan_9 : decode cX12_requirePan 9 = .ok (.aload_n 2, 1) := by decide +kernel
theorem dX12_requirePan_10 : decode cX12_requirePan 10 = .ok (.ifnonnull 13, 3) := by decide +kernel
theorem dX12_requirePan_13 : decode cX12_requirePan 13 = .ok (.new 225, 3) := by decide +kernel
theorem dX12_requirePan_16 : decode cX12_requirePan 16 = .ok (.dup, 1) := by decide +kernel
theorem dX12_requirePan_17 : decode cX12_requirePan 17 = .ok (.ldc 230, 2) := by decide +kernel
theorem dX12_requirePan_19 : decode cX12_requirePan 19 = .ok (.invokespecial 229, 3) := by decide +kernel
theorem dX12_requirePan_22 : decode cX12_requirePan 22 = .ok (.athrow, 1) := by decide +kernel
theorem dX12_requirePan_23 : decode cX12_requirePan 23 = .ok (.aload_n 2, 1) := by decide +kernel
theorem dX12_requirePan_24 : decode cX12_requirePan 24 = .ok (.areturn, 1) := by decide +kernel
theorem dX12_quotient_0 : decode cX12_quotient 0 = .ok (.iload_n 1, 1) := by decide +kernel
theorem dX12_quotient_1 : decode cX12_quotient 1 = .ok (.ifCond .ne 7, 3) := by decide +kernel
theorem dX12_quotient_4 : decode cX12_quotient 4 = .ok (.iconst 0, 1) := by decide +kernel
theorem dX12_quotient_5 : decode cX12_quotient 5 = .ok (.goto 6, 3) := by decide +kernel
theorem dX12_quotient_8 : decode cX12_quotient 8 = .ok (.iload_n 0, 1) := by decide +kernel
theorem dX12_quotient_9 : decode cX12_quotient 9 = .ok (.iload_n 1, 1) := by decide +kernel
theorem dX12_quotient_10 : decode cX12_quotient 10 = .ok (.idiv, 1) := by decide +kernel
theorem dX12_quotient_11 : decode cX12_quotient 11 = .ok (.ireturn, 1) := by decide +kernel
theorem dX12_clamped_0 : decode cX12_clamped 0 = .ok (.iload_n 1, 1) := by decide +kernel
theorem dX12_clamped_1 : decode cX12_clamped 1 = .ok (.iload_n 2, 1) := by decide +kernel
theorem dX12_clamped_2 : decode cX12_clamped 2 = .ok (.iload_n 0, 1) := by decide +kernel
theorem dX12_clamped_3 : decode cX12_clamped 3 = .ok (.invokestatic 232, 3) := by decide +kernel
theorem dX12_clamped_6 : decode cX12_clamped 6 = .ok (.invokestatic 237, 3) := by decide +kernel
theorem dX12_clamped_9 : decode cX12_clamped 9 = .ok (.ireturn, 1) := by decide +kernel
theorem dX13_init_0 : decode cX13_init 0 = .ok (.aload_n 0, 1) := by decide +kernel
theorem dX13_init_1 : decode cX13_init 1 = .ok (.invokespecial 1, 3) := by decide +kernel
theorem dX13_init_4 : decode cX13_init 4 = .ok (.aload_n 0, 1) := by decide +kernel
theorem dX13_init_5 : decode cX13_init 5 = .ok (.iconst 0, 1) := by decide +kernel
theorem dX13_init_6 : decode cX13_init 6 = .ok (.newarray .int, 2) := by decide +kernel
theorem dX13_init_8 : decode cX13_init 8 = .ok (.putfield 7, 3) := by decide +kernel
theorem dX13_init_11 : decode cX13_init 11 = .ok (.aload_n 0, 1) := by decide +kernel
theorem dX13_init_12 : decode cX13_init 12 = .ok (.iconst 0, 1) := by decide +kernel
theorem dX13_init_13 : decode cX13_init 13 = .ok (.anewarray 13, 3) := by decide +kernel
theorem dX13_init_16 : decode cX13_init 16 = .ok (.putfield 15, 3) := by decide +kernel
theorem dX13_init_19 : decode cX13_init 19 = .ok (.aload_n 0, 1) := by decide +kernel
theorem dX13_init_20 : decode cX13_init 20 = .ok (.iconst 0, 1) := by decide +kernel
theorem dX13_init_21 : decode cX13_init 21 = .ok (.anewarray 13, 3) := by decide +kernel
theorem dX13_init_24 : decode cX13_init 24 = .ok (.putfield 19, 3) := by decide +kernel
theorem dX13_init_27 : decode cX13_init 27 = .ok (.aload_n 0, 1) := by decide +kernel
theorem dX13_init_28 : decode cX13_init 28 = .ok (.iconst 0, 1) := by decide +kernel
theorem dX13_init_29 : decode cX13_init 29 = .ok (.anewarray 8, 3) := by decide +kernel
theorem dX13_init_32 : decode cX13_init 32 = .ok (.putfield 22, 3) := by decide +kernel
theorem dX13_init_35 : decode cX13_init 35 = .ok (.return_, 1) := by decide +kernel
set_option maxRecDepth 20000 in
theorem ggX13_some_X14_next : GoodIn wsX13_some wsX14_next := goodIn_r _ [6, 7, 8, 9, 10, 11, 12, 65] (by decide +kernel) (by decide +kernel)
set_option maxRecDepth 20000 in
theorem gX13_some_X14_next : GoodIn wsX13_some (wsV RX13 26 RX14 yX14_next wsX14_next) := goodIn_app (goodIn_of _ (by decide +kernel)) ggX13_some_X14_next
set_option maxRecDepth 20000 in
theorem ggX13_some_X13_drawn : GoodIn wsX13_some wsX13_drawn := goodIn_r _ [16, 1, 17, 15, 18, 19, 20, 21, 22, 23, 24, 25, 26, 27, 28, 29, 30, 31, 32, 33, 34, 35, 2, 3, 4, 5, 6, 7, 8, 9, 10, 11, 12, 36, 37, 38, 39, 40, 41, 42, 43, 44, 45, 46, 47, 48, 49, 50, 51, 52, 0, 13, 14, 53, 54, 55, 56, 57, 58, 59, 60, 61, 62, 63, 64, 65] (by decide +kernel) (by decide +kernel)
set_option maxRecDepth 20000 in
theorem gX13_some_X13_drawn : GoodIn wsX13_some (va_wsS RX13 32 yX13_drawn wsX13_drawn) := goodIn_app (goodIn_of _ (by decide +kernel)) ggX13_some_X13_drawn
theorem dX13_some_0 : decode cX13_some 0 = .ok (.aload_n 0, 1) := by decide +kernel
theorem dX13_some_1 : decode cX13_some 1 = .ok (.iload_n 3, 1) := by decide +kernel
theorem dX13_some_2 : decode cX13_some 2 = .ok (.ifCond .ne 7, 3) := by decide +kernel
theorem dX13_some_5 : decode cX13_some 5 = .ok (.iconst 5, 1) := by decide +kernel
theorem dX13_some_6 : decode cX13_some 6 = .ok (.goto 4, 3) := by decide +kernel
theorem dX13_some_9 : decode cX13_some 9 = .ok (.iconst 3, 1) := by decide +kernel
theorem dX13_some_10 : decode cX13_some 10 = .ok (.invokevirtual 26, 3) := by decide +kernel
theorem dX13_some_13 : decode cX13_some 13 = .ok (.istore 5, 2) := by decide +kernel
theorem dX13_some_15 : decode cX13_some 15 = .ok (.iload 5, 2) := by decide +kernel
theorem dX13_some_17 : decode cX13_some 17 = .ok (.aload 4, 2) := by decide +kernel
theorem dX13_some_19 : decode cX13_some 19 = .ok (.iconst 0, 1) := by decide +kernel
theorem dX13_some_20 : decode cX13_some 20 = .ok (.iaload, 1) := by decide +kernel
theorem dX13_some_21 : decode cX13_some 21 = .ok (.if_icmp .ge 8, 3) := by decide +kernel
theorem dX13_some_24 : decode cX13_some 24 = .ok (.iload 5, 2) := by decide +kernel
theorem dX13_some_26 : decode cX13_some 26 = .ok (.goto 7, 3) := by decide +kernel
theorem dX13_some_29 : decode cX13_some 29 = .ok (.aload 4, 2) := by decide +kernel
theorem dX13_some_31 : decode cX13_some 31 = .ok (.iconst 0, 1) := by decide +kernel
theorem dX13_some_32 : decode cX13_some 32 = .ok (.iaload, 1) := by decide +kernel
theorem dX13_some_33 : decode cX13_some 33 = .ok (.anewarray 8, 3) := by decide +kernel
theorem dX13_some_36 : decode cX13_some 36 = .ok (.astore 6, 2) := by decide +kernel
theorem dX13_some_38 : decode cX13_some 38 = .ok (.aload 4, 2) := by decide +kernel
theorem dX13_some_40 : decode cX13_some 40 = .ok (.iconst 0, 1) := by decide +kernel
theorem dX13_some_41 : decode cX13_some 41 = .ok (.dup2, 1) := by decide +kernel
theorem dX13_some_42 : decode cX13_some 42 = .ok (.iaload, 1) := by decide +kernel
theorem dX13_some_43 : decode cX13_some 43 = .ok (.aload 6, 2) := by decide +kernel
theorem dX13_some_45 : decode cX13_some 45 = .ok (.arraylength, 1) := by decide +kernel
theorem dX13_some_46 : decode cX13_some 46 = .ok (.isub, 1) := by decide +kernel
theorem dX13_some_47 : decode cX13_some 47 = .ok (.iastore, 1) := by decide +kernel
theorem dX13_some_48 : decode cX13_some 48 = .ok (.iconst 0, 1) := by decide +kernel
theorem dX13_some_49 : decode cX13_some 49 = .ok (.istore 7, 2) := by decide +kernel
theorem dX13_some_51 : decode cX13_some 51 = .ok (.iload 7, 2) := by decide +kernel
theorem dX13_some_53 : decode cX13_some 53 = .ok (.aload 6, 2) := by decide +kernel
theorem dX13_some_55 : decode cX13_some 55 = .ok (.arraylength, 1) := by decide +kernel
theorem dX13_some_56 : decode cX13_some 56 = .ok (.if_icmp .ge 23, 3) := by decide +kernel
theorem dX13_some_59 : decode cX13_some 59 = .ok (.aload 6, 2) := by decide +kernel
theorem dX13_some_61 : decode cX13_some 61 = .ok (.iload 7, 2) := by decide +kernel
theorem dX13_some_63 : decode cX13_some 63 = .ok (.aload_n 0, 1) := by decide +kernel
theorem dX13_some_64 : decode cX13_some 64 = .ok (.iload_n 1, 1) := by decide +kernel
theorem dX13_some_65 : decode cX13_some 65 = .ok (.iload_n 2, 1) := by decide +kernel
theorem dX13_some_66 : decode cX13_some 66 = .ok (.iload_n 3, 1) := by decide +kernel
theorem dX13_some_67 : decode cX13_some 67 = .ok (.aload 4, 2) := by decide +kernel
theorem dX13_some_69 : decode cX13_some 69 = .ok (.invokestatic 32, 3) := by decide +kernel
theorem dX13_some_72 : decode cX13_some 72 = .ok (.aastore, 1) := by decide +kernel
theorem dX13_some_73 : decode cX13_some 73 = .ok (.iinc 7 1, 3) := by decide +kernel
theorem dX13_some_76 : decode cX13_some 76 = .ok (.goto (-25), 3) := by decide +kernel
theorem dX13_some_79 : decode cX13_some 79 = .ok (.aload 6, 2) := by decide +kernel
theorem dX13_some_81 : decode cX13_some 81 = .ok (.areturn, 1) := by decide +kernel
set_option maxRecDepth 20000 in
theorem ggX13_drawn_X13_init : GoodIn wsX13_drawn wsX13_init := goodIn_r _ [18, 19, 20, 21, 10, 11, 7, 12, 13, 1, 14, 53, 54, 55, 56, 57, 58, 59, 60] (by decide +kernel) (by decide +kernel)
set_option maxRecDepth 20000 in
theorem gX13_drawn_X13_init : GoodIn wsX13_drawn (wsX13_init) := ggX13_drawn_X13_init
set_option maxRecDepth 20000 in
theorem ggX13_drawn_X14_next : GoodIn wsX13_drawn wsX14_next := goodIn_r _ [26, 27, 28, 29, 30, 31, 32, 65] (by decide +kernel) (by decide +kernel)
set_option maxRecDepth 20000 in
theorem gX13_drawn_X14_next : GoodIn wsX13_drawn (wsV RX13 26 RX14 yX14_next wsX14_next) := goodIn_app (goodIn_of _ (by decide +kernel)) ggX13_drawn_X14_next
set_option maxRecDepth 20000 in
theorem ggX13_drawn_X16_drawn : GoodIn wsX13_drawn wsX16_drawn := goodIn_r _ [35, 36, 8, 9, 37, 23, 24, 25, 26, 27, 28, 29, 30, 31, 32, 38, 34, 39, 40, 41, 42, 20, 21, 43, 44, 45, 46, 61, 62, 63, 64, 65] (by decide +kernel) (by decide +kernel)
set_option maxRecDepth 20000 in
theorem gX13_drawn_X16_drawn : GoodIn wsX13_drawn (va_wsS RX13 44 yX16_drawn wsX16_drawn) := goodIn_app (goodIn_of _ (by decide +kernel)) ggX13_drawn_X16_drawn
set_option maxRecDepth 20000 in
theorem ggX13_drawn_X16_init : GoodIn wsX13_drawn wsX16_init := goodIn_r _ [41, 42, 20, 21, 43, 44, 45, 46, 61, 62, 63, 64] (by decide +kernel) (by decide +kernel)
set_option maxRecDepth 20000 in
theorem gX13_drawn_X16_init : GoodIn wsX13_drawn (wsX16_init) := ggX13_drawn_X16_init
set_option maxRecDepth 20000 in
theorem ggX13_drawn_X13_some : GoodIn wsX13_drawn wsX13_some := goodIn_r _ [50, 1, 22, 23, 24, 25, 26, 27, 28, 29, 30, 31, 32, 51, 52, 3, 0, 2, 4, 5, 6, 7, 8, 9, 10, 11, 12, 13, 14, 15, 16, 17, 18, 19, 20, 21, 33, 34, 35, 36, 37, 38, 39, 40, 41, 42, 43, 44, 45, 46, 47, 48, 49, 53, 54, 55, 56, 57, 58, 59, 60, 61, 62, 63, 64, 65] (by decide +kernel) (by decide +kernel)
set_option maxRecDepth 20000 in
theorem gX13_drawn_X13_some : GoodIn wsX13_drawn (va_wsS RX13 54 yX13_some wsX13_some) := goodIn_app (goodIn_of _ (by decide +kernel)) ggX13_drawn_X13_some
theorem dX13_drawn_0 : decode cX13_drawn 0 = .ok (.new 8, 3) := by decide +kernel
theorem dX13_drawn_3 : decode cX13_drawn 3 = .ok (.dup, 1) := by decide +kernel
theorem dX13_drawn_4 : decode cX13_drawn 4 = .ok (.invokespecial 36, 3) := by decide +kernel
theorem dX13_drawn_7 : decode cX13_drawn 7 = .ok (.astore 5, 2) := by decide +kernel
theorem dX13_drawn_9 : decode cX13_drawn 9 = .ok (.aload_n 0, 1) := by decide +kernel
theorem dX13_drawn_10 : decode cX13_drawn 10 = .ok (.iload_n 3, 1) := by decide +kernel
theorem dX13_drawn_11 : decode cX13_drawn 11 = .ok (.iconst 3, 1) := by decide +kernel
theorem dX13_drawn_12 : decode cX13_drawn 12 = .ok (.if_icmp .ge 8, 3) := by decide +kernel
theorem dX13_drawn_15 : decode cX13_drawn 15 = .ok (.bipush 15, 2) := by decide +kernel
theorem dX13_drawn_17 : decode cX13_drawn 17 = .ok (.goto 5, 3) := by decide +kernel
theorem dX13_drawn_20 : decode cX13_drawn 20 = .ok (.bipush 12, 2) := by decide +kernel
theorem dX13_drawn_22 : decode cX13_drawn 22 = .ok (.invokevirtual 26, 3) := by decide +kernel
theorem dX13_drawn_25 : decode cX13_drawn 25 = .ok (.istore 6, 2) := by decide +kernel
theorem dX13_drawn_27 : decode cX13_drawn 27 = .ok (.aload 5, 2) := by decide +kernel
theorem dX13_drawn_29 : decode cX13_drawn 29 = .ok (.iload 6, 2) := by decide +kernel
theorem dX13_drawn_31 : decode cX13_drawn 31 = .ok (.iconst 3, 1) := by decide +kernel
theorem dX13_drawn_32 : decode cX13_drawn 32 = .ok (.if_icmp .ge 7, 3) := by decide +kernel
theorem dX13_drawn_35 : decode cX13_drawn 35 = .ok (.iconst 0, 1) := by decide +kernel
theorem dX13_drawn_36 : decode cX13_drawn 36 = .ok (.goto 73, 3) := by decide +kernel
theorem dX13_drawn_39 : decode cX13_drawn 39 = .ok (.iload 6, 2) := by decide +kernel
theorem dX13_drawn_41 : decode cX13_drawn 41 = .ok (.iconst 5, 1) := by decide +kernel
theorem dX13_drawn_42 : decode cX13_drawn 42 = .ok (.if_icmp .ge 7, 3) := by decide +kernel
theorem dX13_drawn_45 : decode cX13_drawn 45 = .ok (.iconst 1, 1) := by decide +kernel
theorem dX13_drawn_46 : decode cX13_drawn 46 = .ok (.goto 63, 3) := by decide +kernel
theorem dX13_drawn_49 : decode cX13_drawn 49 = .ok (.iload 6, 2) := by decide +kernel
theorem dX13_drawn_51 : decode cX13_drawn 51 = .ok (.bipush 7, 2) := by decide +kernel
theorem dX13_drawn_53 : decode cX13_drawn 53 = .ok (.if_icmp .ge 7, 3) := by decide +kernel
theorem dX13_drawn_56 : decode cX13_drawn 56 = .ok (.iconst 2, 1) := by decide +kernel
theorem dX13_drawn_57 : decode cX13_drawn 57 = .ok (.goto 52, 3) := by decide +kernel
theorem dX13_drawn_60 : decode cX13_drawn 60 = .ok (.iload 6, 2) := by decide +kernel
theorem dX13_drawn_62 : decode cX13_drawn 62 = .ok (.bipush 9, 2) := by decide +kernel
theorem dX13_drawn_64 : decode cX13_drawn 64 = .ok (.if_icmp .ge 7, 3) := by decide +kernel
theorem dX13_drawn_67 : decode cX13_drawn 67 = .ok (.iconst 3, 1) := by decide +kernel
theorem dX13_drawn_68 : decode cX13_drawn 68 = .ok (.goto 41, 3) := by decide +kernel
theorem dX13_drawn_71 : decode cX13_drawn 71 = .ok (.iload 6, 2) := by decide +kernel
theorem dX13_drawn_73 : decode cX13_drawn 73 = .ok (.bipush 12, 2) := by decide +kernel
theorem dX13_drawn_75 : decode cX13_drawn 75 = .ok (.if_icmp .ge 10, 3) := by decide +kernel
theorem dX13_drawn_78 : decode cX13_drawn 78 = .ok (.iload 6, 2) := by decide +kernel
theorem dX13_drawn_80 : decode cX13_drawn 80 = .ok (.iconst 5, 1) := by decide +kernel
theorem dX13_drawn_81 : decode cX13_drawn 81 = .ok (.isub, 1) := by decide +kernel
theorem dX13_drawn_82 : decode cX13_drawn 82 = .ok (.goto 27, 3) := by decide +kernel
theorem dX13_drawn_85 : decode cX13_drawn 85 = .ok (.iload 6, 2) := by decide +kernel
theorem dX13_drawn_87 : decode cX13_drawn 87 = .ok (.bipush 12, 2) := by decide +kernel
theorem dX13_drawn_89 : decode cX13_drawn 89 = .ok (.if_icmp .ne 16, 3) := by decide +kernel
theorem dX13_drawn_92 : decode cX13_drawn 92 = .ok (.iload_n 2, 1) := by decide +kernel
theorem dX13_drawn_93 : decode cX13_drawn 93 = .ok (.ifCond .le 8, 3) := by decide +kernel
theorem dX13_drawn_96 : decode cX13_drawn 96 = .ok (.bipush 7, 2) := by decide +kernel
theorem dX13_drawn_98 : decode cX13_drawn 98 = .ok (.goto 11, 3) := by decide +kernel
theorem dX13_drawn_101 : decode cX13_drawn 101 = .ok (.iconst 4, 1) := by decide +kernel
theorem dX13_drawn_102 : decode cX13_drawn 102 = .ok (.goto 7, 3) := by decide +kernel
theorem dX13_drawn_105 : decode cX13_drawn 105 = .ok (.iload 6, 2) := by decide +kernel
theorem dX13_drawn_107 : decode cX13_drawn 107 = .ok (.iconst 5, 1) := by decide +kernel
theorem dX13_drawn_108 : decode cX13_drawn 108 = .ok (.isub, 1) := by decide +kernel
theorem dX13_drawn_109 : decode cX13_drawn 109 = .ok (.putfield 37, 3) := by decide +kernel
theorem dX13_drawn_112 : decode cX13_drawn 112 = .ok (.aload 5, 2) := by decide +kernel
theorem dX13_drawn_114 : decode cX13_drawn 114 = .ok (.aload 5, 2) := by decide +kernel
theorem dX13_drawn_116 : decode cX13_drawn 116 = .ok (.getfield 37, 3) := by decide +kernel
theorem dX13_drawn_119 : decode cX13_drawn 119 = .ok (.bipush 7, 2) := by decide +kernel
theorem dX13_drawn_121 : decode cX13_drawn 121 = .ok (.if_icmp .ne 11, 3) := by decide +kernel
theorem dX13_drawn_124 : decode cX13_drawn 124 = .ok (.aload_n 0, 1) := by decide +kernel
theorem dX13_drawn_125 : decode cX13_drawn 125 = .ok (.iload_n 2, 1) := by decide +kernel
theorem dX13_drawn_126 : decode cX13_drawn 126 = .ok (.invokevirtual 26, 3) := by decide +kernel
theorem dX13_drawn_129 : decode cX13_drawn 129 = .ok (.goto 8, 3) := by decide +kernel
theorem dX13_drawn_132 : decode cX13_drawn 132 = .ok (.aload_n 0, 1) := by decide +kernel
theorem dX13_drawn_133 : decode cX13_drawn 133 = .ok (.iload_n 1, 1) := by decide +kernel
theorem dX13_drawn_134 : decode cX13_drawn 134 = .ok (.invokevirtual 26, 3) := by decide +kernel
theorem dX13_drawn_137 : decode cX13_drawn 137 = .ok (.putfield 41, 3) := by decide +kernel
theorem dX13_drawn_140 : decode cX13_drawn 140 = .ok (.aload 5, 2) := by decide +kernel
theorem dX13_drawn_142 : decode cX13_drawn 142 = .ok (.getfield 37, 3) := by decide +kernel
theorem dX13_drawn_145 : decode cX13_drawn 145 = .ok (.iconst 2, 1) := by decide +kernel
theorem dX13_drawn_146 : decode cX13_drawn 146 = .ok (.if_icmp .lt 22, 3) := by decide +kernel
theorem dX13_drawn_149 : decode cX13_drawn 149 = .ok (.aload 5, 2) := by decide +kernel
theorem dX13_drawn_151 : decode cX13_drawn 151 = .ok (.getfield 37, 3) := by decide +kernel
theorem dX13_drawn_154 : decode cX13_drawn 154 = .ok (.iconst 5, 1) := by decide +kernel
theorem dX13_drawn_155 : decode cX13_drawn 155 = .ok (.if_icmp .eq 13, 3) := by decide +kernel
theorem dX13_drawn_158 : decode cX13_drawn 158 = .ok (.aload 5, 2) := by decide +kernel
theorem dX13_drawn_160 : decode cX13_drawn 160 = .ok (.getfield 37, 3) := by decide +kernel
theorem dX13_drawn_163 : decode cX13_drawn 163 = .ok (.bipush 6, 2) := by decide +kernel
theorem dX13_drawn_165 : decode cX13_drawn 165 = .ok (.if_icmp .ne 19, 3) := by decide +kernel
theorem dX13_drawn_168 : decode cX13_drawn 168 = .ok (.aload 5, 2) := by decide +kernel
theorem dX13_drawn_170 : decode cX13_drawn 170 = .ok (.aload_n 0, 1) := by decide +kernel
theorem dX13_drawn_171 : decode cX13_drawn 171 = .ok (.iload_n 1, 1) := by decide +kernel
theorem dX13_drawn_172 : decode cX13_drawn 172 = .ok (.iconst 1, 1) := by decide +kernel
theorem dX13_drawn_173 : decode cX13_drawn 173 = .ok (.bipush 40, 2) := by decide +kernel
theorem dX13_drawn_175 : decode cX13_drawn 175 = .ok (.invokestatic 44, 3) := by decide +kernel
theorem dX13_drawn_178 : decode cX13_drawn 178 = .ok (.putfield 47, 3) := by decide +kernel
theorem dX13_drawn_181 : decode cX13_drawn 181 = .ok (.goto 102, 3) := by decide +kernel
theorem dX13_drawn_184 : decode cX13_drawn 184 = .ok (.aload 5, 2) := by decide +kernel
theorem dX13_drawn_186 : decode cX13_drawn 186 = .ok (.getfield 37, 3) := by decide +kernel
theorem dX13_drawn_189 : decode cX13_drawn 189 = .ok (.iconst 2, 1) := by decide +kernel
theorem dX13_drawn_190 : decode cX13_drawn 190 = .ok (.if_icmp .ne 20, 3) := by decide +kernel
theorem dX13_drawn_193 : decode cX13_drawn 193 = .ok (.aload 5, 2) := by decide +kernel
theorem dX13_drawn_195 : decode cX13_drawn 195 = .ok (.aload_n 0, 1) := by decide +kernel
theorem dX13_drawn_196 : decode cX13_drawn 196 = .ok (.iload_n 1, 1) := by decide +kernel
theorem dX13_drawn_197 : decode cX13_drawn 197 = .ok (.iconst 1, 1) := by decide +kernel
theorem dX13_drawn_198 : decode cX13_drawn 198 = .ok (.sipush 130, 3) := by decide +kernel
theorem dX13_drawn_201 : decode cX13_drawn 201 = .ok (.invokestatic 44, 3) := by decide +kernel
theorem dX13_drawn_204 : decode cX13_drawn 204 = .ok (.putfield 47, 3) := by decide +kernel
theorem dX13_drawn_207 : decode cX13_drawn 207 = .ok (.goto 76, 3) := by decide +kernel
theorem dX13_drawn_210 : decode cX13_drawn 210 = .ok (.aload 5, 2) := by decide +kernel
theorem dX13_drawn_212 : decode cX13_drawn 212 = .ok (.getfield 37, 3) := by decide +kernel
theorem dX13_drawn_215 : decode cX13_drawn 215 = .ok (.iconst 3, 1) := by decide +kernel
theorem dX13_drawn_216 : decode cX13_drawn 216 = .ok (.if_icmp .ne 19, 3) := by decide +kernel
theorem dX13_drawn_219 : decode cX13_drawn 219 = .ok (.aload 5, 2) := by decide +kernel
theorem dX13_drawn_221 : decode cX13_drawn 221 = .ok (.aload_n 0, 1) := by decide +kernel
theorem dX13_drawn_222 : decode cX13_drawn 222 = .ok (.iload_n 1, 1) := by decide +kernel
theorem dX13_drawn_223 : decode cX13_drawn 223 = .ok (.iconst 1, 1) := by decide +kernel
theorem dX13_drawn_224 : decode cX13_drawn 224 = .ok (.bipush 60, 2) := by decide +kernel
theorem dX13_drawn_226 : decode cX13_drawn 226 = .ok (.invokestatic 44, 3) := by decide +kernel
theorem dX13_drawn_229 : decode cX13_drawn 229 = .ok (.putfield 47, 3) := by decide +kernel
theorem dX13_drawn_232 : decode cX13_drawn 232 = .ok (.goto 51, 3) := by decide +kernel
theorem dX13_drawn_235 : decode cX13_drawn 235 = .ok (.aload 5, 2) := by decide +kernel
theorem dX13_drawn_237 : decode cX13_drawn 237 = .ok (.getfield 37, 3) := by decide +kernel
theorem dX13_drawn_240 : decode cX13_drawn 240 = .ok (.bipush 8, 2) := by decide +kernel
theorem dX13_drawn_242 : decode cX13_drawn 242 = .ok (.if_icmp .ne 41, 3) := by decide +kernel
theorem dX13_drawn_245 : decode cX13_drawn 245 = .ok (.aload 5, 2) := by decide +kernel
theorem dX13_drawn_247 : decode cX13_drawn 247 = .ok (.aload_n 0, 1) := by decide +kernel
theorem dX13_drawn_248 : decode cX13_drawn 248 = .ok (.iconst 4, 1) := by decide +kernel
theorem dX13_drawn_249 : decode cX13_drawn 249 = .ok (.invokevirtual 26, 3) := by decide +kernel
theorem dX13_drawn_252 : decode cX13_drawn 252 = .ok (.ifCond .ne 13, 3) := by decide +kernel
theorem dX13_drawn_255 : decode cX13_drawn 255 = .ok (.aload_n 0, 1) := by decide +kernel
theorem dX13_drawn_256 : decode cX13_drawn 256 = .ok (.iload_n 1, 1) := by decide +kernel
theorem dX13_drawn_257 : decode cX13_drawn 257 = .ok (.iconst 0, 1) := by decide +kernel
theorem dX13_drawn_258 : decode cX13_drawn 258 = .ok (.iconst 5, 1) := by decide +kernel
theorem dX13_drawn_259 : decode cX13_drawn 259 = .ok (.invokestatic 44, 3) := by decide +kernel
theorem dX13_drawn_262 : decode cX13_drawn 262 = .ok (.goto 18, 3) := by decide +kernel
theorem dX13_drawn_265 : decode cX13_drawn 265 = .ok (.new 13, 3) := by decide +kernel
theorem dX13_drawn_268 : decode cX13_drawn 268 = .ok (.dup, 1) := by decide +kernel
theorem dX13_drawn_269 : decode cX13_drawn 269 = .ok (.iconst 0, 1) := by decide +kernel
theorem dX13_drawn_270 : decode cX13_drawn 270 = .ok (.aload_n 0, 1) := by decide +kernel
theorem dX13_drawn_271 : decode cX13_drawn 271 = .ok (.iconst 4, 1) := by decide +kernel
theorem dX13_drawn_272 : decode cX13_drawn 272 = .ok (.invokevirtual 26, 3) := by decide +kernel
theorem dX13_drawn_275 : decode cX13_drawn 275 = .ok (.aconst_null, 1) := by decide +kernel
theorem dX13_drawn_276 : decode cX13_drawn 276 = .ok (.aconst_null, 1) := by decide +kernel
theorem dX13_drawn_277 : decode cX13_drawn 277 = .ok (.invokespecial 51, 3) := by decide +kernel
theorem dX13_drawn_280 : decode cX13_drawn 280 = .ok (.putfield 47, 3) := by decide +kernel
theorem dX13_drawn_283 : decode cX13_drawn 283 = .ok (.aload 5, 2) := by decide +kernel
theorem dX13_drawn_285 : decode cX13_drawn 285 = .ok (.getfield 37, 3) := by decide +kernel
theorem dX13_drawn_288 : decode cX13_drawn 288 = .ok (.bipush 9, 2) := by decide +kernel
theorem dX13_drawn_290 : decode cX13_drawn 290 = .ok (.if_icmp .ne 102, 3) := by decide +kernel
theorem dX13_drawn_293 : decode cX13_drawn 293 = .ok (.iconst 1, 1) := by decide +kernel
theorem dX13_drawn_294 : decode cX13_drawn 294 = .ok (.aload_n 0, 1) := by decide +kernel
theorem dX13_drawn_295 : decode cX13_drawn 295 = .ok (.iconst 2, 1) := by decide +kernel
theorem dX13_drawn_296 : decode cX13_drawn 296 = .ok (.invokevirtual 26, 3) := by decide +kernel
theorem dX13_drawn_299 : decode cX13_drawn 299 = .ok (.iadd, 1) := by decide +kernel
theorem dX13_drawn_300 : decode cX13_drawn 300 = .ok (.istore 7, 2) := by decide +kernel
theorem dX13_drawn_302 : decode cX13_drawn 302 = .ok (.aload 5, 2) := by decide +kernel
theorem dX13_drawn_304 : decode cX13_drawn 304 = .ok (.iload 7, 2) := by decide +kernel
theorem dX13_drawn_306 : decode cX13_drawn 306 = .ok (.newarray .int, 2) := by decide +kernel
theorem dX13_drawn_308 : decode cX13_drawn 308 = .ok (.putfield 7, 3) := by decide +kernel
theorem dX13_drawn_311 : decode cX13_drawn 311 = .ok (.aload 5, 2) := by decide +kernel
theorem dX13_drawn_313 : decode cX13_drawn 313 = .ok (.iload 7, 2) := by decide +kernel
theorem dX13_drawn_315 : decode cX13_drawn 315 = .ok (.anewarray 13, 3) := by decide +kernel
theorem dX13_drawn_318 : decode cX13_drawn 318 = .ok (.putfield 15, 3) := by decide +kernel
theorem dX13_drawn_321 : decode cX13_drawn 321 = .ok (.aload 5, 2) := by decide +kernel
theorem dX13_drawn_323 : decode cX13_drawn 323 = .ok (.iload 7, 2) := by decide +kernel
theorem dX13_drawn_325 : decode cX13_drawn 325 = .ok (.anewarray 13, 3) := by decide +kernel
theorem dX13_drawn_328 : decode cX13_drawn 328 = .ok (.putfield 19, 3) := by decide +kernel
theorem dX13_drawn_331 : decode cX13_drawn 331 = .ok (.iconst 0, 1) := by decide +kernel
theorem dX13_drawn_332 : decode cX13_drawn 332 = .ok (.istore 8, 2) := by decide +kernel
theorem dX13_drawn_334 : decode cX13_drawn 334 = .ok (.iload 8, 2) := by decide +kernel
theorem dX13_drawn_336 : decode cX13_drawn 336 = .ok (.iload 7, 2) := by decide +kernel
theorem dX13_drawn_338 : decode cX13_drawn 338 = .ok (.if_icmp .ge 54, 3) := by decide +kernel
theorem dX13_drawn_341 : decode cX13_drawn 341 = .ok (.aload 5, 2) := by decide +kernel
theorem dX13_drawn_343 : decode cX13_drawn 343 = .ok (.getfield 7, 3) := by decide +kernel
theorem dX13_drawn_346 : decode cX13_drawn 346 = .ok (.iload 8, 2) := by decide +kernel
theorem dX13_drawn_348 : decode cX13_drawn 348 = .ok (.aload_n 0, 1) := by decide +kernel
theorem dX13_drawn_349 : decode cX13_drawn 349 = .ok (.iconst 3, 1) := by decide +kernel
theorem dX13_drawn_350 : decode cX13_drawn 350 = .ok (.invokevirtual 26, 3) := by decide +kernel
theorem dX13_drawn_353 : decode cX13_drawn 353 = .ok (.iastore, 1) := by decide +kernel
theorem dX13_drawn_354 : decode cX13_drawn 354 = .ok (.aload 5, 2) := by decide +kernel
theorem dX13_drawn_356 : decode cX13_drawn 356 = .ok (.getfield 15, 3) := by decide +kernel
theorem dX13_drawn_359 : decode cX13_drawn 359 = .ok (.iload 8, 2) := by decide +kernel
theorem dX13_drawn_361 : decode cX13_drawn 361 = .ok (.aload_n 0, 1) := by decide +kernel
theorem dX13_drawn_362 : decode cX13_drawn 362 = .ok (.iload_n 1, 1) := by decide +kernel
theorem dX13_drawn_363 : decode cX13_drawn 363 = .ok (.iconst 0, 1) := by decide +kernel
theorem dX13_drawn_364 : decode cX13_drawn 364 = .ok (.bipush 40, 2) := by decide +kernel
theorem dX13_drawn_366 : decode cX13_drawn 366 = .ok (.invokestatic 44, 3) := by decide +kernel
theorem dX13_drawn_369 : decode cX13_drawn 369 = .ok (.aastore, 1) := by decide +kernel
theorem dX13_drawn_370 : decode cX13_drawn 370 = .ok (.aload 5, 2) := by decide +kernel
theorem dX13_drawn_372 : decode cX13_drawn 372 = .ok (.getfield 19, 3) := by decide +kernel
theorem dX13_drawn_375 : decode cX13_drawn 375 = .ok (.iload 8, 2) := by decide +kernel
theorem dX13_drawn_377 : decode cX13_drawn 377 = .ok (.aload_n 0, 1) := by decide +kernel
theorem dX13_drawn_378 : decode cX13_drawn 378 = .ok (.iload_n 1, 1) := by decide +kernel
theorem dX13_drawn_379 : decode cX13_drawn 379 = .ok (.iconst 0, 1) := by decide +kernel
theorem dX13_drawn_380 : decode cX13_drawn 380 = .ok (.bipush 40, 2) := by decide +kernel
theorem dX13_drawn_382 : decode cX13_drawn 382 = .ok (.invokestatic 44, 3) := by decide +kernel
theorem dX13_drawn_385 : decode cX13_drawn 385 = .ok (.aastore, 1) := by decide +kernel
theorem dX13_drawn_386 : decode cX13_drawn 386 = .ok (.iinc 8 1, 3) := by decide +kernel
theorem dX13_drawn_389 : decode cX13_drawn 389 = .ok (.goto (-55), 3) := by decide +kernel
theorem dX13_drawn_392 : decode cX13_drawn 392 = .ok (.aload 5, 2) := by decide +kernel
theorem dX13_drawn_394 : decode cX13_drawn 394 = .ok (.getfield 37, 3) := by decide +kernel
theorem dX13_drawn_397 : decode cX13_drawn 397 = .ok (.bipush 7, 2) := by decide +kernel
theorem dX13_drawn_399 : decode cX13_drawn 399 = .ok (.if_icmp .le 19, 3) := by decide +kernel
theorem dX13_drawn_402 : decode cX13_drawn 402 = .ok (.aload 5, 2) := by decide +kernel
theorem dX13_drawn_404 : decode cX13_drawn 404 = .ok (.aload_n 0, 1) := by decide +kernel
theorem dX13_drawn_405 : decode cX13_drawn 405 = .ok (.iload_n 1, 1) := by decide +kernel
theorem dX13_drawn_406 : decode cX13_drawn 406 = .ok (.iload_n 2, 1) := by decide +kernel
theorem dX13_drawn_407 : decode cX13_drawn 407 = .ok (.iload_n 3, 1) := by decide +kernel
theorem dX13_drawn_408 : decode cX13_drawn 408 = .ok (.iconst 1, 1) := by decide +kernel
theorem dX13_drawn_409 : decode cX13_drawn 409 = .ok (.iadd, 1) := by decide +kernel
theorem dX13_drawn_410 : decode cX13_drawn 410 = .ok (.aload 4, 2) := by decide +kernel
theorem dX13_drawn_412 : decode cX13_drawn 412 = .ok (.invokestatic 54, 3) := by decide +kernel
theorem dX13_drawn_415 : decode cX13_drawn 415 = .ok (.putfield 22, 3) := by decide +kernel
theorem dX13_drawn_418 : decode cX13_drawn 418 = .ok (.aload 5, 2) := by decide +kernel
theorem dX13_drawn_420 : decode cX13_drawn 420 = .ok (.getfield 37, 3) := by decide +kernel
theorem dX13_drawn_423 : decode cX13_drawn 423 = .ok (.bipush 9, 2) := by decide +kernel
theorem dX13_drawn_425 : decode cX13_drawn 425 = .ok (.if_icmp .ne 27, 3) := by decide +kernel
theorem dX13_drawn_428 : decode cX13_drawn 428 = .ok (.aload_n 0, 1) := by decide +kernel
theorem dX13_drawn_429 : decode cX13_drawn 429 = .ok (.iconst 2, 1) := by decide +kernel
theorem dX13_drawn_430 : decode cX13_drawn 430 = .ok (.invokevirtual 26, 3) := by decide +kernel
theorem dX13_drawn_433 : decode cX13_drawn 433 = .ok (.ifCond .ne 19, 3) := by decide +kernel
theorem dX13_drawn_436 : decode cX13_drawn 436 = .ok (.aload 5, 2) := by decide +kernel
theorem dX13_drawn_438 : decode cX13_drawn 438 = .ok (.aload_n 0, 1) := by decide +kernel
theorem dX13_drawn_439 : decode cX13_drawn 439 = .ok (.iload_n 1, 1) := by decide +kernel
theorem dX13_drawn_440 : decode cX13_drawn 440 = .ok (.iload_n 2, 1) := by decide +kernel
theorem dX13_drawn_441 : decode cX13_drawn 441 = .ok (.iload_n 3, 1) := by decide +kernel
theorem dX13_drawn_442 : decode cX13_drawn 442 = .ok (.iconst 1, 1) := by decide +kernel
theorem dX13_drawn_443 : decode cX13_drawn 443 = .ok (.iadd, 1) := by decide +kernel
theorem dX13_drawn_444 : decode cX13_drawn 444 = .ok (.aload 4, 2) := by decide +kernel
theorem dX13_drawn_446 : decode cX13_drawn 446 = .ok (.invokestatic 54, 3) := by decide +kernel
theorem dX13_drawn_449 : decode cX13_drawn 449 = .ok (.putfield 58, 3) := by decide +kernel
theorem dX13_drawn_452 : decode cX13_drawn 452 = .ok (.aload 5, 2) := by decide +kernel
theorem dX13_drawn_454 : decode cX13_drawn 454 = .ok (.areturn, 1) := by decide +kernel
set_option maxRecDepth 20000 in
theorem pgX13_texts_J4_init_a7421_0 : GoodIn wsX13_texts (Cond.code yJ4_init_a7421 cJ4_init_a7421 2 none :: wsJ4_init_a7421_r1) := goodIn_r _ [6, 7, 8, 9, 10, 11, 12, 13, 14, 15, 16, 17, 18, 19, 20, 21, 22, 23, 24, 25, 26, 27, 28, 29, 30] (by decide +kernel) (by decide +kernel)
set_option maxRecDepth 20000 in
theorem pgX13_texts_J4_init_a7421_1 : GoodIn wsX13_texts wsJ4_init_a7421_r2 := goodIn_r _ [31, 32, 33, 34, 35, 36, 37, 38, 39, 40, 41, 42, 43, 44, 3, 45, 46, 47, 48, 49, 50, 51, 52, 53] (by decide +kernel) (by decide +kernel)
set_option maxRecDepth 20000 in
theorem pgX13_texts_J4_init_a7421_2 : GoodIn wsX13_texts wsJ4_init_a7421_r3 := goodIn_r _ [54, 55, 56, 57, 58, 59, 60, 61, 62, 63, 64, 65, 66, 67, 68, 69, 70, 71, 72, 73, 74, 75, 76, 77] (by decide +kernel) (by decide +kernel)
set_option maxRecDepth 20000 in
theorem pgX13_texts_J4_init_a7421_3 : GoodIn wsX13_texts wsJ4_init_a7421_r4 := goodIn_r _ [78, 79, 80, 81, 82, 83, 84, 85, 86, 87, 88, 89, 90, 91, 92, 93, 94, 95, 96, 97, 98, 99, 100, 101] (by decide +kernel) (by decide +kernel)
set_option maxRecDepth 20000 in
theorem pgX13_texts_J4_init_a7421_4 : GoodIn wsX13_texts wsJ4_init_a7421_r5 := goodIn_r _ [102, 103, 104, 105, 106, 107, 108, 109, 110, 111, 112, 113, 114, 115, 116, 117, 118, 119, 120, 121, 122, 123, 124, 125] (by decide +kernel) (by decide +kernel)
set_option maxRecDepth 20000 in
theorem pgX13_texts_J4_init_a7421_5 : GoodIn wsX13_texts wsJ4_init_a7421_r6 := goodIn_r _ [126, 127, 128, 129, 130, 131, 132, 133, 134, 135, 136, 137, 138, 139, 140, 141, 142, 143, 144, 145, 146, 147, 148, 149] (by decide +kernel) (by decide +kernel)
set_option maxRecDepth 20000 in
theorem pgX13_texts_J4_init_a7421_6 : GoodIn wsX13_texts wsJ4_init_a7421_r7 := goodIn_r _ [150, 151, 152, 153, 154, 155, 156, 157, 158, 159, 160, 161, 162, 163, 164] (by decide +kernel) (by decide +kernel)
set_option maxRecDepth 20000 in
theorem pgX13_texts_J4_init_a7421_7 : GoodIn wsX13_texts wsJ40 := goodIn_r _ [317, 318, 319, 320] (by decide +kernel) (by decide +kernel)
set_option maxRecDepth 20000 in
theorem pgX13_texts_J4_init_a7421_8 : GoodIn wsX13_texts wsJ00 := goodIn_r _ [321, 322, 323, 324] (by decide +kernel) (by decide +kernel)
set_option maxRecDepth 20000 in
theorem ggX13_texts_J4_init_a7421 : GoodIn wsX13_texts wsJ4_init_a7421 := goodIn_ca (goodIn_ca (goodIn_ca pgX13_texts_J4_init_a7421_0 (goodIn_app pgX13_texts_J4_init_a7421_1 (goodIn_app pgX13_texts_J4_init_a7421_2 (goodIn_app pgX13_texts_J4_init_a7421_3 (goodIn_app pgX13_texts_J4_init_a7421_4 (goodIn_app pgX13_texts_J4_init_a7421_5 (pgX13_texts_J4_init_a7421_6))))))) pgX13_texts_J4_init_a7421_7) pgX13_texts_J4_init_a7421_8
set_option maxRecDepth 20000 in
theorem gX13_texts_J4_init_a7421 : GoodIn wsX13_texts (wsJ4_init_a7421) := ggX13_texts_J4_init_a7421
set_option maxRecDepth 20000 in
theorem pgX13_texts_X13_text_0 : GoodIn wsX13_texts (Cond.code yX13_text cX13_text 3 (some (.object "java/lang/String")) :: wsX13_text_r1) := goodIn_r _ [221, 222, 1, 2, 3, 223, 224, 225, 226, 227, 228, 229, 230, 231, 232, 233, 234, 235, 9, 236, 11, 12, 13, 104, 17] (by decide +kernel) (by decide +kernel)
set_option maxRecDepth 20000 in
theorem pgX13_texts_X13_text_1 : GoodIn wsX13_texts wsX13_text_r2 := goodIn_r _ [18, 16, 32, 33, 34, 35, 36, 37, 38, 39, 169, 47, 48, 49, 50, 41, 51, 52, 53, 54, 55, 56, 57, 58] (by decide +kernel) (by decide +kernel)
set_option maxRecDepth 20000 in
theorem pgX13_texts_X13_text_2 : GoodIn wsX13_texts wsX13_text_r3 := goodIn_r _ [59, 60, 61, 62, 63, 64, 65, 66, 67, 68, 69, 15, 70, 71, 72, 73, 74, 75, 76, 77, 78, 79, 80, 81] (by decide +kernel) (by decide +kernel)
set_option maxRecDepth 20000 in
theorem pgX13_texts_X13_text_3 : GoodIn wsX13_texts wsX13_text_r4 := goodIn_r _ [82, 83, 84, 85, 86, 87, 88, 89, 90, 91, 92, 93, 94, 95, 96, 97, 98, 99, 100, 101, 102, 103, 105, 106] (by decide +kernel) (by decide +kernel)
set_option maxRecDepth 20000 in
theorem pgX13_texts_X13_text_4 : GoodIn wsX13_texts wsX13_text_r5 := goodIn_r _ [107, 108, 109, 110, 111, 112, 113, 114, 115, 116, 22, 117, 118, 119, 120, 121, 122, 123, 124, 125, 126, 127, 19, 20] (by decide +kernel) (by decide +kernel)
set_option maxRecDepth 20000 in
theorem pgX13_texts_X13_text_5 : GoodIn wsX13_texts wsX13_text_r6 := goodIn_r _ [21, 23, 24, 25, 26, 27, 28, 29, 30, 128, 129, 130, 131, 132, 133, 134, 135, 136, 137, 31, 138, 139, 140, 141] (by decide +kernel) (by decide +kernel)
set_option maxRecDepth 20000 in
theorem pgX13_texts_X13_text_6 : GoodIn wsX13_texts wsX13_text_r7 := goodIn_r _ [142, 143, 144, 145, 146, 147, 148, 149, 150, 151, 152, 153, 154, 155, 156, 157, 158, 159, 160, 161, 162, 163, 164, 237] (by decide +kernel) (by decide +kernel)
set_option maxRecDepth 20000 in
theorem pgX13_texts_X13_text_7 : GoodIn wsX13_texts wsX13_text_r8 := goodIn_r _ [238, 239, 240, 241, 242, 243, 244, 245, 246, 247, 248, 249, 250, 251, 252, 253, 254, 255, 256, 257, 258, 259, 260, 261] (by decide +kernel) (by decide +kernel)
set_option maxRecDepth 20000 in
theorem pgX13_texts_X13_text_8 : GoodIn wsX13_texts wsX13_text_r9 := goodIn_r _ [262, 263, 264, 265, 266, 267, 268, 269, 270, 271, 272, 273, 274, 171, 172, 173, 174, 175, 176, 177, 178, 179, 180, 181] (by decide +kernel) (by decide +kernel)
set_option maxRecDepth 20000 in
theorem pgX13_texts_X13_text_9 : GoodIn wsX13_texts wsX13_text_r10 := goodIn_r _ [182, 183, 184, 185, 186, 187, 188, 189, 190, 191, 192, 193, 194, 195, 196, 197, 198, 199, 200, 201, 202, 203, 204, 205] (by decide +kernel) (by decide +kernel)
set_option maxRecDepth 20000 in
theorem pgX13_texts_X13_text_10 : GoodIn wsX13_texts wsX13_text_r11 := goodIn_r _ [206, 207, 208, 209, 210, 211, 212, 213, 214, 215, 216, 217, 218, 219, 220, 275, 276, 277, 278, 279, 280, 281, 282, 283] (by decide +kernel) (by decide +kernel)
set_option maxRecDepth 20000 in
theorem pgX13_texts_X13_text_11 : GoodIn wsX13_texts wsX13_text_r12 := goodIn_r _ [284, 285, 286, 287, 288, 289, 290, 291, 292, 293, 294, 295, 296, 297, 298, 299, 300, 301, 302, 303, 304, 305, 170, 306] (by decide +kernel) (by decide +kernel)
set_option maxRecDepth 20000 in
theorem pgX13_texts_X13_text_12 : GoodIn wsX13_texts wsX13_text_r13 := goodIn_r _ [307, 308, 168, 0, 4, 5, 6, 7, 8, 10, 14, 40, 42, 43, 44, 45, 46, 165, 166, 167] (by decide +kernel) (by decide +kernel)
set_option maxRecDepth 20000 in
theorem pgX13_texts_X13_text_13 : GoodIn wsX13_texts wsX130 := goodIn_r _ [309, 310, 311, 312, 313, 314, 315, 316] (by decide +kernel) (by decide +kernel)
set_option maxRecDepth 20000 in
theorem pgX13_texts_X13_text_14 : GoodIn wsX13_texts wsJ40 := goodIn_r _ [317, 318, 319, 320] (by decide +kernel) (by decide +kernel)
set_option maxRecDepth 20000 in
theorem pgX13_texts_X13_text_15 : GoodIn wsX13_texts wsJ00 := goodIn_r _ [321, 322, 323, 324] (by decide +kernel) (by decide +kernel)
set_option maxRecDepth 20000 in
theorem pgX13_texts_X13_text_16 : GoodIn wsX13_texts wsX160 := goodIn_r _ [325, 326, 327, 328] (by decide +kernel) (by decide +kernel)
set_option maxRecDepth 20000 in
theorem ggX13_texts_X13_text : GoodIn wsX13_texts wsX13_text := goodIn_ca (goodIn_ca (goodIn_ca (goodIn_ca (goodIn_ca pgX13_texts_X13_text_0 (goodIn_app pgX13_texts_X13_text_1 (goodIn_app pgX13_texts_X13_text_2 (goodIn_app pgX13_texts_X13_text_3 (goodIn_app pgX13_texts_X13_text_4 (goodIn_app pgX13_texts_X13_text_5 (goodIn_app pgX13_texts_X13_text_6 (goodIn_app pgX13_texts_X13_text_7 (goodIn_app pgX13_texts_X13_text_8 (goodIn_app pgX13_texts_X13_text_9 (goodIn_app pgX13_texts_X13_text_10 (goodIn_app pgX13_texts_X13_text_11 (pgX13_texts_X13_text_12))))))))))))) pgX13_texts_X13_text_13) pgX13_texts_X13_text_14) pgX13_texts_X13_text_15) pgX13_texts_X13_text_16
set_option maxRecDepth 20000 in
theorem gX13_texts_X13_text : GoodIn wsX13_texts (wsV RX13 68 RX13 yX13_text wsX13_text) := goodIn_app (goodIn_of _ (by decide +kernel)) ggX13_texts_X13_text
set_option maxRecDepth 20000 in
theorem pgX13_texts_J4_append_15ec4_0 : GoodIn wsX13_texts (Cond.code yJ4_append_15ec4 cJ4_append_15ec4 2 (some (.object "java/lang/StringBuilder")) :: wsJ4_append_15ec4_r1) := goodIn_r _ [49, 50, 41, 51, 52, 9, 53, 54, 55, 56, 57, 58, 59, 18, 60, 61, 62, 63, 64, 16, 65, 66, 67, 68, 69] (by decide +kernel) (by decide +kernel)
set_option maxRecDepth 20000 in
theorem pgX13_texts_J4_append_15ec4_1 : GoodIn wsX13_texts wsJ4_append_15ec4_r2 := goodIn_r _ [15, 70, 71, 72, 73, 74, 75, 76, 77, 78, 79, 80, 81, 82, 83, 84, 85, 86, 87, 88, 89, 90, 91, 17] (by decide +kernel) (by decide +kernel)
set_option maxRecDepth 20000 in
theorem pgX13_texts_J4_append_15ec4_2 : GoodIn wsX13_texts wsJ4_append_15ec4_r3 := goodIn_r _ [92, 93, 94, 95, 96, 97, 98, 99, 100, 101, 102, 103, 104, 105, 106, 34, 107, 108, 109, 110, 111, 112, 113, 114] (by decide +kernel) (by decide +kernel)
set_option maxRecDepth 20000 in
theorem pgX13_texts_J4_append_15ec4_3 : GoodIn wsX13_texts wsJ4_append_15ec4_r4 := goodIn_r _ [115, 116, 22, 117, 118, 119, 120, 121, 122, 123, 124, 125, 126, 127, 19, 20, 21, 23, 24, 25, 26, 27, 28, 29] (by decide +kernel) (by decide +kernel)
set_option maxRecDepth 20000 in
theorem pgX13_texts_J4_append_15ec4_4 : GoodIn wsX13_texts wsJ4_append_15ec4_r5 := goodIn_r _ [30, 128, 129, 130, 131, 132, 133, 134, 135, 136, 137, 31, 138, 139, 140, 141, 142, 32, 33, 35, 36, 37, 38, 39] (by decide +kernel) (by decide +kernel)
set_option maxRecDepth 20000 in
theorem pgX13_texts_J4_append_15ec4_5 : GoodIn wsX13_texts wsJ4_append_15ec4_r6 := goodIn_r _ [143, 144, 145, 146, 147, 148, 149, 150, 151, 152, 153, 154, 155, 156, 157, 158, 159, 160, 161, 162, 163, 164] (by decide +kernel) (by decide +kernel)
set_option maxRecDepth 20000 in
theorem pgX13_texts_J4_append_15ec4_6 : GoodIn wsX13_texts wsJ40 := goodIn_r _ [317, 318, 319, 320] (by decide +kernel) (by decide +kernel)
set_option maxRecDepth 20000 in
theorem pgX13_texts_J4_append_15ec4_7 : GoodIn wsX13_texts wsJ00 := goodIn_r _ [321, 322, 323, 324] (by decide +kernel) (by decide +kernel)
set_option maxRecDepth 20000 in
theorem ggX13_texts_J4_append_15ec4 : GoodIn wsX13_texts wsJ4_append_15ec4 := goodIn_ca (goodIn_ca (goodIn_ca pgX13_texts_J4_append_15ec4_0 (goodIn_app pgX13_texts_J4_append_15ec4_1 (goodIn_app pgX13_texts_J4_append_15ec4_2 (goodIn_app pgX13_texts_J4_append_15ec4_3 (goodIn_app pgX13_texts_J4_append_15ec4_4 (pgX13_texts_J4_append_15ec4_5)))))) pgX13_texts_J4_append_15ec4_6) pgX13_texts_J4_append_15ec4_7
set_option maxRecDepth 20000 in
theorem gX13_texts_J4_append_15ec4 : GoodIn wsX13_texts (wsV RX13 72 RJ4 yJ4_append_15ec4 wsJ4_append_15ec4) := goodIn_app (goodIn_of _ (by decide +kernel)) ggX13_texts_J4_append_15ec4
set_option maxRecDepth 20000 in
theorem pgX13_texts_J4_toString_0e30d_0 : GoodIn wsX13_texts (Cond.code yJ4_toString_0e30d cJ4_toString_0e30d 1 (some (.object "java/lang/String")) :: wsJ4_toString_0e30d_r1) := goodIn_r _ [173, 174, 175, 22, 176, 177, 178, 179, 180, 181, 182, 12, 13, 30, 24, 29, 183, 184, 185, 186, 187, 9, 188, 18, 189] (by decide +kernel) (by decide +kernel)
set_option maxRecDepth 20000 in
theorem pgX13_texts_J4_toString_0e30d_1 : GoodIn wsX13_texts wsJ4_toString_0e30d_r2 := goodIn_r _ [190, 191, 192, 193, 3, 194, 195, 51, 196, 197, 54, 198, 100, 101, 102, 103, 104, 16, 199, 200, 84, 201, 86, 87] (by decide +kernel) (by decide +kernel)
set_option maxRecDepth 20000 in
theorem pgX13_texts_J4_toString_0e30d_2 : GoodIn wsX13_texts wsJ4_toString_0e30d_r3 := goodIn_r _ [88, 89, 90, 91, 202, 203, 204, 17, 92, 93, 76, 94, 95, 96, 97, 98, 205, 206, 207, 208, 209, 34, 210, 211] (by decide +kernel) (by decide +kernel)
set_option maxRecDepth 20000 in
theorem pgX13_texts_J4_toString_0e30d_3 : GoodIn wsX13_texts wsJ4_toString_0e30d_r4 := goodIn_r _ [212, 213, 150, 151, 152, 112, 113, 114, 153, 154, 155, 118, 156, 157, 121, 158, 214, 215, 216, 108, 126, 127, 36, 37] (by decide +kernel) (by decide +kernel)
set_option maxRecDepth 20000 in
theorem pgX13_texts_J4_toString_0e30d_4 : GoodIn wsX13_texts wsJ4_toString_0e30d_r5 := goodIn_r _ [38, 39, 217, 218, 219, 220] (by decide +kernel) (by decide +kernel)
set_option maxRecDepth 20000 in
theorem pgX13_texts_J4_toString_0e30d_5 : GoodIn wsX13_texts wsJ00 := goodIn_r _ [321, 322, 323, 324] (by decide +kernel) (by decide +kernel)
set_option maxRecDepth 20000 in
theorem pgX13_texts_J4_toString_0e30d_6 : GoodIn wsX13_texts wsJ40 := goodIn_r _ [317, 318, 319, 320] (by decide +kernel) (by decide +kernel)
set_option maxRecDepth 20000 in
theorem ggX13_texts_J4_toString_0e30d : GoodIn wsX13_texts wsJ4_toString_0e30d := goodIn_ca (goodIn_ca (goodIn_ca pgX13_texts_J4_toString_0e30d_0 (goodIn_app pgX13_texts_J4_toString_0e30d_1 (goodIn_app pgX13_texts_J4_toString_0e30d_2 (goodIn_app pgX13_texts_J4_toString_0e30d_3 (pgX13_texts_J4_toString_0e30d_4))))) pgX13_texts_J4_toString_0e30d_5) pgX13_texts_J4_toString_0e30d_6
set_option maxRecDepth 20000 in
theorem gX13_texts_J4_toString_0e30d : GoodIn wsX13_texts (wsV RX13 78 RJ4 yJ4_toString_0e30d wsJ4_toString_0e30d) := goodIn_app (goodIn_of _ (by decide +kernel)) ggX13_texts_J4_toString_0e30d
theorem dX13_texts_0 : decode cX13_texts 0 = .ok (.new 61, 3) := by decide +kernel
theorem dX13_texts_3 : decode cX13_texts 3 = .ok (.dup, 1) := by decide +kernel
