theorem dX12_highestSafe_32 : decode cX12_highestSafe 32 = .ok (.getfield 42, 3) := by decide +kernel
theorem dX12_highestSafe_35 : decode cX12_highestSafe 35 = .ok (.iload_n 1, 1) := by decide +kernel
theorem dX12_highestSafe_36 : decode cX12_highestSafe 36 = .ok (.invokevirtual 192, 3) := by decide +kernel
theorem dX12_highestSafe_39 : decode cX12_highestSafe 39 = .ok (.pop, 1) := by decide +kernel
theorem dX12_highestSafe_40 : decode cX12_highestSafe 40 = .ok (.aload_n 0, 1) := by decide +kernel
theorem dX12_highestSafe_41 : decode cX12_highestSafe 41 = .ok (.getfield 39, 3) := by decide +kernel
theorem dX12_highestSafe_44 : decode cX12_highestSafe 44 = .ok (.getfield 144, 3) := by decide +kernel
theorem dX12_highestSafe_47 : decode cX12_highestSafe 47 = .ok (.getfield 148, 3) := by decide +kernel
theorem dX12_highestSafe_50 : decode cX12_highestSafe 50 = .ok (.ifCond .ne 5, 3) := by decide +kernel
theorem dX12_highestSafe_53 : decode cX12_highestSafe 53 = .ok (.iload_n 2, 1) := by decide +kernel
theorem dX12_highestSafe_54 : decode cX12_highestSafe 54 = .ok (.ireturn, 1) := by decide +kernel
theorem dX12_highestSafe_55 : decode cX12_highestSafe 55 = .ok (.iinc 2 (-1), 3) := by decide +kernel
theorem dX12_highestSafe_58 : decode cX12_highestSafe 58 = .ok (.goto (-50), 3) := by decide +kernel
theorem dX12_highestSafe_61 : decode cX12_highestSafe 61 = .ok (.iconst (-1), 1) := by decide +kernel
theorem dX12_highestSafe_62 : decode cX12_highestSafe 62 = .ok (.ireturn, 1) := by decide +kernel
set_option maxRecDepth 20000 in
theorem ggX12_mostServings_X12_requireRecipe : GoodIn wsX12_mostServings wsX12_requireRecipe := goodIn_ca (goodIn_r _ [8, 2, 9, 10, 7, 11, 12, 13, 197, 198, 199, 200, 201, 202, 203, 204, 205, 206, 207, 208, 209, 210, 211, 212, 213, 214, 215, 216, 217, 218, 219] (by decide +kernel) (by decide +kernel)) (goodIn_sub (fun _ h => List.mem_cons_of_mem _ (List.mem_append_right _ h)) (by decide +kernel))
set_option maxRecDepth 20000 in
theorem gX12_mostServings_X12_requireRecipe : GoodIn wsX12_mostServings (wsV RX12 189 RX12 yX12_requireRecipe wsX12_requireRecipe) := goodIn_app (goodIn_of _ (by decide +kernel)) ggX12_mostServings_X12_requireRecipe
set_option maxRecDepth 20000 in
theorem ggX12_mostServings_X6_become : GoodIn wsX12_mostServings wsX6_become := goodIn_r _ [18, 19, 20, 21, 22, 23, 24, 25, 26, 17, 27, 28, 29, 30, 31, 32, 33, 34, 35, 36, 37, 38, 39, 40, 41, 42, 43, 44, 45, 46, 47, 48, 49, 50, 51, 204, 205, 206, 207, 208, 209, 210, 211, 212, 213, 214, 215, 216, 217, 218, 219, 220, 221, 222, 223, 224, 225, 226] (by decide +kernel) (by decide +kernel)
set_option maxRecDepth 20000 in
theorem gX12_mostServings_X6_become : GoodIn wsX12_mostServings (wsV RX12 195 RX6 yX6_become wsX6_become) := goodIn_app (goodIn_of _ (by decide +kernel)) ggX12_mostServings_X6_become
set_option maxRecDepth 20000 in
theorem ggX12_mostServings_X3_run : GoodIn wsX12_mostServings wsX3_run := goodIn_r _ [56, 57, 58, 59, 60, 61, 62, 63, 64, 65, 66, 67, 68, 55, 69, 70, 71, 72, 73, 74, 75, 76, 77, 78, 79, 80, 81, 82, 83, 84, 85, 86, 87, 88, 89, 90, 91, 92, 93, 94, 95, 96, 7, 97, 98, 99, 100, 17, 101, 20, 102, 103, 104, 105, 38, 39, 40, 19, 41, 106, 107, 108, 109, 110, 111, 45, 112, 47, 48, 49, 113, 114, 115, 116, 117, 118, 119, 120, 21, 22, 121, 122, 123, 124, 125, 126, 127, 128, 129, 130, 131, 132, 133, 134, 50, 51, 135, 136, 137, 138, 139, 140, 141, 142, 143, 144, 145, 146, 147, 28, 30, 148, 149, 150, 34, 151, 36, 152, 153, 154, 155, 156, 157, 158, 159, 160, 23, 37, 161, 162, 163, 164, 165, 166, 167, 168, 169, 170, 171, 172, 173, 174, 175, 176, 177, 178, 179, 180, 181, 182, 183, 184, 185, 186, 187, 188, 189, 190, 191, 192, 227, 228, 229, 204, 205, 206, 207, 208, 209, 210, 211, 212, 213, 214, 215, 216, 217, 218, 219, 230, 231, 232, 233, 234, 235, 236, 237, 238, 239, 240, 241, 242, 243, 222, 223, 224, 225, 226, 220, 221] (by decide +kernel) (by decide +kernel)
set_option maxRecDepth 20000 in
theorem gX12_mostServings_X3_run : GoodIn wsX12_mostServings (wsV RX12 192 RX3 yX3_run wsX3_run) := goodIn_app (goodIn_of _ (by decide +kernel)) ggX12_mostServings_X3_run
set_option maxRecDepth 20000 in
theorem ggX12_mostServings_X6_warningsOfKind : GoodIn wsX12_mostServings wsX6_warningsOfKind := goodIn_r _ [196, 30, 204, 205, 206, 207, 208, 209, 210, 211, 212] (by decide +kernel) (by decide +kernel)
set_option maxRecDepth 20000 in
theorem gX12_mostServings_X6_warningsOfKind : GoodIn wsX12_mostServings (wsV RX12 153 RX6 yX6_warningsOfKind wsX6_warningsOfKind) := goodIn_app (goodIn_of _ (by decide +kernel)) ggX12_mostServings_X6_warningsOfKind
theorem dX12_mostServings_0 : decode cX12_mostServings 0 = .ok (.aload_n 0, 1) := by decide +kernel
theorem dX12_mostServings_1 : decode cX12_mostServings 1 = .ok (.iload_n 1, 1) := by decide +kernel
theorem dX12_mostServings_2 : decode cX12_mostServings 2 = .ok (.invokevirtual 189, 3) := by decide +kernel
theorem dX12_mostServings_5 : decode cX12_mostServings 5 = .ok (.bipush 12, 2) := by decide +kernel
theorem dX12_mostServings_7 : decode cX12_mostServings 7 = .ok (.istore_n 2, 1) := by decide +kernel
theorem dX12_mostServings_8 : decode cX12_mostServings 8 = .ok (.iload_n 2, 1) := by decide +kernel
theorem dX12_mostServings_9 : decode cX12_mostServings 9 = .ok (.iconst 1, 1) := by decide +kernel
theorem dX12_mostServings_10 : decode cX12_mostServings 10 = .ok (.if_icmp .lt 50, 3) := by decide +kernel
theorem dX12_mostServings_13 : decode cX12_mostServings 13 = .ok (.aload_n 0, 1) := by decide +kernel
theorem dX12_mostServings_14 : decode cX12_mostServings 14 = .ok (.getfield 39, 3) := by decide +kernel
theorem dX12_mostServings_17 : decode cX12_mostServings 17 = .ok (.aload_n 0, 1) := by decide +kernel
theorem dX12_mostServings_18 : decode cX12_mostServings 18 = .ok (.getfield 26, 3) := by decide +kernel
theorem dX12_mostServings_21 : decode cX12_mostServings 21 = .ok (.invokevirtual 195, 3) := by decide +kernel
theorem dX12_mostServings_24 : decode cX12_mostServings 24 = .ok (.aload_n 0, 1) := by decide +kernel
theorem dX12_mostServings_25 : decode cX12_mostServings 25 = .ok (.getfield 39, 3) := by decide +kernel
theorem dX12_mostServings_28 : decode cX12_mostServings 28 = .ok (.iload_n 2, 1) := by decide +kernel
theorem dX12_mostServings_29 : decode cX12_mostServings 29 = .ok (.putfield 100, 3) := by decide +kernel
theorem dX12_mostServings_32 : decode cX12_mostServings 32 = .ok (.aload_n 0, 1) := by decide +kernel
theorem dX12_mostServings_33 : decode cX12_mostServings 33 = .ok (.getfield 42, 3) := by decide +kernel
theorem dX12_mostServings_36 : decode cX12_mostServings 36 = .ok (.iload_n 1, 1) := by decide +kernel
theorem dX12_mostServings_37 : decode cX12_mostServings 37 = .ok (.invokevirtual 192, 3) := by decide +kernel
theorem dX12_mostServings_40 : decode cX12_mostServings 40 = .ok (.pop, 1) := by decide +kernel
theorem dX12_mostServings_41 : decode cX12_mostServings 41 = .ok (.aload_n 0, 1) := by decide +kernel
theorem dX12_mostServings_42 : decode cX12_mostServings 42 = .ok (.getfield 39, 3) := by decide +kernel
theorem dX12_mostServings_45 : decode cX12_mostServings 45 = .ok (.iconst 1, 1) := by decide +kernel
theorem dX12_mostServings_46 : decode cX12_mostServings 46 = .ok (.invokevirtual 153, 3) := by decide +kernel
theorem dX12_mostServings_49 : decode cX12_mostServings 49 = .ok (.ifCond .ne 5, 3) := by decide +kernel
theorem dX12_mostServings_52 : decode cX12_mostServings 52 = .ok (.iload_n 2, 1) := by decide +kernel
theorem dX12_mostServings_53 : decode cX12_mostServings 53 = .ok (.ireturn, 1) := by decide +kernel
theorem dX12_mostServings_54 : decode cX12_mostServings 54 = .ok (.iinc 2 (-1), 3) := by decide +kernel
theorem dX12_mostServings_57 : decode cX12_mostServings 57 = .ok (.goto (-49), 3) := by decide +kernel
theorem dX12_mostServings_60 : decode cX12_mostServings 60 = .ok (.iconst (-1), 1) := by decide +kernel
theorem dX12_mostServings_61 : decode cX12_mostServings 61 = .ok (.ireturn, 1) := by decide +kernel
set_option maxRecDepth 20000 in
theorem ggX12_meanHeat_X6_panAt : GoodIn wsX12_meanHeat wsX6_panAt := goodIn_r _ [6, 7, 8, 16, 17, 18, 19, 20, 21, 22, 23, 24, 25, 26, 27, 28, 29, 30, 31] (by decide +kernel) (by decide +kernel)
set_option maxRecDepth 20000 in
theorem gX12_meanHeat_X6_panAt : GoodIn wsX12_meanHeat (wsV RX12 201 RX6 yX6_panAt wsX6_panAt) := goodIn_app (goodIn_of _ (by decide +kernel)) ggX12_meanHeat_X6_panAt
theorem dX12_meanHeat_0 : decode cX12_meanHeat 0 = .ok (.aload_n 0, 1) := by decide +kernel
theorem dX12_meanHeat_1 : decode cX12_meanHeat 1 = .ok (.getfield 26, 3) := by decide +kernel
theorem dX12_meanHeat_4 : decode cX12_meanHeat 4 = .ok (.getfield 82, 3) := by decide +kernel
theorem dX12_meanHeat_7 : decode cX12_meanHeat 7 = .ok (.getfield 83, 3) := by decide +kernel
theorem dX12_meanHeat_10 : decode cX12_meanHeat 10 = .ok (.istore_n 1, 1) := by decide +kernel
theorem dX12_meanHeat_11 : decode cX12_meanHeat 11 = .ok (.iload_n 1, 1) := by decide +kernel
theorem dX12_meanHeat_12 : decode cX12_meanHeat 12 = .ok (.ifCond .ne 5, 3) := by decide +kernel
theorem dX12_meanHeat_15 : decode cX12_meanHeat 15 = .ok (.dconst 0, 1) := by decide +kernel
theorem dX12_meanHeat_16 : decode cX12_meanHeat 16 = .ok (.dreturn, 1) := by decide +kernel
theorem dX12_meanHeat_17 : decode cX12_meanHeat 17 = .ok (.iconst 0, 1) := by decide +kernel
theorem dX12_meanHeat_18 : decode cX12_meanHeat 18 = .ok (.istore_n 2, 1) := by decide +kernel
theorem dX12_meanHeat_19 : decode cX12_meanHeat 19 = .ok (.iconst 0, 1) := by decide +kernel
theorem dX12_meanHeat_20 : decode cX12_meanHeat 20 = .ok (.istore_n 3, 1) := by decide +kernel
theorem dX12_meanHeat_21 : decode cX12_meanHeat 21 = .ok (.iload_n 3, 1) := by decide +kernel
theorem dX12_meanHeat_22 : decode cX12_meanHeat 22 = .ok (.iload_n 1, 1) := by decide +kernel
theorem dX12_meanHeat_23 : decode cX12_meanHeat 23 = .ok (.if_icmp .ge 36, 3) := by decide +kernel
theorem dX12_meanHeat_26 : decode cX12_meanHeat 26 = .ok (.aload_n 0, 1) := by decide +kernel
theorem dX12_meanHeat_27 : decode cX12_meanHeat 27 = .ok (.getfield 26, 3) := by decide +kernel
theorem dX12_meanHeat_30 : decode cX12_meanHeat 30 = .ok (.iload_n 3, 1) := by decide +kernel
theorem dX12_meanHeat_31 : decode cX12_meanHeat 31 = .ok (.invokevirtual 201, 3) := by decide +kernel
theorem dX12_meanHeat_34 : decode cX12_meanHeat 34 = .ok (.astore 4, 2) := by decide +kernel
theorem dX12_meanHeat_36 : decode cX12_meanHeat 36 = .ok (.iload_n 2, 1) := by decide +kernel
theorem dX12_meanHeat_37 : decode cX12_meanHeat 37 = .ok (.aload 4, 2) := by decide +kernel
theorem dX12_meanHeat_39 : decode cX12_meanHeat 39 = .ok (.ifnonnull 7, 3) := by decide +kernel
theorem dX12_meanHeat_42 : decode cX12_meanHeat 42 = .ok (.iconst 0, 1) := by decide +kernel
theorem dX12_meanHeat_43 : decode cX12_meanHeat 43 = .ok (.goto 8, 3) := by decide +kernel
theorem dX12_meanHeat_46 : decode cX12_meanHeat 46 = .ok (.aload 4, 2) := by decide +kernel
theorem dX12_meanHeat_48 : decode cX12_meanHeat 48 = .ok (.getfield 124, 3) := by decide +kernel
theorem dX12_meanHeat_51 : decode cX12_meanHeat 51 = .ok (.iadd, 1) := by decide +kernel
theorem dX12_meanHeat_52 : decode cX12_meanHeat 52 = .ok (.istore_n 2, 1) := by decide +kernel
theorem dX12_meanHeat_53 : decode cX12_meanHeat 53 = .ok (.iinc 3 1, 3) := by decide +kernel
theorem dX12_meanHeat_56 : decode cX12_meanHeat 56 = .ok (.goto (-35), 3) := by decide +kernel
theorem dX12_meanHeat_59 : decode cX12_meanHeat 59 = .ok (.iload_n 2, 1) := by decide +kernel
theorem dX12_meanHeat_60 : decode cX12_meanHeat 60 = .ok (.i2d, 1) := by decide +kernel
theorem dX12_meanHeat_61 : decode cX12_meanHeat 61 = .ok (.iload_n 1, 1) := by decide +kernel
theorem dX12_meanHeat_62 : decode cX12_meanHeat 62 = .ok (.i2d, 1) := by decide +kernel
theorem dX12_meanHeat_63 : decode cX12_meanHeat 63 = .ok (.ddiv, 1) := by decide +kernel
theorem dX12_meanHeat_64 : decode cX12_meanHeat 64 = .ok (.dreturn, 1) := by decide +kernel
set_option maxRecDepth 20000 in
theorem ggX12_digest_X12_mixed : GoodIn wsX12_digest wsX12_mixed := goodIn_r _ [6, 7] (by decide +kernel) (by decide +kernel)
set_option maxRecDepth 20000 in
theorem gX12_digest_X12_mixed : GoodIn wsX12_digest (va_wsS RX12 206 yX12_mixed wsX12_mixed) := goodIn_app (goodIn_of _ (by decide +kernel)) ggX12_digest_X12_mixed
set_option maxRecDepth 20000 in
theorem ggX12_digest_X6_warningsOfKind : GoodIn wsX12_digest wsX6_warningsOfKind := goodIn_r _ [12, 13, 52, 53, 54, 55, 56, 57, 58, 59, 60] (by decide +kernel) (by decide +kernel)
set_option maxRecDepth 20000 in
theorem gX12_digest_X6_warningsOfKind : GoodIn wsX12_digest (wsV RX12 153 RX6 yX6_warningsOfKind wsX6_warningsOfKind) := goodIn_app (goodIn_of _ (by decide +kernel)) ggX12_digest_X6_warningsOfKind
set_option maxRecDepth 20000 in
theorem ggX12_digest_X6_panAt : GoodIn wsX12_digest wsX6_panAt := goodIn_r _ [17, 18, 19, 52, 53, 54, 55, 56, 57, 58, 59, 60, 61, 62, 63, 64, 65, 66, 67] (by decide +kernel) (by decide +kernel)
set_option maxRecDepth 20000 in
theorem gX12_digest_X6_panAt : GoodIn wsX12_digest (wsV RX12 201 RX6 yX6_panAt wsX6_panAt) := goodIn_app (goodIn_of _ (by decide +kernel)) ggX12_digest_X6_panAt
set_option maxRecDepth 20000 in
theorem ggX12_digest_X12_mixedWithPan : GoodIn wsX12_digest wsX12_mixedWithPan := goodIn_r _ [22, 3, 4, 5, 6, 7, 70, 71, 72, 73, 74] (by decide +kernel) (by decide +kernel)
set_option maxRecDepth 20000 in
theorem gX12_digest_X12_mixedWithPan : GoodIn wsX12_digest (va_wsS RX12 210 yX12_mixedWithPan wsX12_mixedWithPan) := goodIn_app (goodIn_of _ (by decide +kernel)) ggX12_digest_X12_mixedWithPan
set_option maxRecDepth 20000 in
theorem ggX12_digest_X12_mixedWithHistory : GoodIn wsX12_digest wsX12_mixedWithHistory := goodIn_r _ [25, 26, 27, 28, 29, 30, 31, 32, 33, 34, 35, 36, 37, 38, 39, 40, 41, 42, 43, 44, 3, 4, 5, 6, 7, 68, 69] (by decide +kernel) (by decide +kernel)
set_option maxRecDepth 20000 in
theorem gX12_digest_X12_mixedWithHistory : GoodIn wsX12_digest (va_wsS RX12 214 yX12_mixedWithHistory wsX12_mixedWithHistory) := goodIn_app (goodIn_of _ (by decide +kernel)) ggX12_digest_X12_mixedWithHistory
theorem dX12_digest_0 : decode cX12_digest 0 = .ok (.ldc2_w 204, 3) := by decide +kernel
theorem dX12_digest_3 : decode cX12_digest 3 = .ok (.lstore_n 1, 1) := by decide +kernel
theorem dX12_digest_4 : decode cX12_digest 4 = .ok (.lload_n 1, 1) := by decide +kernel
theorem dX12_digest_5 : decode cX12_digest 5 = .ok (.aload_n 0, 1) := by decide +kernel
theorem dX12_digest_6 : decode cX12_digest 6 = .ok (.getfield 26, 3) := by decide +kernel
theorem dX12_digest_9 : decode cX12_digest 9 = .ok (.getfield 82, 3) := by decide +kernel
theorem dX12_digest_12 : decode cX12_digest 12 = .ok (.getfield 83, 3) := by decide +kernel
theorem dX12_digest_15 : decode cX12_digest 15 = .ok (.invokestatic 206, 3) := by decide +kernel
theorem dX12_digest_18 : decode cX12_digest 18 = .ok (.lstore_n 1, 1) := by decide +kernel
theorem dX12_digest_19 : decode cX12_digest 19 = .ok (.lload_n 1, 1) := by decide +kernel
theorem dX12_digest_20 : decode cX12_digest 20 = .ok (.aload_n 0, 1) := by decide +kernel
theorem dX12_digest_21 : decode cX12_digest 21 = .ok (.getfield 26, 3) := by decide +kernel
theorem dX12_digest_24 : decode cX12_digest 24 = .ok (.getfield 82, 3) := by decide +kernel
theorem dX12_digest_27 : decode cX12_digest 27 = .ok (.getfield 88, 3) := by decide +kernel
theorem dX12_digest_30 : decode cX12_digest 30 = .ok (.invokestatic 206, 3) := by decide +kernel
theorem dX12_digest_33 : decode cX12_digest 33 = .ok (.lstore_n 1, 1) := by decide +kernel
theorem dX12_digest_34 : decode cX12_digest 34 = .ok (.lload_n 1, 1) := by decide +kernel
theorem dX12_digest_35 : decode cX12_digest 35 = .ok (.aload_n 0, 1) := by decide +kernel
theorem dX12_digest_36 : decode cX12_digest 36 = .ok (.getfield 26, 3) := by decide +kernel
theorem dX12_digest_39 : decode cX12_digest 39 = .ok (.getfield 82, 3) := by decide +kernel
theorem dX12_digest_42 : decode cX12_digest 42 = .ok (.getfield 91, 3) := by decide +kernel
theorem dX12_digest_45 : decode cX12_digest 45 = .ok (.invokestatic 206, 3) := by decide +kernel
theorem dX12_digest_48 : decode cX12_digest 48 = .ok (.lstore_n 1, 1) := by decide +kernel
theorem dX12_digest_49 : decode cX12_digest 49 = .ok (.lload_n 1, 1) := by decide +kernel
theorem dX12_digest_50 : decode cX12_digest 50 = .ok (.aload_n 0, 1) := by decide +kernel
theorem dX12_digest_51 : decode cX12_digest 51 = .ok (.getfield 26, 3) := by decide +kernel
theorem dX12_digest_54 : decode cX12_digest 54 = .ok (.getfield 94, 3) := by decide +kernel
theorem dX12_digest_57 : decode cX12_digest 57 = .ok (.invokestatic 206, 3) := by decide +kernel
theorem dX12_digest_60 : decode cX12_digest 60 = .ok (.lstore_n 1, 1) := by decide +kernel
theorem dX12_digest_61 : decode cX12_digest 61 = .ok (.lload_n 1, 1) := by decide +kernel
theorem dX12_digest_62 : decode cX12_digest 62 = .ok (.aload_n 0, 1) := by decide +kernel
theorem dX12_digest_63 : decode cX12_digest 63 = .ok (.getfield 26, 3) := by decide +kernel
theorem dX12_digest_66 : decode cX12_digest 66 = .ok (.getfield 100, 3) := by decide +kernel
theorem dX12_digest_69 : decode cX12_digest 69 = .ok (.invokestatic 206, 3) := by decide +kernel
theorem dX12_digest_72 : decode cX12_digest 72 = .ok (.lstore_n 1, 1) := by decide +kernel
theorem dX12_digest_73 : decode cX12_digest 73 = .ok (.lload_n 1, 1) := by decide +kernel
theorem dX12_digest_74 : decode cX12_digest 74 = .ok (.aload_n 0, 1) := by decide +kernel
theorem dX12_digest_75 : decode cX12_digest 75 = .ok (.getfield 26, 3) := by decide +kernel
theorem dX12_digest_78 : decode cX12_digest 78 = .ok (.getfield 103, 3) := by decide +kernel
theorem dX12_digest_81 : decode cX12_digest 81 = .ok (.invokestatic 206, 3) := by decide +kernel
theorem dX12_digest_84 : decode cX12_digest 84 = .ok (.lstore_n 1, 1) := by decide +kernel
theorem dX12_digest_85 : decode cX12_digest 85 = .ok (.lload_n 1, 1) := by decide +kernel
theorem dX12_digest_86 : decode cX12_digest 86 = .ok (.aload_n 0, 1) := by decide +kernel
theorem dX12_digest_87 : decode cX12_digest 87 = .ok (.getfield 26, 3) := by decide +kernel
theorem dX12_digest_90 : decode cX12_digest 90 = .ok (.getfield 106, 3) := by decide +kernel
theorem dX12_digest_93 : decode cX12_digest 93 = .ok (.invokestatic 206, 3) := by decide +kernel
theorem dX12_digest_96 : decode cX12_digest 96 = .ok (.lstore_n 1, 1) := by decide +kernel
theorem dX12_digest_97 : decode cX12_digest 97 = .ok (.lload_n 1, 1) := by decide +kernel
theorem dX12_digest_98 : decode cX12_digest 98 = .ok (.aload_n 0, 1) := by decide +kernel
theorem dX12_digest_99 : decode cX12_digest 99 = .ok (.getfield 26, 3) := by decide +kernel
theorem dX12_digest_102 : decode cX12_digest 102 = .ok (.getfield 144, 3) := by decide +kernel
theorem dX12_digest_105 : decode cX12_digest 105 = .ok (.getfield 148, 3) := by decide +kernel
theorem dX12_digest_108 : decode cX12_digest 108 = .ok (.invokestatic 206, 3) := by decide +kernel
theorem dX12_digest_111 : decode cX12_digest 111 = .ok (.lstore_n 1, 1) := by decide +kernel
theorem dX12_digest_112 : decode cX12_digest 112 = .ok (.lload_n 1, 1) := by decide +kernel
theorem dX12_digest_113 : decode cX12_digest 113 = .ok (.aload_n 0, 1) := by decide +kernel
theorem dX12_digest_114 : decode cX12_digest 114 = .ok (.getfield 26, 3) := by decide +kernel
theorem dX12_digest_117 : decode cX12_digest 117 = .ok (.getfield 166, 3) := by decide +kernel
theorem dX12_digest_120 : decode cX12_digest 120 = .ok (.getfield 148, 3) := by decide +kernel
theorem dX12_digest_123 : decode cX12_digest 123 = .ok (.invokestatic 206, 3) := by decide +kernel
theorem dX12_digest_126 : decode cX12_digest 126 = .ok (.lstore_n 1, 1) := by decide +kernel
theorem dX12_digest_127 : decode cX12_digest 127 = .ok (.iconst 1, 1) := by decide +kernel
theorem dX12_digest_128 : decode cX12_digest 128 = .ok (.istore_n 3, 1) := by decide +kernel
theorem dX12_digest_129 : decode cX12_digest 129 = .ok (.iload_n 3, 1) := by decide +kernel
theorem dX12_digest_130 : decode cX12_digest 130 = .ok (.iconst 5, 1) := by decide +kernel
theorem dX12_digest_131 : decode cX12_digest 131 = .ok (.if_icmp .gt 22, 3) := by decide +kernel
theorem dX12_digest_134 : decode cX12_digest 134 = .ok (.lload_n 1, 1) := by decide +kernel
theorem dX12_digest_135 : decode cX12_digest 135 = .ok (.aload_n 0, 1) := by decide +kernel
theorem dX12_digest_136 : decode cX12_digest 136 = .ok (.getfield 26, 3) := by decide +kernel
theorem dX12_digest_139 : decode cX12_digest 139 = .ok (.iload_n 3, 1) := by decide +kernel
theorem dX12_digest_140 : decode cX12_digest 140 = .ok (.invokevirtual 153, 3) := by decide +kernel
theorem dX12_digest_143 : decode cX12_digest 143 = .ok (.invokestatic 206, 3) := by decide +kernel
theorem dX12_digest_146 : decode cX12_digest 146 = .ok (.lstore_n 1, 1) := by decide +kernel
theorem dX12_digest_147 : decode cX12_digest 147 = .ok (.iinc 3 1, 3) := by decide +kernel
theorem dX12_digest_150 : decode cX12_digest 150 = .ok (.goto (-21), 3) := by decide +kernel
theorem dX12_digest_153 : decode cX12_digest 153 = .ok (.iconst 0, 1) := by decide +kernel
theorem dX12_digest_154 : decode cX12_digest 154 = .ok (.istore_n 3, 1) := by decide +kernel
theorem dX12_digest_155 : decode cX12_digest 155 = .ok (.iload_n 3, 1) := by decide +kernel
theorem dX12_digest_156 : decode cX12_digest 156 = .ok (.aload_n 0, 1) := by decide +kernel
theorem dX12_digest_157 : decode cX12_digest 157 = .ok (.getfield 26, 3) := by decide +kernel
theorem dX12_digest_160 : decode cX12_digest 160 = .ok (.getfield 82, 3) := by decide +kernel
theorem dX12_digest_163 : decode cX12_digest 163 = .ok (.getfield 83, 3) := by decide +kernel
theorem dX12_digest_166 : decode cX12_digest 166 = .ok (.if_icmp .ge 22, 3) := by decide +kernel
theorem dX12_digest_169 : decode cX12_digest 169 = .ok (.lload_n 1, 1) := by decide +kernel
theorem dX12_digest_170 : decode cX12_digest 170 = .ok (.aload_n 0, 1) := by decide +kernel
theorem dX12_digest_171 : decode cX12_digest 171 = .ok (.getfield 26, 3) := by decide +kernel
theorem dX12_digest_174 : decode cX12_digest 174 = .ok (.iload_n 3, 1) := by decide +kernel
theorem dX12_digest_175 : decode cX12_digest 175 = .ok (.invokevirtual 201, 3) := by decide +kernel
theorem dX12_digest_178 : decode cX12_digest 178 = .ok (.invokestatic 210, 3) := by decide +kernel
theorem dX12_digest_181 : decode cX12_digest 181 = .ok (.lstore_n 1, 1) := by decide +kernel
theorem dX12_digest_182 : decode cX12_digest 182 = .ok (.iinc 3 1, 3) := by decide +kernel
theorem dX12_digest_185 : decode cX12_digest 185 = .ok (.goto (-30), 3) := by decide +kernel
theorem dX12_digest_188 : decode cX12_digest 188 = .ok (.lload_n 1, 1) := by decide +kernel
theorem dX12_digest_189 : decode cX12_digest 189 = .ok (.aload_n 0, 1) := by decide +kernel
theorem dX12_digest_190 : decode cX12_digest 190 = .ok (.getfield 26, 3) := by decide +kernel
theorem dX12_digest_193 : decode cX12_digest 193 = .ok (.getfield 144, 3) := by decide +kernel
theorem dX12_digest_196 : decode cX12_digest 196 = .ok (.invokestatic 214, 3) := by decide +kernel
theorem dX12_digest_199 : decode cX12_digest 199 = .ok (.aload_n 0, 1) := by decide +kernel
theorem dX12_digest_200 : decode cX12_digest 200 = .ok (.getfield 26, 3) := by decide +kernel
theorem dX12_digest_203 : decode cX12_digest 203 = .ok (.getfield 166, 3) := by decide +kernel
theorem dX12_digest_206 : decode cX12_digest 206 = .ok (.invokestatic 214, 3) := by decide +kernel
theorem dX12_digest_209 : decode cX12_digest 209 = .ok (.lreturn, 1) := by decide +kernel
theorem dX12_mixed_0 : decode cX12_mixed 0 = .ok (.lload_n 0, 1) := by decide +kernel
theorem dX12_mixed_1 : decode cX12_mixed 1 = .ok (.ldc2_w 218, 3) := by decide +kernel
theorem dX12_mixed_4 : decode cX12_mixed 4 = .ok (.lmul, 1) := by decide +kernel
theorem dX12_mixed_5 : decode cX12_mixed 5 = .ok (.iload_n 2, 1) := by decide +kernel
theorem dX12_mixed_6 : decode cX12_mixed 6 = .ok (.i2l, 1) := by decide +kernel
theorem dX12_mixed_7 : decode cX12_mixed 7 = .ok (.ladd, 1) := by decide +kernel
theorem dX12_mixed_8 : decode cX12_mixed 8 = .ok (.lreturn, 1) := by decide +kernel
set_option maxRecDepth 20000 in
theorem ggX12_mixedWithPan_X12_mixed : GoodIn wsX12_mixedWithPan wsX12_mixed := goodIn_r _ [4, 5] (by decide +kernel) (by decide +kernel)
set_option maxRecDepth 20000 in
theorem gX12_mixedWithPan_X12_mixed : GoodIn wsX12_mixedWithPan (va_wsS RX12 206 yX12_mixed wsX12_mixed) := goodIn_app (goodIn_of _ (by decide +kernel)) ggX12_mixedWithPan_X12_mixed
theorem dX12_mixedWithPan_0 : decode cX12_mixedWithPan 0 = .ok (.aload_n 2, 1) := by decide +kernel
theorem dX12_mixedWithPan_1 : decode cX12_mixedWithPan 1 = .ok (.ifnonnull 5, 3) := by decide +kernel
theorem dX12_mixedWithPan_4 : decode cX12_mixedWithPan 4 = .ok (.lload_n 0, 1) := by decide +kernel
theorem dX12_mixedWithPan_5 : decode cX12_mixedWithPan 5 = .ok (.lreturn, 1) := by decide +kernel
theorem dX12_mixedWithPan_6 : decode cX12_mixedWithPan 6 = .ok (.lload_n 0, 1) := by decide +kernel
theorem dX12_mixedWithPan_7 : decode cX12_mixedWithPan 7 = .ok (.aload_n 2, 1) := by decide +kernel
theorem dX12_mixedWithPan_8 : decode cX12_mixedWithPan 8 = .ok (.getfield 113, 3) := by decide +kernel
theorem dX12_mixedWithPan_11 : decode cX12_mixedWithPan 11 = .ok (.invokestatic 206, 3) := by decide +kernel
theorem dX12_mixedWithPan_14 : decode cX12_mixedWithPan 14 = .ok (.lstore_n 3, 1) := by decide +kernel
theorem dX12_mixedWithPan_15 : decode cX12_mixedWithPan 15 = .ok (.lload_n 3, 1) := by decide +kernel
theorem dX12_mixedWithPan_16 : decode cX12_mixedWithPan 16 = .ok (.aload_n 2, 1) := by decide +kernel
theorem dX12_mixedWithPan_17 : decode cX12_mixedWithPan 17 = .ok (.getfield 118, 3) := by decide +kernel
theorem dX12_mixedWithPan_20 : decode cX12_mixedWithPan 20 = .ok (.invokestatic 206, 3) := by decide +kernel
theorem dX12_mixedWithPan_23 : decode cX12_mixedWithPan 23 = .ok (.lstore_n 3, 1) := by decide +kernel
theorem dX12_mixedWithPan_24 : decode cX12_mixedWithPan 24 = .ok (.lload_n 3, 1) := by decide +kernel
theorem dX12_mixedWithPan_25 : decode cX12_mixedWithPan 25 = .ok (.aload_n 2, 1) := by decide +kernel
theorem dX12_mixedWithPan_26 : decode cX12_mixedWithPan 26 = .ok (.getfield 121, 3) := by decide +kernel
theorem dX12_mixedWithPan_29 : decode cX12_mixedWithPan 29 = .ok (.invokestatic 206, 3) := by decide +kernel
theorem dX12_mixedWithPan_32 : decode cX12_mixedWithPan 32 = .ok (.lstore_n 3, 1) := by decide +kernel
theorem dX12_mixedWithPan_33 : decode cX12_mixedWithPan 33 = .ok (.lload_n 3, 1) := by decide +kernel
theorem dX12_mixedWithPan_34 : decode cX12_mixedWithPan 34 = .ok (.aload_n 2, 1) := by decide +kernel
theorem dX12_mixedWithPan_35 : decode cX12_mixedWithPan 35 = .ok (.getfield 124, 3) := by decide +kernel
theorem dX12_mixedWithPan_38 : decode cX12_mixedWithPan 38 = .ok (.invokestatic 206, 3) := by decide +kernel
theorem dX12_mixedWithPan_41 : decode cX12_mixedWithPan 41 = .ok (.lstore_n 3, 1) := by decide +kernel
theorem dX12_mixedWithPan_42 : decode cX12_mixedWithPan 42 = .ok (.lload_n 3, 1) := by decide +kernel
theorem dX12_mixedWithPan_43 : decode cX12_mixedWithPan 43 = .ok (.aload_n 2, 1) := by decide +kernel
theorem dX12_mixedWithPan_44 : decode cX12_mixedWithPan 44 = .ok (.getfield 127, 3) := by decide +kernel
theorem dX12_mixedWithPan_47 : decode cX12_mixedWithPan 47 = .ok (.invokestatic 206, 3) := by decide +kernel
theorem dX12_mixedWithPan_50 : decode cX12_mixedWithPan 50 = .ok (.lreturn, 1) := by decide +kernel
set_option maxRecDepth 20000 in
theorem ggX12_mixedWithHistory_X4_kept : GoodIn wsX12_mixedWithHistory wsX4_kept := goodIn_r _ [5, 6, 7, 8, 9, 10, 25, 26] (by decide +kernel) (by decide +kernel)
set_option maxRecDepth 20000 in
theorem gX12_mixedWithHistory_X4_kept : GoodIn wsX12_mixedWithHistory (wsV RX12 156 RX4 yX4_kept wsX4_kept) := goodIn_app (goodIn_of _ (by decide +kernel)) ggX12_mixedWithHistory_X4_kept
set_option maxRecDepth 20000 in
theorem ggX12_mixedWithHistory_X4_recall : GoodIn wsX12_mixedWithHistory wsX4_recall := goodIn_r _ [14, 6, 15, 16, 17, 18, 19, 25, 26] (by decide +kernel) (by decide +kernel)
set_option maxRecDepth 20000 in
theorem gX12_mixedWithHistory_X4_recall : GoodIn wsX12_mixedWithHistory (wsV RX12 163 RX4 yX4_recall wsX4_recall) := goodIn_app (goodIn_of _ (by decide +kernel)) ggX12_mixedWithHistory_X4_recall
set_option maxRecDepth 20000 in
theorem ggX12_mixedWithHistory_X12_mixed : GoodIn wsX12_mixedWithHistory wsX12_mixed := goodIn_r _ [23, 24] (by decide +kernel) (by decide +kernel)
set_option maxRecDepth 20000 in
theorem gX12_mixedWithHistory_X12_mixed : GoodIn wsX12_mixedWithHistory (va_wsS RX12 206 yX12_mixed wsX12_mixed) := goodIn_app (goodIn_of _ (by decide +kernel)) ggX12_mixedWithHistory_X12_mixed
theorem dX12_mixedWithHistory_0 : decode cX12_mixedWithHistory 0 = .ok (.lload_n 0, 1) := by decide +kernel
theorem dX12_mixedWithHistory_1 : decode cX12_mixedWithHistory 1 = .ok (.lstore_n 3, 1) := by decide +kernel
theorem dX12_mixedWithHistory_2 : decode cX12_mixedWithHistory 2 = .ok (.aload_n 2, 1) := by decide +kernel
theorem dX12_mixedWithHistory_3 : decode cX12_mixedWithHistory 3 = .ok (.invokevirtual 156, 3) := by decide +kernel
theorem dX12_mixedWithHistory_6 : decode cX12_mixedWithHistory 6 = .ok (.istore 5, 2) := by decide +kernel
theorem dX12_mixedWithHistory_8 : decode cX12_mixedWithHistory 8 = .ok (.iconst 0, 1) := by decide +kernel
theorem dX12_mixedWithHistory_9 : decode cX12_mixedWithHistory 9 = .ok (.istore 6, 2) := by decide +kernel
theorem dX12_mixedWithHistory_11 : decode cX12_mixedWithHistory 11 = .ok (.iload 6, 2) := by decide +kernel
theorem dX12_mixedWithHistory_13 : decode cX12_mixedWithHistory 13 = .ok (.iload 5, 2) := by decide +kernel
theorem dX12_mixedWithHistory_15 : decode cX12_mixedWithHistory 15 = .ok (.if_icmp .ge 20, 3) := by decide +kernel
theorem dX12_mixedWithHistory_18 : decode cX12_mixedWithHistory 18 = .ok (.lload_n 3, 1) := by decide +kernel
theorem dX12_mixedWithHistory_19 : decode cX12_mixedWithHistory 19 = .ok (.aload_n 2, 1) := by decide +kernel
theorem dX12_mixedWithHistory_20 : decode cX12_mixedWithHistory 20 = .ok (.iload 6, 2) := by decide +kernel
theorem dX12_mixedWithHistory_22 : decode cX12_mixedWithHistory 22 = .ok (.invokevirtual 163, 3) := by decide +kernel
theorem dX12_mixedWithHistory_25 : decode cX12_mixedWithHistory 25 = .ok (.invokestatic 206, 3) := by decide +kernel
theorem dX12_mixedWithHistory_28 : decode cX12_mixedWithHistory 28 = .ok (.lstore_n 3, 1) := by decide +kernel
theorem dX12_mixedWithHistory_29 : decode cX12_mixedWithHistory 29 = .ok (.iinc 6 1, 3) := by decide +kernel
theorem dX12_mixedWithHistory_32 : decode cX12_mixedWithHistory 32 = .ok (.goto (-21), 3) := by decide +kernel
theorem dX12_mixedWithHistory_35 : decode cX12_mixedWithHistory 35 = .ok (.lload_n 3, 1) := by decide +kernel
theorem dX12_mixedWithHistory_36 : decode cX12_mixedWithHistory 36 = .ok (.lreturn, 1) := by decide +kernel
theorem dX12_requireWithin_0 : decode cX12_requireWithin 0 = .ok (.iload_n 0, 1) := by decide +kernel
theorem dX12_requireWithin_1 : decode cX12_requireWithin 1 = .ok (.iload_n 1, 1) := by decide +kernel
theorem dX12_requireWithin_2 : decode cX12_requireWithin 2 = .ok (.if_icmp .lt 8, 3) := by decide +kernel
theorem dX12_requireWithin_5 : decode cX12_requireWithin 5 = .ok (.iload_n 0, 1) := by decide +kernel
theorem dX12_requireWithin_6 : decode cX12_requireWithin 6 = .ok (.iload_n 2, 1) := by decide +kernel
theorem dX12_requireWithin_7 : decode cX12_requireWithin 7 = .ok (.if_icmp .le 13, 3) := by decide +kernel
theorem dX12_requireWithin_10 : decode cX12_requireWithin 10 = .ok (.new 220, 3) := by decide +kernel
theorem dX12_requireWithin_13 : decode cX12_requireWithin 13 = .ok (.dup, 1) := by decide +kernel
theorem dX12_requireWithin_14 : decode cX12_requireWithin 14 = .ok (.ldc 222, 2) := by decide +kernel
theorem dX12_requireWithin_16 : decode cX12_requireWithin 16 = .ok (.invokespecial 224, 3) := by decide +kernel
theorem dX12_requireWithin_19 : decode cX12_requireWithin 19 = .ok (.athrow, 1) := by decide +kernel
theorem dX12_requireWithin_20 : decode cX12_requireWithin 20 = .ok (.return_, 1) := by decide +kernel
theorem dX12_requireIndex_0 : decode cX12_requireIndex 0 = .ok (.iload_n 0, 1) := by decide +kernel
theorem dX12_requireIndex_1 : decode cX12_requireIndex 1 = .ok (.ifCond .lt 8, 3) := by decide +kernel
theorem dX12_requireIndex_4 : decode cX12_requireIndex 4 = .ok (.iload_n 0, 1) := by decide +kernel
theorem dX12_requireIndex_5 : decode cX12_requireIndex 5 = .ok (.iload_n 1, 1) := by decide +kernel
theorem dX12_requireIndex_6 : decode cX12_requireIndex 6 = .ok (.if_icmp .lt 13, 3) := by decide +kernel
theorem dX12_requireIndex_9 : decode cX12_requireIndex 9 = .ok (.new 225, 3) := by decide +kernel
theorem dX12_requireIndex_12 : decode cX12_requireIndex 12 = .ok (.dup, 1) := by decide +kernel
theorem dX12_requireIndex_13 : decode cX12_requireIndex 13 = .ok (.ldc 227, 2) := by decide +kernel
theorem dX12_requireIndex_15 : decode cX12_requireIndex 15 = .ok (.invokespecial 229, 3) := by decide +kernel
theorem dX12_requireIndex_18 : decode cX12_requireIndex 18 = .ok (.athrow, 1) := by decide +kernel
theorem dX12_requireIndex_19 : decode cX12_requireIndex 19 = .ok (.return_, 1) := by decide +kernel
set_option maxRecDepth 20000 in
theorem ggX12_requireRecipe_X12_requireIndex : GoodIn wsX12_requireRecipe wsX12_requireIndex := goodIn_ca (goodIn_r _ [5, 6, 7] (by decide +kernel) (by decide +kernel)) (goodIn_sub (fun _ h => List.mem_cons_of_mem _ (List.mem_append_right _ h)) (by decide +kernel))
set_option maxRecDepth 20000 in
theorem gX12_requireRecipe_X12_requireIndex : GoodIn wsX12_requireRecipe (va_wsS RX12 159 yX12_requireIndex wsX12_requireIndex) := goodIn_app (goodIn_of _ (by decide +kernel)) ggX12_requireRecipe_X12_requireIndex
theorem dX12_requireRecipe_0 : decode cX12_requireRecipe 0 = .ok (.iload_n 1, 1) := by decide +kernel
theorem dX12_requireRecipe_1 : decode cX12_requireRecipe 1 = .ok (.aload_n 0, 1) := by decide +kernel
theorem dX12_requireRecipe_2 : decode cX12_requireRecipe 2 = .ok (.getfield 26, 3) := by decide +kernel
theorem dX12_requireRecipe_5 : decode cX12_requireRecipe 5 = .ok (.getfield 82, 3) := by decide +kernel
theorem dX12_requireRecipe_8 : decode cX12_requireRecipe 8 = .ok (.getfield 88, 3) := by decide +kernel
theorem dX12_requireRecipe_11 : decode cX12_requireRecipe 11 = .ok (.invokestatic 159, 3) := by decide +kernel
theorem dX12_requireRecipe_14 : decode cX12_requireRecipe 14 = .ok (.return_, 1) := by decide +kernel
set_option maxRecDepth 20000 in
theorem ggX12_requirePan_X6_panAt : GoodIn wsX12_requirePan wsX6_panAt := goodIn_r _ [8, 9, 10, 18, 19, 20, 21, 22, 23, 24, 25, 26, 27, 28, 29, 30, 31, 32, 33] (by decide +kernel) (by decide +kernel)
set_option maxRecDepth 20000 in
theorem gX12_requirePan_X6_panAt : GoodIn wsX12_requirePan (wsV RX12 201 RX6 yX6_panAt wsX6_panAt) := goodIn_app (goodIn_of _ (by decide +kernel)) ggX12_requirePan_X6_panAt
theorem dX12_requirePan_0 : decode cX12_requirePan 0 = .ok (.aload_n 0, 1) := by decide +kernel
theorem dX12_requirePan_1 : decode cX12_requirePan 1 = .ok (.getfield 26, 3) := by decide +kernel
theorem dX12_requirePan_4 : decode cX12_requirePan 4 = .ok (.iload_n 1, 1) := by decide +kernel
theorem dX12_requirePan_5 : decode cX12_requirePan 5 = .ok (.invokevirtual 201, 3) := by decide +kernel
theorem dX12_requirePan_8 : decode cX12_requirePan 8 = .ok (.astore_n 2, 1) := by decide +kernel
theorem dX12_requirePan_9 : decode cX12_requirePan 9 = .ok (.aload_n 2, 1) := by decide +kernel
theorem dX12_requirePan_10 : decode cX12_requirePan 10 = .ok (.ifnonnull 13, 3) := by decide +kernel
theorem dX12_requirePan_13 : decode cX12_requirePan 13 = .ok (.new 225, 3) := by decide +kernel
theorem dX12_requirePan_16 : decode cX12_requirePan 16 = .ok (.dup, 1) := by decide +kernel
theorem dX12_requirePan_17 : decode cX12_requirePan 17 = .ok (.ldc 230, 2) := by decide +kernel
theorem dX12_requirePan_19 : decode cX12_requirePan 19 = .ok (.invokespecial 229, 3) := by decide +kernel
theorem dX12_requirePan_22 : decode cX12_requirePan 22 = .ok (.athrow, 1) := by decide +kernel
theorem dX12_requirePan_23 : decode cX12_requirePan 23 = .ok (.aload_n 2, 1) := by decide +kernel
theorem dX12_requirePan_24 : decode cX12_requirePan 24 = .ok (.areturn, 1) := by decide +kernel
theorem dX12_quotient_0 : decode cX12_quotient 0 = .ok (.iload_n 1, 1) := by decide +kernel
theorem dX12_quotient_1 : decode cX12_quotient 1 = .ok (.ifCond .ne 7, 3) := by decide +kernel
theorem dX12_quotient_4 : decode cX12_quotient 4 = .ok (.iconst 0, 1) := by decide +kernel
theorem dX12_quotient_5 : decode cX12_quotient 5 = .ok (.goto 6, 3) := by decide +kernel
theorem dX12_quotient_8 : decode cX12_quotient 8 = .ok (.iload_n 0, 1) := by decide +kernel
theorem dX12_quotient_9 : decode cX12_quotient 9 = .ok (.iload_n 1, 1) := by decide +kernel
theorem dX12_quotient_10 : decode cX12_quotient 10 = .ok (.idiv, 1) := by decide +kernel
theorem dX12_quotient_11 : decode cX12_quotient 11 = .ok (.ireturn, 1) := by decide +kernel
theorem dX12_clamped_0 : decode cX12_clamped 0 = .ok (.iload_n 1, 1) := by decide +kernel
theorem dX12_clamped_1 : decode cX12_clamped 1 = .ok (.iload_n 2, 1) := by decide +kernel
theorem dX12_clamped_2 : decode cX12_clamped 2 = .ok (.iload_n 0, 1) := by decide +kernel
theorem dX12_clamped_3 : decode cX12_clamped 3 = .ok (.invokestatic 232, 3) := by decide +kernel
theorem dX12_clamped_6 : decode cX12_clamped 6 = .ok (.invokestatic 237, 3) := by decide +kernel
theorem dX12_clamped_9 : decode cX12_clamped 9 = .ok (.ireturn, 1) := by decide +kernel
theorem dX13_init_0 : decode cX13_init 0 = .ok (.aload_n 0, 1) := by decide +kernel
theorem dX13_init_1 : decode cX13_init 1 = .ok (.invokespecial 3, 3) := by decide +kernel
theorem dX13_init_4 : decode cX13_init 4 = .ok (.aload_n 0, 1) := by decide +kernel
theorem dX13_init_5 : decode cX13_init 5 = .ok (.bipush 9, 2) := by decide +kernel
theorem dX13_init_7 : decode cX13_init 7 = .ok (.newarray .int, 2) := by decide +kernel
theorem dX13_init_9 : decode cX13_init 9 = .ok (.putfield 9, 3) := by decide +kernel
theorem dX13_init_12 : decode cX13_init 12 = .ok (.aload_n 0, 1) := by decide +kernel
theorem dX13_init_13 : decode cX13_init 13 = .ok (.bipush 7, 2) := by decide +kernel
theorem dX13_init_15 : decode cX13_init 15 = .ok (.newarray .int, 2) := by decide +kernel
theorem dX13_init_17 : decode cX13_init 17 = .ok (.putfield 15, 3) := by decide +kernel
theorem dX13_init_20 : decode cX13_init 20 = .ok (.aload_n 0, 1) := by decide +kernel
theorem dX13_init_21 : decode cX13_init 21 = .ok (.bipush 81, 2) := by decide +kernel
theorem dX13_init_23 : decode cX13_init 23 = .ok (.newarray .int, 2) := by decide +kernel
theorem dX13_init_25 : decode cX13_init 25 = .ok (.putfield 18, 3) := by decide +kernel
theorem dX13_init_28 : decode cX13_init 28 = .ok (.aload_n 0, 1) := by decide +kernel
theorem dX13_init_29 : decode cX13_init 29 = .ok (.bipush 81, 2) := by decide +kernel
theorem dX13_init_31 : decode cX13_init 31 = .ok (.newarray .int, 2) := by decide +kernel
theorem dX13_init_33 : decode cX13_init 33 = .ok (.putfield 21, 3) := by decide +kernel
theorem dX13_init_36 : decode cX13_init 36 = .ok (.aload_n 0, 1) := by decide +kernel
theorem dX13_init_37 : decode cX13_init 37 = .ok (.bipush 81, 2) := by decide +kernel
theorem dX13_init_39 : decode cX13_init 39 = .ok (.newarray .int, 2) := by decide +kernel
theorem dX13_init_41 : decode cX13_init 41 = .ok (.putfield 24, 3) := by decide +kernel
theorem dX13_init_44 : decode cX13_init 44 = .ok (.aload_n 0, 1) := by decide +kernel
theorem dX13_init_45 : decode cX13_init 45 = .ok (.bipush 81, 2) := by decide +kernel
theorem dX13_init_47 : decode cX13_init 47 = .ok (.newarray .int, 2) := by decide +kernel
theorem dX13_init_49 : decode cX13_init 49 = .ok (.putfield 27, 3) := by decide +kernel
theorem dX13_init_52 : decode cX13_init 52 = .ok (.aload_n 0, 1) := by decide +kernel
theorem dX13_init_53 : decode cX13_init 53 = .ok (.bipush 81, 2) := by decide +kernel
theorem dX13_init_55 : decode cX13_init 55 = .ok (.newarray .int, 2) := by decide +kernel
theorem dX13_init_57 : decode cX13_init 57 = .ok (.putfield 30, 3) := by decide +kernel
theorem dX13_init_60 : decode cX13_init 60 = .ok (.aload_n 0, 1) := by decide +kernel
theorem dX13_init_61 : decode cX13_init 61 = .ok (.bipush 81, 2) := by decide +kernel
theorem dX13_init_63 : decode cX13_init 63 = .ok (.newarray .int, 2) := by decide +kernel
theorem dX13_init_65 : decode cX13_init 65 = .ok (.putfield 33, 3) := by decide +kernel
theorem dX13_init_68 : decode cX13_init 68 = .ok (.aload_n 0, 1) := by decide +kernel
theorem dX13_init_69 : decode cX13_init 69 = .ok (.bipush 81, 2) := by decide +kernel
theorem dX13_init_71 : decode cX13_init 71 = .ok (.newarray .int, 2) := by decide +kernel
theorem dX13_init_73 : decode cX13_init 73 = .ok (.putfield 36, 3) := by decide +kernel
theorem dX13_init_76 : decode cX13_init 76 = .ok (.aload_n 0, 1) := by decide +kernel
theorem dX13_init_77 : decode cX13_init 77 = .ok (.bipush 81, 2) := by decide +kernel
theorem dX13_init_79 : decode cX13_init 79 = .ok (.newarray .int, 2) := by decide +kernel
theorem dX13_init_81 : decode cX13_init 81 = .ok (.putfield 39, 3) := by decide +kernel
theorem dX13_init_84 : decode cX13_init 84 = .ok (.aload_n 0, 1) := by decide +kernel
theorem dX13_init_85 : decode cX13_init 85 = .ok (.sipush 400, 3) := by decide +kernel
theorem dX13_init_88 : decode cX13_init 88 = .ok (.newarray .int, 2) := by decide +kernel
theorem dX13_init_90 : decode cX13_init 90 = .ok (.putfield 42, 3) := by decide +kernel
theorem dX13_init_93 : decode cX13_init 93 = .ok (.aload_n 0, 1) := by decide +kernel
theorem dX13_init_94 : decode cX13_init 94 = .ok (.sipush 400, 3) := by decide +kernel
theorem dX13_init_97 : decode cX13_init 97 = .ok (.newarray .int, 2) := by decide +kernel
theorem dX13_init_99 : decode cX13_init 99 = .ok (.putfield 45, 3) := by decide +kernel
theorem dX13_init_102 : decode cX13_init 102 = .ok (.aload_n 0, 1) := by decide +kernel
theorem dX13_init_103 : decode cX13_init 103 = .ok (.sipush 400, 3) := by decide +kernel
theorem dX13_init_106 : decode cX13_init 106 = .ok (.newarray .int, 2) := by decide +kernel
theorem dX13_init_108 : decode cX13_init 108 = .ok (.putfield 48, 3) := by decide +kernel
theorem dX13_init_111 : decode cX13_init 111 = .ok (.aload_n 0, 1) := by decide +kernel
theorem dX13_init_112 : decode cX13_init 112 = .ok (.sipush 400, 3) := by decide +kernel
theorem dX13_init_115 : decode cX13_init 115 = .ok (.newarray .int, 2) := by decide +kernel
theorem dX13_init_117 : decode cX13_init 117 = .ok (.putfield 51, 3) := by decide +kernel
theorem dX13_init_120 : decode cX13_init 120 = .ok (.aload_n 0, 1) := by decide +kernel
theorem dX13_init_121 : decode cX13_init 121 = .ok (.sipush 400, 3) := by decide +kernel
theorem dX13_init_124 : decode cX13_init 124 = .ok (.newarray .int, 2) := by decide +kernel
theorem dX13_init_126 : decode cX13_init 126 = .ok (.putfield 54, 3) := by decide +kernel
theorem dX13_init_129 : decode cX13_init 129 = .ok (.aload_n 0, 1) := by decide +kernel
theorem dX13_init_130 : decode cX13_init 130 = .ok (.sipush 400, 3) := by decide +kernel
theorem dX13_init_133 : decode cX13_init 133 = .ok (.newarray .int, 2) := by decide +kernel
theorem dX13_init_135 : decode cX13_init 135 = .ok (.putfield 57, 3) := by decide +kernel
theorem dX13_init_138 : decode cX13_init 138 = .ok (.return_, 1) := by decide +kernel
theorem dX13_begin_0 : decode cX13_begin 0 = .ok (.aload_n 0, 1) := by decide +kernel
theorem dX13_begin_1 : decode cX13_begin 1 = .ok (.iconst 0, 1) := by decide +kernel
theorem dX13_begin_2 : decode cX13_begin 2 = .ok (.putfield 60, 3) := by decide +kernel
theorem dX13_begin_5 : decode cX13_begin 5 = .ok (.aload_n 0, 1) := by decide +kernel
theorem dX13_begin_6 : decode cX13_begin 6 = .ok (.iconst 0, 1) := by decide +kernel
theorem dX13_begin_7 : decode cX13_begin 7 = .ok (.putfield 64, 3) := by decide +kernel
theorem dX13_begin_10 : decode cX13_begin 10 = .ok (.aload_n 0, 1) := by decide +kernel
theorem dX13_begin_11 : decode cX13_begin 11 = .ok (.iconst 0, 1) := by decide +kernel
theorem dX13_begin_12 : decode cX13_begin 12 = .ok (.putfield 67, 3) := by decide +kernel
theorem dX13_begin_15 : decode cX13_begin 15 = .ok (.aload_n 0, 1) := by decide +kernel
theorem dX13_begin_16 : decode cX13_begin 16 = .ok (.iconst 0, 1) := by decide +kernel
theorem dX13_begin_17 : decode cX13_begin 17 = .ok (.putfield 70, 3) := by decide +kernel
theorem dX13_begin_20 : decode cX13_begin 20 = .ok (.aload_n 0, 1) := by decide +kernel
theorem dX13_begin_21 : decode cX13_begin 21 = .ok (.iconst 0, 1) := by decide +kernel
theorem dX13_begin_22 : decode cX13_begin 22 = .ok (.putfield 73, 3) := by decide +kernel
theorem dX13_begin_25 : decode cX13_begin 25 = .ok (.return_, 1) := by decide +kernel
theorem dX13_copy_0 : decode cX13_copy 0 = .ok (.aload_n 0, 1) := by decide +kernel
theorem dX13_copy_1 : decode cX13_copy 1 = .ok (.iconst 0, 1) := by decide +kernel
theorem dX13_copy_2 : decode cX13_copy 2 = .ok (.aload_n 1, 1) := by decide +kernel
theorem dX13_copy_3 : decode cX13_copy 3 = .ok (.iconst 0, 1) := by decide +kernel
theorem dX13_copy_4 : decode cX13_copy 4 = .ok (.aload_n 1, 1) := by decide +kernel
theorem dX13_copy_5 : decode cX13_copy 5 = .ok (.arraylength, 1) := by decide +kernel
theorem dX13_copy_6 : decode cX13_copy 6 = .ok (.invokestatic 76, 3) := by decide +kernel
theorem dX13_copy_9 : decode cX13_copy 9 = .ok (.return_, 1) := by decide +kernel
set_option maxRecDepth 20000 in
theorem ggX13_become_X13_copy : GoodIn wsX13_become wsX13_copy := goodIn_r _ [25, 26, 27, 28, 29] (by decide +kernel) (by decide +kernel)
set_option maxRecDepth 20000 in
theorem gX13_become_X13_copy : GoodIn wsX13_become (va_wsS RX13 82 yX13_copy wsX13_copy) := goodIn_app (goodIn_of _ (by decide +kernel)) ggX13_become_X13_copy
theorem dX13_become_0 : decode cX13_become 0 = .ok (.aload_n 0, 1) := by decide +kernel
theorem dX13_become_1 : decode cX13_become 1 = .ok (.aload_n 1, 1) := by decide +kernel
theorem dX13_become_2 : decode cX13_become 2 = .ok (.getfield 60, 3) := by decide +kernel
theorem dX13_become_5 : decode cX13_become 5 = .ok (.putfield 60, 3) := by decide +kernel
theorem dX13_become_8 : decode cX13_become 8 = .ok (.aload_n 0, 1) := by decide +kernel
theorem dX13_become_9 : decode cX13_become 9 = .ok (.aload_n 1, 1) := by decide +kernel
theorem dX13_become_10 : decode cX13_become 10 = .ok (.getfield 64, 3) := by decide +kernel
theorem dX13_become_13 : decode cX13_become 13 = .ok (.putfield 64, 3) := by decide +kernel
theorem dX13_become_16 : decode cX13_become 16 = .ok (.aload_n 0, 1) := by decide +kernel
theorem dX13_become_17 : decode cX13_become 17 = .ok (.aload_n 1, 1) := by decide +kernel
theorem dX13_become_18 : decode cX13_become 18 = .ok (.getfield 67, 3) := by decide +kernel
theorem dX13_become_21 : decode cX13_become 21 = .ok (.putfield 67, 3) := by decide +kernel
theorem dX13_become_24 : decode cX13_become 24 = .ok (.aload_n 0, 1) := by decide +kernel
theorem dX13_become_25 : decode cX13_become 25 = .ok (.aload_n 1, 1) := by decide +kernel
theorem dX13_become_26 : decode cX13_become 26 = .ok (.getfield 70, 3) := by decide +kernel
theorem dX13_become_29 : decode cX13_become 29 = .ok (.putfield 70, 3) := by decide +kernel
theorem dX13_become_32 : decode cX13_become 32 = .ok (.aload_n 0, 1) := by decide +kernel
theorem dX13_become_33 : decode cX13_become 33 = .ok (.aload_n 1, 1) := by decide +kernel
theorem dX13_become_34 : decode cX13_become 34 = .ok (.getfield 73, 3) := by decide +kernel
theorem dX13_become_37 : decode cX13_become 37 = .ok (.putfield 73, 3) := by decide +kernel
theorem dX13_become_40 : decode cX13_become 40 = .ok (.aload_n 1, 1) := by decide +kernel
theorem dX13_become_41 : decode cX13_become 41 = .ok (.getfield 9, 3) := by decide +kernel
theorem dX13_become_44 : decode cX13_become 44 = .ok (.aload_n 0, 1) := by decide +kernel
theorem dX13_become_45 : decode cX13_become 45 = .ok (.getfield 9, 3) := by decide +kernel
theorem dX13_become_48 : decode cX13_become 48 = .ok (.invokestatic 82, 3) := by decide +kernel
theorem dX13_become_51 : decode cX13_become 51 = .ok (.aload_n 1, 1) := by decide +kernel
theorem dX13_become_52 : decode cX13_become 52 = .ok (.getfield 15, 3) := by decide +kernel
theorem dX13_become_55 : decode cX13_become 55 = .ok (.aload_n 0, 1) := by decide +kernel
theorem dX13_become_56 : decode cX13_become 56 = .ok (.getfield 15, 3) := by decide +kernel
theorem dX13_become_59 : decode cX13_become 59 = .ok (.invokestatic 82, 3) := by decide +kernel
theorem dX13_become_62 : decode cX13_become 62 = .ok (.aload_n 1, 1) := by decide +kernel
theorem dX13_become_63 : decode cX13_become 63 = .ok (.getfield 18, 3) := by decide +kernel
theorem dX13_become_66 : decode cX13_become 66 = .ok (.aload_n 0, 1) := by decide +kernel
theorem dX13_become_67 : decode cX13_become 67 = .ok (.getfield 18, 3) := by decide +kernel
theorem dX13_become_70 : decode cX13_become 70 = .ok (.invokestatic 82, 3) := by decide +kernel
theorem dX13_become_73 : decode cX13_become 73 = .ok (.aload_n 1, 1) := by decide +kernel
theorem dX13_become_74 : decode cX13_become 74 = .ok (.getfield 21, 3) := by decide +kernel
theorem dX13_become_77 : decode cX13_become 77 = .ok (.aload_n 0, 1) := by decide +kernel
theorem dX13_become_78 : decode cX13_become 78 = .ok (.getfield 21, 3) := by decide +kernel
theorem dX13_become_81 : decode cX13_become 81 = .ok (.invokestatic 82, 3) := by decide +kernel
theorem dX13_become_84 : decode cX13_become 84 = .ok (.aload_n 1, 1) := by decide +kernel
theorem dX13_become_85 : decode cX13_become 85 = .ok (.getfield 24, 3) := by decide +kernel
theorem dX13_become_88 : decode cX13_become 88 = .ok (.aload_n 0, 1) := by decide +kernel
theorem dX13_become_89 : decode cX13_become 89 = .ok (.getfield 24, 3) := by decide +kernel
theorem dX13_become_92 : decode cX13_become 92 = .ok (.invokestatic 82, 3) := by decide +kernel
theorem dX13_become_95 : decode cX13_become 95 = .ok (.aload_n 1, 1) := by decide +kernel
theorem dX13_become_96 : decode cX13_become 96 = .ok (.getfield 27, 3) := by decide +kernel
theorem dX13_become_99 : decode cX13_become 99 = .ok (.aload_n 0, 1) := by decide +kernel
theorem dX13_become_100 : decode cX13_become 100 = .ok (.getfield 27, 3) := by decide +kernel
theorem dX13_become_103 : decode cX13_become 103 = .ok (.invokestatic 82, 3) := by decide +kernel
theorem dX13_become_106 : decode cX13_become 106 = .ok (.aload_n 1, 1) := by decide +kernel
theorem dX13_become_107 : decode cX13_become 107 = .ok (.getfield 30, 3) := by decide +kernel
theorem dX13_become_110 : decode cX13_become 110 = .ok (.aload_n 0, 1) := by decide +kernel
theorem dX13_become_111 : decode cX13_become 111 = .ok (.getfield 30, 3) := by decide +kernel
theorem dX13_become_114 : decode cX13_become 114 = .ok (.invokestatic 82, 3) := by decide +kernel
theorem dX13_become_117 : decode cX13_become 117 = .ok (.aload_n 1, 1) := by decide +kernel
theorem dX13_become_118 : decode cX13_become 118 = .ok (.getfield 33, 3) := by decide +kernel
theorem dX13_become_121 : decode cX13_become 121 = .ok (.aload_n 0, 1) := by decide +kernel
theorem dX13_become_122 : decode cX13_become 122 = .ok (.getfield 33, 3) := by decide +kernel
theorem dX13_become_125 : decode cX13_become 125 = .ok (.invokestatic 82, 3) := by decide +kernel
theorem dX13_become_128 : decode cX13_become 128 = .ok (.aload_n 1, 1) := by decide +kernel
theorem dX13_become_129 : decode cX13_become 129 = .ok (.getfield 36, 3) := by decide +kernel
theorem dX13_become_132 : decode cX13_become 132 = .ok (.aload_n 0, 1) := by decide +kernel
theorem dX13_become_133 : decode cX13_become 133 = .ok (.getfield 36, 3) := by decide +kernel
theorem dX13_become_136 : decode cX13_become 136 = .ok (.invokestatic 82, 3) := by decide +kernel
theorem dX13_become_139 : decode cX13_become 139 = .ok (.aload_n 1, 1) := by decide +kernel
theorem dX13_become_140 : decode cX13_become 140 = .ok (.getfield 39, 3) := by decide +kernel
theorem dX13_become_143 : decode cX13_become 143 = .ok (.aload_n 0, 1) := by decide +kernel
theorem dX13_become_144 : decode cX13_become 144 = .ok (.getfield 39, 3) := by decide +kernel
theorem dX13_become_147 : decode cX13_become 147 = .ok (.invokestatic 82, 3) := by decide +kernel
theorem dX13_become_150 : decode cX13_become 150 = .ok (.aload_n 1, 1) := by decide +kernel
theorem dX13_become_151 : decode cX13_become 151 = .ok (.getfield 42, 3) := by decide +kernel
theorem dX13_become_154 : decode cX13_become 154 = .ok (.aload_n 0, 1) := by decide +kernel
theorem dX13_become_155 : decode cX13_become 155 = .ok (.getfield 42, 3) := by decide +kernel
theorem dX13_become_158 : decode cX13_become 158 = .ok (.invokestatic 82, 3) := by decide +kernel
theorem dX13_become_161 : decode cX13_become 161 = .ok (.aload_n 1, 1) := by decide +kernel
theorem dX13_become_162 : decode cX13_become 162 = .ok (.getfield 45, 3) := by decide +kernel
theorem dX13_become_165 : decode cX13_become 165 = .ok (.aload_n 0, 1) := by decide +kernel
theorem dX13_become_166 : decode cX13_become 166 = .ok (.getfield 45, 3) := by decide +kernel
theorem dX13_become_169 : decode cX13_become 169 = .ok (.invokestatic 82, 3) := by decide +kernel
theorem dX13_become_172 : decode cX13_become 172 = .ok (.aload_n 1, 1) := by decide +kernel
theorem dX13_become_173 : decode cX13_become 173 = .ok (.getfield 48, 3) := by decide +kernel
theorem dX13_become_176 : decode cX13_become 176 = .ok (.aload_n 0, 1) := by decide +kernel
theorem dX13_become_177 : decode cX13_become 177 = .ok (.getfield 48, 3) := by decide +kernel
theorem dX13_become_180 : decode cX13_become 180 = .ok (.invokestatic 82, 3) := by decide +kernel
theorem dX13_become_183 : decode cX13_become 183 = .ok (.aload_n 1, 1) := by decide +kernel
theorem dX13_become_184 : decode cX13_become 184 = .ok (.getfield 51, 3) := by decide +kernel
theorem dX13_become_187 : decode cX13_become 187 = .ok (.aload_n 0, 1) := by decide +kernel
theorem dX13_become_188 : decode cX13_become 188 = .ok (.getfield 51, 3) := by decide +kernel
theorem dX13_become_191 : decode cX13_become 191 = .ok (.invokestatic 82, 3) := by decide +kernel
theorem dX13_become_194 : decode cX13_become 194 = .ok (.aload_n 1, 1) := by decide +kernel
theorem dX13_become_195 : decode cX13_become 195 = .ok (.getfield 54, 3) := by decide +kernel
theorem dX13_become_198 : decode cX13_become 198 = .ok (.aload_n 0, 1) := by decide +kernel
theorem dX13_become_199 : decode cX13_become 199 = .ok (.getfield 54, 3) := by decide +kernel
theorem dX13_become_202 : decode cX13_become 202 = .ok (.invokestatic 82, 3) := by decide +kernel
theorem dX13_become_205 : decode cX13_become 205 = .ok (.aload_n 1, 1) := by decide +kernel
theorem dX13_become_206 : decode cX13_become 206 = .ok (.getfield 57, 3) := by decide +kernel
theorem dX13_become_209 : decode cX13_become 209 = .ok (.aload_n 0, 1) := by decide +kernel
theorem dX13_become_210 : decode cX13_become 210 = .ok (.getfield 57, 3) := by decide +kernel
theorem dX13_become_213 : decode cX13_become 213 = .ok (.invokestatic 82, 3) := by decide +kernel
theorem dX13_become_216 : decode cX13_become 216 = .ok (.return_, 1) := by decide +kernel
set_option maxRecDepth 20000 in
theorem ggX14_init_X13_init : GoodIn wsX14_init wsX13_init := goodIn_r _ [21, 22, 2, 3, 4, 23, 24, 25, 26, 27, 28, 29, 30, 31, 32, 33, 34, 35, 36, 37, 38, 70, 71, 72, 73, 74, 75, 76, 77, 78, 79, 80, 81, 82, 83, 84, 85, 86, 87, 88, 89, 90] (by decide +kernel) (by decide +kernel)
set_option maxRecDepth 20000 in
theorem gX14_init_X13_init_n37 : GoodIn wsX14_init (wsX13_init) := ggX14_init_X13_init
set_option maxRecDepth 20000 in
theorem ggX14_init_X14_anew : GoodIn wsX14_init wsX14_anew := goodIn_r _ [43, 18, 44, 45, 42, 46, 47, 48, 49, 50, 51, 52, 53, 54, 55, 56, 57, 58, 59, 60, 61, 62, 63, 64, 65, 66, 67, 68, 69] (by decide +kernel) (by decide +kernel)
set_option maxRecDepth 20000 in
theorem gX14_init_X14_anew : GoodIn wsX14_init (wsV RX14 51 RX14 yX14_anew wsX14_anew) := goodIn_app (goodIn_of _ (by decide +kernel)) ggX14_init_X14_anew
theorem dX14_init_0 : decode cX14_init 0 = .ok (.aload_n 0, 1) := by decide +kernel
theorem dX14_init_1 : decode cX14_init 1 = .ok (.invokespecial 3, 3) := by decide +kernel
theorem dX14_init_4 : decode cX14_init 4 = .ok (.aload_n 0, 1) := by decide +kernel
theorem dX14_init_5 : decode cX14_init 5 = .ok (.sipush 1600, 3) := by decide +kernel
theorem dX14_init_8 : decode cX14_init 8 = .ok (.newarray .int, 2) := by decide +kernel
theorem dX14_init_10 : decode cX14_init 10 = .ok (.putfield 9, 3) := by decide +kernel
theorem dX14_init_13 : decode cX14_init 13 = .ok (.aload_n 0, 1) := by decide +kernel
theorem dX14_init_14 : decode cX14_init 14 = .ok (.iconst (-1), 1) := by decide +kernel
theorem dX14_init_15 : decode cX14_init 15 = .ok (.putfield 13, 3) := by decide +kernel
theorem dX14_init_18 : decode cX14_init 18 = .ok (.aload_n 0, 1) := by decide +kernel
theorem dX14_init_19 : decode cX14_init 19 = .ok (.sipush 402, 3) := by decide +kernel
theorem dX14_init_22 : decode cX14_init 22 = .ok (.newarray .int, 2) := by decide +kernel
theorem dX14_init_24 : decode cX14_init 24 = .ok (.putfield 17, 3) := by decide +kernel
theorem dX14_init_27 : decode cX14_init 27 = .ok (.aload_n 0, 1) := by decide +kernel
theorem dX14_init_28 : decode cX14_init 28 = .ok (.sipush 402, 3) := by decide +kernel
theorem dX14_init_31 : decode cX14_init 31 = .ok (.newarray .int, 2) := by decide +kernel
theorem dX14_init_33 : decode cX14_init 33 = .ok (.putfield 20, 3) := by decide +kernel
theorem dX14_init_36 : decode cX14_init 36 = .ok (.aload_n 0, 1) := by decide +kernel
theorem dX14_init_37 : decode cX14_init 37 = .ok (.sipush 402, 3) := by decide +kernel
theorem dX14_init_40 : decode cX14_init 40 = .ok (.newarray .int, 2) := by decide +kernel
theorem dX14_init_42 : decode cX14_init 42 = .ok (.putfield 23, 3) := by decide +kernel
theorem dX14_init_45 : decode cX14_init 45 = .ok (.aload_n 0, 1) := by decide +kernel
theorem dX14_init_46 : decode cX14_init 46 = .ok (.sipush 402, 3) := by decide +kernel
theorem dX14_init_49 : decode cX14_init 49 = .ok (.newarray .int, 2) := by decide +kernel
theorem dX14_init_51 : decode cX14_init 51 = .ok (.putfield 26, 3) := by decide +kernel
theorem dX14_init_54 : decode cX14_init 54 = .ok (.aload_n 0, 1) := by decide +kernel
theorem dX14_init_55 : decode cX14_init 55 = .ok (.bipush 8, 2) := by decide +kernel
theorem dX14_init_57 : decode cX14_init 57 = .ok (.newarray .int, 2) := by decide +kernel
theorem dX14_init_59 : decode cX14_init 59 = .ok (.putfield 29, 3) := by decide +kernel
theorem dX14_init_62 : decode cX14_init 62 = .ok (.aload_n 0, 1) := by decide +kernel
theorem dX14_init_63 : decode cX14_init 63 = .ok (.bipush 6, 2) := by decide +kernel
theorem dX14_init_65 : decode cX14_init 65 = .ok (.newarray .int, 2) := by decide +kernel
theorem dX14_init_67 : decode cX14_init 67 = .ok (.putfield 32, 3) := by decide +kernel
theorem dX14_init_70 : decode cX14_init 70 = .ok (.aload_n 0, 1) := by decide +kernel
theorem dX14_init_71 : decode cX14_init 71 = .ok (.new 35, 3) := by decide +kernel
theorem dX14_init_74 : decode cX14_init 74 = .ok (.dup, 1) := by decide +kernel
theorem dX14_init_75 : decode cX14_init 75 = .ok (.invokespecial 37, 3) := by decide +kernel
theorem dX14_init_78 : decode cX14_init 78 = .ok (.putfield 38, 3) := by decide +kernel
theorem dX14_init_81 : decode cX14_init 81 = .ok (.aload_n 0, 1) := by decide +kernel
theorem dX14_init_82 : decode cX14_init 82 = .ok (.new 35, 3) := by decide +kernel
theorem dX14_init_85 : decode cX14_init 85 = .ok (.dup, 1) := by decide +kernel
theorem dX14_init_86 : decode cX14_init 86 = .ok (.invokespecial 37, 3) := by decide +kernel
theorem dX14_init_89 : decode cX14_init 89 = .ok (.putfield 42, 3) := by decide +kernel
theorem dX14_init_92 : decode cX14_init 92 = .ok (.aload_n 0, 1) := by decide +kernel
theorem dX14_init_93 : decode cX14_init 93 = .ok (.bipush 84, 2) := by decide +kernel
theorem dX14_init_95 : decode cX14_init 95 = .ok (.newarray .int, 2) := by decide +kernel
theorem dX14_init_97 : decode cX14_init 97 = .ok (.putfield 45, 3) := by decide +kernel
theorem dX14_init_100 : decode cX14_init 100 = .ok (.aload_n 0, 1) := by decide +kernel
theorem dX14_init_101 : decode cX14_init 101 = .ok (.bipush 84, 2) := by decide +kernel
theorem dX14_init_103 : decode cX14_init 103 = .ok (.newarray .int, 2) := by decide +kernel
theorem dX14_init_105 : decode cX14_init 105 = .ok (.putfield 48, 3) := by decide +kernel
theorem dX14_init_108 : decode cX14_init 108 = .ok (.aload_n 0, 1) := by decide +kernel
theorem dX14_init_109 : decode cX14_init 109 = .ok (.invokevirtual 51, 3) := by decide +kernel
theorem dX14_init_112 : decode cX14_init 112 = .ok (.return_, 1) := by decide +kernel
theorem dX14_thrown_0 : decode cX14_thrown 0 = .ok (.aload_n 0, 1) := by decide +kernel
theorem dX14_thrown_1 : decode cX14_thrown 1 = .ok (.getfield 54, 3) := by decide +kernel
theorem dX14_thrown_4 : decode cX14_thrown 4 = .ok (.ireturn, 1) := by decide +kernel
theorem dX14_no_0 : decode cX14_no 0 = .ok (.aload_n 0, 1) := by decide +kernel
theorem dX14_no_1 : decode cX14_no 1 = .ok (.iload_n 1, 1) := by decide +kernel
theorem dX14_no_2 : decode cX14_no 2 = .ok (.putfield 54, 3) := by decide +kernel
theorem dX14_no_5 : decode cX14_no 5 = .ok (.iconst 0, 1) := by decide +kernel
theorem dX14_no_6 : decode cX14_no 6 = .ok (.ireturn, 1) := by decide +kernel
theorem dX14_ok_0 : decode cX14_ok 0 = .ok (.aload_n 0, 1) := by decide +kernel
theorem dX14_ok_1 : decode cX14_ok 1 = .ok (.iconst 0, 1) := by decide +kernel
theorem dX14_ok_2 : decode cX14_ok 2 = .ok (.putfield 54, 3) := by decide +kernel
theorem dX14_ok_5 : decode cX14_ok 5 = .ok (.iload_n 1, 1) := by decide +kernel
theorem dX14_ok_6 : decode cX14_ok 6 = .ok (.ireturn, 1) := by decide +kernel
theorem dX14_isIn_0 : decode cX14_isIn 0 = .ok (.iload_n 0, 1) := by decide +kernel
theorem dX14_isIn_1 : decode cX14_isIn 1 = .ok (.iload_n 1, 1) := by decide +kernel
theorem dX14_isIn_2 : decode cX14_isIn 2 = .ok (.if_icmp .lt 12, 3) := by decide +kernel
theorem dX14_isIn_5 : decode cX14_isIn 5 = .ok (.iload_n 0, 1) := by decide +kernel
theorem dX14_isIn_6 : decode cX14_isIn 6 = .ok (.iload_n 2, 1) := by decide +kernel
theorem dX14_isIn_7 : decode cX14_isIn 7 = .ok (.if_icmp .gt 7, 3) := by decide +kernel
theorem dX14_isIn_10 : decode cX14_isIn 10 = .ok (.iconst 1, 1) := by decide +kernel
theorem dX14_isIn_11 : decode cX14_isIn 11 = .ok (.goto 4, 3) := by decide +kernel
theorem dX14_isIn_14 : decode cX14_isIn 14 = .ok (.iconst 0, 1) := by decide +kernel
theorem dX14_isIn_15 : decode cX14_isIn 15 = .ok (.ireturn, 1) := by decide +kernel
theorem dX14_held_0 : decode cX14_held 0 = .ok (.iload_n 1, 1) := by decide +kernel
theorem dX14_held_1 : decode cX14_held 1 = .ok (.iload_n 2, 1) := by decide +kernel
theorem dX14_held_2 : decode cX14_held 2 = .ok (.iload_n 0, 1) := by decide +kernel
theorem dX14_held_3 : decode cX14_held 3 = .ok (.invokestatic 57, 3) := by decide +kernel
theorem dX14_held_6 : decode cX14_held 6 = .ok (.invokestatic 63, 3) := by decide +kernel
theorem dX14_held_9 : decode cX14_held 9 = .ok (.ireturn, 1) := by decide +kernel
set_option maxRecDepth 20000 in
theorem ggX14_anew_X14_of : GoodIn wsX14_anew wsX14_of := goodIn_r _ [5] (by decide +kernel) (by decide +kernel)
set_option maxRecDepth 20000 in
theorem gX14_anew_X14_of : GoodIn wsX14_anew (va_wsS RX14 66 yX14_of wsX14_of) := goodIn_app (goodIn_of _ (by decide +kernel)) ggX14_anew_X14_of
theorem dX14_anew_0 : decode cX14_anew 0 = .ok (.iconst 0, 1) := by decide +kernel
theorem dX14_anew_1 : decode cX14_anew 1 = .ok (.istore_n 1, 1) := by decide +kernel
theorem dX14_anew_2 : decode cX14_anew 2 = .ok (.iload_n 1, 1) := by decide +kernel
theorem dX14_anew_3 : decode cX14_anew 3 = .ok (.bipush 84, 2) := by decide +kernel
theorem dX14_anew_5 : decode cX14_anew 5 = .ok (.if_icmp .ge 16, 3) := by decide +kernel
theorem dX14_anew_8 : decode cX14_anew 8 = .ok (.aload_n 0, 1) := by decide +kernel
theorem dX14_anew_9 : decode cX14_anew 9 = .ok (.getfield 45, 3) := by decide +kernel
theorem dX14_anew_12 : decode cX14_anew 12 = .ok (.iload_n 1, 1) := by decide +kernel
theorem dX14_anew_13 : decode cX14_anew 13 = .ok (.iconst 0, 1) := by decide +kernel
theorem dX14_anew_14 : decode cX14_anew 14 = .ok (.iastore, 1) := by decide +kernel
theorem dX14_anew_15 : decode cX14_anew 15 = .ok (.iinc 1 1, 3) := by decide +kernel
theorem dX14_anew_18 : decode cX14_anew 18 = .ok (.goto (-16), 3) := by decide +kernel
theorem dX14_anew_21 : decode cX14_anew 21 = .ok (.aload_n 0, 1) := by decide +kernel
theorem dX14_anew_22 : decode cX14_anew 22 = .ok (.getfield 45, 3) := by decide +kernel
theorem dX14_anew_25 : decode cX14_anew 25 = .ok (.iconst 1, 1) := by decide +kernel
theorem dX14_anew_26 : decode cX14_anew 26 = .ok (.iconst 4, 1) := by decide +kernel
theorem dX14_anew_27 : decode cX14_anew 27 = .ok (.iastore, 1) := by decide +kernel
theorem dX14_anew_28 : decode cX14_anew 28 = .ok (.aload_n 0, 1) := by decide +kernel
theorem dX14_anew_29 : decode cX14_anew 29 = .ok (.getfield 45, 3) := by decide +kernel
theorem dX14_anew_32 : decode cX14_anew 32 = .ok (.iconst 2, 1) := by decide +kernel
theorem dX14_anew_33 : decode cX14_anew 33 = .ok (.iconst 1, 1) := by decide +kernel
theorem dX14_anew_34 : decode cX14_anew 34 = .ok (.iastore, 1) := by decide +kernel
theorem dX14_anew_35 : decode cX14_anew 35 = .ok (.iconst 0, 1) := by decide +kernel
theorem dX14_anew_36 : decode cX14_anew 36 = .ok (.istore_n 1, 1) := by decide +kernel
theorem dX14_anew_37 : decode cX14_anew 37 = .ok (.iload_n 1, 1) := by decide +kernel
theorem dX14_anew_38 : decode cX14_anew 38 = .ok (.bipush 8, 2) := by decide +kernel
theorem dX14_anew_40 : decode cX14_anew 40 = .ok (.if_icmp .ge 21, 3) := by decide +kernel
theorem dX14_anew_43 : decode cX14_anew 43 = .ok (.aload_n 0, 1) := by decide +kernel
theorem dX14_anew_44 : decode cX14_anew 44 = .ok (.getfield 45, 3) := by decide +kernel
theorem dX14_anew_47 : decode cX14_anew 47 = .ok (.iload_n 1, 1) := by decide +kernel
theorem dX14_anew_48 : decode cX14_anew 48 = .ok (.iconst 2, 1) := by decide +kernel
theorem dX14_anew_49 : decode cX14_anew 49 = .ok (.invokestatic 66, 3) := by decide +kernel
theorem dX14_anew_52 : decode cX14_anew 52 = .ok (.bipush 20, 2) := by decide +kernel
theorem dX14_anew_54 : decode cX14_anew 54 = .ok (.iastore, 1) := by decide +kernel
theorem dX14_anew_55 : decode cX14_anew 55 = .ok (.iinc 1 1, 3) := by decide +kernel
theorem dX14_anew_58 : decode cX14_anew 58 = .ok (.goto (-21), 3) := by decide +kernel
theorem dX14_anew_61 : decode cX14_anew 61 = .ok (.return_, 1) := by decide +kernel
set_option maxRecDepth 20000 in
theorem ggX14_isLetter_X14_isIn : GoodIn wsX14_isLetter wsX14_isIn := goodIn_r _ [4] (by decide +kernel) (by decide +kernel)
set_option maxRecDepth 20000 in
theorem gX14_isLetter_X14_isIn : GoodIn wsX14_isLetter (va_wsS RX14 69 yX14_isIn wsX14_isIn) := goodIn_app (goodIn_of _ (by decide +kernel)) ggX14_isLetter_X14_isIn
theorem dX14_isLetter_0 : decode cX14_isLetter 0 = .ok (.iload_n 0, 1) := by decide +kernel
theorem dX14_isLetter_1 : decode cX14_isLetter 1 = .ok (.bipush 97, 2) := by decide +kernel
theorem dX14_isLetter_3 : decode cX14_isLetter 3 = .ok (.bipush 122, 2) := by decide +kernel
theorem dX14_isLetter_5 : decode cX14_isLetter 5 = .ok (.invokestatic 69, 3) := by decide +kernel
theorem dX14_isLetter_8 : decode cX14_isLetter 8 = .ok (.ireturn, 1) := by decide +kernel
set_option maxRecDepth 20000 in
theorem ggX14_isDigit_X14_isIn : GoodIn wsX14_isDigit wsX14_isIn := goodIn_r _ [4] (by decide +kernel) (by decide +kernel)
set_option maxRecDepth 20000 in
theorem gX14_isDigit_X14_isIn : GoodIn wsX14_isDigit (va_wsS RX14 69 yX14_isIn wsX14_isIn) := goodIn_app (goodIn_of _ (by decide +kernel)) ggX14_isDigit_X14_isIn
theorem dX14_isDigit_0 : decode cX14_isDigit 0 = .ok (.iload_n 0, 1) := by decide +kernel
theorem dX14_isDigit_1 : decode cX14_isDigit 1 = .ok (.bipush 48, 2) := by decide +kernel
theorem dX14_isDigit_3 : decode cX14_isDigit 3 = .ok (.bipush 57, 2) := by decide +kernel
theorem dX14_isDigit_5 : decode cX14_isDigit 5 = .ok (.invokestatic 69, 3) := by decide +kernel
theorem dX14_isDigit_8 : decode cX14_isDigit 8 = .ok (.ireturn, 1) := by decide +kernel
theorem dX14_byteAt_0 : decode cX14_byteAt 0 = .ok (.iload_n 1, 1) := by decide +kernel
theorem dX14_byteAt_1 : decode cX14_byteAt 1 = .ok (.aload_n 0, 1) := by decide +kernel
theorem dX14_byteAt_2 : decode cX14_byteAt 2 = .ok (.getfield 73, 3) := by decide +kernel
theorem dX14_byteAt_5 : decode cX14_byteAt 5 = .ok (.if_icmp .ge 12, 3) := by decide +kernel
theorem dX14_byteAt_8 : decode cX14_byteAt 8 = .ok (.aload_n 0, 1) := by decide +kernel
theorem dX14_byteAt_9 : decode cX14_byteAt 9 = .ok (.getfield 9, 3) := by decide +kernel
theorem dX14_byteAt_12 : decode cX14_byteAt 12 = .ok (.iload_n 1, 1) := by decide +kernel
theorem dX14_byteAt_13 : decode cX14_byteAt 13 = .ok (.iaload, 1) := by decide +kernel
theorem dX14_byteAt_14 : decode cX14_byteAt 14 = .ok (.goto 4, 3) := by decide +kernel
theorem dX14_byteAt_17 : decode cX14_byteAt 17 = .ok (.iconst (-1), 1) := by decide +kernel
theorem dX14_byteAt_18 : decode cX14_byteAt 18 = .ok (.ireturn, 1) := by decide +kernel
set_option maxRecDepth 20000 in
theorem ggX14_isWord_J0_length_8abf5 : GoodIn wsX14_isWord wsJ0_length_8abf5 := goodIn_r _ [6, 7, 8, 9, 10, 5, 11, 12, 13] (by decide +kernel) (by decide +kernel)
set_option maxRecDepth 20000 in
theorem gX14_isWord_J0_length_8abf5 : GoodIn wsX14_isWord (wsV RX14 76 RJ0 yJ0_length_8abf5 wsJ0_length_8abf5) := goodIn_app (goodIn_of _ (by decide +kernel)) ggX14_isWord_J0_length_8abf5
set_option maxRecDepth 20000 in
theorem ggX14_isWord_J0_charAt_5068e : GoodIn wsX14_isWord wsJ0_charAt_5068e := goodIn_r _ [17, 7, 18, 19, 20, 5, 21, 12, 13, 22, 23, 24, 25, 26, 27, 28, 29, 30, 31, 32, 33, 34, 35, 36, 37, 38, 39, 40, 41, 42, 43, 44, 45, 46, 47, 48, 49, 50] (by decide +kernel) (by decide +kernel)
set_option maxRecDepth 20000 in
theorem gX14_isWord_J0_charAt_5068e : GoodIn wsX14_isWord (wsV RX14 81 RJ0 yJ0_charAt_5068e wsJ0_charAt_5068e) := goodIn_app (goodIn_of _ (by decide +kernel)) ggX14_isWord_J0_charAt_5068e
theorem dX14_isWord_0 : decode cX14_isWord 0 = .ok (.aload_n 3, 1) := by decide +kernel
theorem dX14_isWord_1 : decode cX14_isWord 1 = .ok (.invokevirtual 76, 3) := by decide +kernel
theorem dX14_isWord_4 : decode cX14_isWord 4 = .ok (.iload_n 2, 1) := by decide +kernel
theorem dX14_isWord_5 : decode cX14_isWord 5 = .ok (.if_icmp .eq 5, 3) := by decide +kernel
theorem dX14_isWord_8 : decode cX14_isWord 8 = .ok (.iconst 0, 1) := by decide +kernel
theorem dX14_isWord_9 : decode cX14_isWord 9 = .ok (.ireturn, 1) := by decide +kernel
theorem dX14_isWord_10 : decode cX14_isWord 10 = .ok (.iconst 0, 1) := by decide +kernel
theorem dX14_isWord_11 : decode cX14_isWord 11 = .ok (.istore 4, 2) := by decide +kernel
theorem dX14_isWord_13 : decode cX14_isWord 13 = .ok (.iload 4, 2) := by decide +kernel
theorem dX14_isWord_15 : decode cX14_isWord 15 = .ok (.iload_n 2, 1) := by decide +kernel
theorem dX14_isWord_16 : decode cX14_isWord 16 = .ok (.if_icmp .ge 29, 3) := by decide +kernel
theorem dX14_isWord_19 : decode cX14_isWord 19 = .ok (.aload_n 3, 1) := by decide +kernel
theorem dX14_isWord_20 : decode cX14_isWord 20 = .ok (.iload 4, 2) := by decide +kernel
theorem dX14_isWord_22 : decode cX14_isWord 22 = .ok (.invokevirtual 81, 3) := by decide +kernel
theorem dX14_isWord_25 : decode cX14_isWord 25 = .ok (.aload_n 0, 1) := by decide +kernel
theorem dX14_isWord_26 : decode cX14_isWord 26 = .ok (.getfield 9, 3) := by decide +kernel
theorem dX14_isWord_29 : decode cX14_isWord 29 = .ok (.iload_n 1, 1) := by decide +kernel
theorem dX14_isWord_30 : decode cX14_isWord 30 = .ok (.iload 4, 2) := by decide +kernel
theorem dX14_isWord_32 : decode cX14_isWord 32 = .ok (.iadd, 1) := by decide +kernel
theorem dX14_isWord_33 : decode cX14_isWord 33 = .ok (.iaload, 1) := by decide +kernel
theorem dX14_isWord_34 : decode cX14_isWord 34 = .ok (.if_icmp .eq 5, 3) := by decide +kernel
theorem dX14_isWord_37 : decode cX14_isWord 37 = .ok (.iconst 0, 1) := by decide +kernel
theorem dX14_isWord_38 : decode cX14_isWord 38 = .ok (.ireturn, 1) := by decide +kernel
theorem dX14_isWord_39 : decode cX14_isWord 39 = .ok (.iinc 4 1, 3) := by decide +kernel
theorem dX14_isWord_42 : decode cX14_isWord 42 = .ok (.goto (-29), 3) := by decide +kernel
theorem dX14_isWord_45 : decode cX14_isWord 45 = .ok (.iconst 1, 1) := by decide +kernel
theorem dX14_isWord_46 : decode cX14_isWord 46 = .ok (.ireturn, 1) := by decide +kernel
set_option maxRecDepth 20000 in
theorem ggX14_keyword_X14_isWord : GoodIn wsX14_keyword wsX14_isWord := goodIn_r _ [6, 7, 8, 9, 10, 11, 12, 13, 14, 15, 16, 17, 18, 19, 20, 21, 22, 23, 24, 25, 26, 27, 28, 29, 30, 31, 32, 33, 34, 35, 36, 37, 38, 39, 40, 41, 42, 43, 44, 45, 46, 47, 48, 49, 50, 51, 52, 53, 54, 55, 56, 57, 58, 59, 60, 61, 62, 63, 64, 65, 66, 67, 68, 69, 70, 71, 72, 73, 74, 75, 76, 77, 78, 79] (by decide +kernel) (by decide +kernel)
set_option maxRecDepth 20000 in
theorem gX14_keyword_X14_isWord : GoodIn wsX14_keyword (wsV RX14 89 RX14 yX14_isWord wsX14_isWord) := goodIn_app (goodIn_of _ (by decide +kernel)) ggX14_keyword_X14_isWord
theorem dX14_keyword_0 : decode cX14_keyword 0 = .ok (.iconst 0, 1) := by decide +kernel
theorem dX14_keyword_1 : decode cX14_keyword 1 = .ok (.istore_n 3, 1) := by decide +kernel
theorem dX14_keyword_2 : decode cX14_keyword 2 = .ok (.iload_n 3, 1) := by decide +kernel
theorem dX14_keyword_3 : decode cX14_keyword 3 = .ok (.getstatic 85, 3) := by decide +kernel
theorem dX14_keyword_6 : decode cX14_keyword 6 = .ok (.arraylength, 1) := by decide +kernel
theorem dX14_keyword_7 : decode cX14_keyword 7 = .ok (.if_icmp .ge 25, 3) := by decide +kernel
theorem dX14_keyword_10 : decode cX14_keyword 10 = .ok (.aload_n 0, 1) := by decide +kernel
theorem dX14_keyword_11 : decode cX14_keyword 11 = .ok (.iload_n 1, 1) := by decide +kernel
theorem dX14_keyword_12 : decode cX14_keyword 12 = .ok (.iload_n 2, 1) := by decide +kernel
theorem dX14_keyword_13 : decode cX14_keyword 13 = .ok (.getstatic 85, 3) := by decide +kernel
theorem dX14_keyword_16 : decode cX14_keyword 16 = .ok (.iload_n 3, 1) := by decide +kernel
theorem dX14_keyword_17 : decode cX14_keyword 17 = .ok (.aaload, 1) := by decide +kernel
theorem dX14_keyword_18 : decode cX14_keyword 18 = .ok (.invokevirtual 89, 3) := by decide +kernel
theorem dX14_keyword_21 : decode cX14_keyword 21 = .ok (.ifCond .eq 5, 3) := by decide +kernel
theorem dX14_keyword_24 : decode cX14_keyword 24 = .ok (.iload_n 3, 1) := by decide +kernel
theorem dX14_keyword_25 : decode cX14_keyword 25 = .ok (.ireturn, 1) := by decide +kernel
theorem dX14_keyword_26 : decode cX14_keyword 26 = .ok (.iinc 3 1, 3) := by decide +kernel
theorem dX14_keyword_29 : decode cX14_keyword 29 = .ok (.goto (-27), 3) := by decide +kernel
theorem dX14_keyword_32 : decode cX14_keyword 32 = .ok (.iload_n 2, 1) := by decide +kernel
theorem dX14_keyword_33 : decode cX14_keyword 33 = .ok (.bipush 8, 2) := by decide +kernel
theorem dX14_keyword_35 : decode cX14_keyword 35 = .ok (.if_icmp .le 8, 3) := by decide +kernel
theorem dX14_keyword_38 : decode cX14_keyword 38 = .ok (.bipush 70, 2) := by decide +kernel
theorem dX14_keyword_40 : decode cX14_keyword 40 = .ok (.goto 5, 3) := by decide +kernel
theorem dX14_keyword_43 : decode cX14_keyword 43 = .ok (.bipush 40, 2) := by decide +kernel
theorem dX14_keyword_45 : decode cX14_keyword 45 = .ok (.ireturn, 1) := by decide +kernel
theorem dX14_symbol_0 : decode cX14_symbol 0 = .ok (.iload_n 0, 1) := by decide +kernel
theorem dX14_symbol_1 : decode cX14_symbol 1 = .ok (.tableswitch 137 40 62 #[107, 110, 131, 125, 137, 128, 137, 134, 137, 137, 137, 137, 137, 137, 137, 137, 137, 137, 137, 113, 116, 122, 119], 107) := by decide +kernel
theorem dX14_symbol_108 : decode cX14_symbol 108 = .ok (.bipush 50, 2) := by decide +kernel
theorem dX14_symbol_110 : decode cX14_symbol 110 = .ok (.ireturn, 1) := by decide +kernel
theorem dX14_symbol_111 : decode cX14_symbol 111 = .ok (.bipush 51, 2) := by decide +kernel
theorem dX14_symbol_113 : decode cX14_symbol 113 = .ok (.ireturn, 1) := by decide +kernel
theorem dX14_symbol_114 : decode cX14_symbol 114 = .ok (.bipush 52, 2) := by decide +kernel
theorem dX14_symbol_116 : decode cX14_symbol 116 = .ok (.ireturn, 1) := by decide +kernel
theorem dX14_symbol_117 : decode cX14_symbol 117 = .ok (.bipush 53, 2) := by decide +kernel
theorem dX14_symbol_119 : decode cX14_symbol 119 = .ok (.ireturn, 1) := by decide +kernel
theorem dX14_symbol_120 : decode cX14_symbol 120 = .ok (.bipush 54, 2) := by decide +kernel
theorem dX14_symbol_122 : decode cX14_symbol 122 = .ok (.ireturn, 1) := by decide +kernel
theorem dX14_symbol_123 : decode cX14_symbol 123 = .ok (.bipush 55, 2) := by decide +kernel
theorem dX14_symbol_125 : decode cX14_symbol 125 = .ok (.ireturn, 1) := by decide +kernel
theorem dX14_symbol_126 : decode cX14_symbol 126 = .ok (.bipush 56, 2) := by decide +kernel
theorem dX14_symbol_128 : decode cX14_symbol 128 = .ok (.ireturn, 1) := by decide +kernel
theorem dX14_symbol_129 : decode cX14_symbol 129 = .ok (.bipush 57, 2) := by decide +kernel
theorem dX14_symbol_131 : decode cX14_symbol 131 = .ok (.ireturn, 1) := by decide +kernel
theorem dX14_symbol_132 : decode cX14_symbol 132 = .ok (.bipush 58, 2) := by decide +kernel
theorem dX14_symbol_134 : decode cX14_symbol 134 = .ok (.ireturn, 1) := by decide +kernel
theorem dX14_symbol_135 : decode cX14_symbol 135 = .ok (.bipush 59, 2) := by decide +kernel
theorem dX14_symbol_137 : decode cX14_symbol 137 = .ok (.ireturn, 1) := by decide +kernel
theorem dX14_symbol_138 : decode cX14_symbol 138 = .ok (.bipush 70, 2) := by decide +kernel
theorem dX14_symbol_140 : decode cX14_symbol 140 = .ok (.ireturn, 1) := by decide +kernel
set_option maxRecDepth 20000 in
theorem ggX14_read_X14_isLetter : GoodIn wsX14_read wsX14_isLetter := goodIn_r _ [9, 10, 11, 8, 12] (by decide +kernel) (by decide +kernel)
set_option maxRecDepth 20000 in
theorem gX14_read_X14_isLetter : GoodIn wsX14_read (va_wsS RX14 93 yX14_isLetter wsX14_isLetter) := goodIn_app (goodIn_of _ (by decide +kernel)) ggX14_read_X14_isLetter
set_option maxRecDepth 20000 in
theorem ggX14_read_X14_byteAt : GoodIn wsX14_read wsX14_byteAt := goodIn_r _ [16, 17, 1, 82, 83, 84, 85, 86, 87, 88, 89, 90, 91, 92, 93, 94, 95, 96, 97, 98, 99, 100, 101, 102, 103, 104] (by decide +kernel) (by decide +kernel)
set_option maxRecDepth 20000 in
theorem gX14_read_X14_byteAt : GoodIn wsX14_read (wsV RX14 97 RX14 yX14_byteAt wsX14_byteAt) := goodIn_app (goodIn_of _ (by decide +kernel)) ggX14_read_X14_byteAt
set_option maxRecDepth 20000 in
theorem ggX14_read_X14_keyword : GoodIn wsX14_read wsX14_keyword := goodIn_r _ [21, 22, 23, 24, 25, 8, 26, 1, 27, 28, 29, 30, 31, 32, 33, 34, 35, 36, 37, 38, 39, 40, 41, 42, 43, 44, 45, 46, 47, 48, 49, 50, 51, 52, 53, 54, 55, 56, 57, 58, 59, 60, 61, 62, 63, 64, 65, 66, 67, 68, 69, 70, 71, 72, 73, 74, 75, 82, 83, 84, 85, 86, 87, 88, 89, 90, 91, 92, 93, 94, 95, 96, 97, 98, 99, 100, 101, 102, 103, 104] (by decide +kernel) (by decide +kernel)
set_option maxRecDepth 20000 in
theorem gX14_read_X14_keyword : GoodIn wsX14_read (wsV RX14 101 RX14 yX14_keyword wsX14_keyword) := goodIn_app (goodIn_of _ (by decide +kernel)) ggX14_read_X14_keyword
set_option maxRecDepth 20000 in
theorem ggX14_read_X14_isDigit : GoodIn wsX14_read wsX14_isDigit := goodIn_r _ [78, 10, 11, 8, 12] (by decide +kernel) (by decide +kernel)
set_option maxRecDepth 20000 in
theorem gX14_read_X14_isDigit : GoodIn wsX14_read (va_wsS RX14 104 yX14_isDigit wsX14_isDigit) := goodIn_app (goodIn_of _ (by decide +kernel)) ggX14_read_X14_isDigit
set_option maxRecDepth 20000 in
theorem ggX14_read_X14_symbol : GoodIn wsX14_read wsX14_symbol := goodIn_r _ [81] (by decide +kernel) (by decide +kernel)
set_option maxRecDepth 20000 in
theorem gX14_read_X14_symbol : GoodIn wsX14_read (va_wsS RX14 107 yX14_symbol wsX14_symbol) := goodIn_app (goodIn_of _ (by decide +kernel)) ggX14_read_X14_symbol
theorem dX14_read_0 : decode cX14_read 0 = .ok (.aload_n 0, 1) := by decide +kernel
theorem dX14_read_1 : decode cX14_read 1 = .ok (.getfield 9, 3) := by decide +kernel
theorem dX14_read_4 : decode cX14_read 4 = .ok (.iload_n 1, 1) := by decide +kernel
theorem dX14_read_5 : decode cX14_read 5 = .ok (.iaload, 1) := by decide +kernel
theorem dX14_read_6 : decode cX14_read 6 = .ok (.istore_n 3, 1) := by decide +kernel
theorem dX14_read_7 : decode cX14_read 7 = .ok (.iload_n 1, 1) := by decide +kernel
theorem dX14_read_8 : decode cX14_read 8 = .ok (.iconst 1, 1) := by decide +kernel
theorem dX14_read_9 : decode cX14_read 9 = .ok (.iadd, 1) := by decide +kernel
theorem dX14_read_10 : decode cX14_read 10 = .ok (.istore 4, 2) := by decide +kernel
theorem dX14_read_12 : decode cX14_read 12 = .ok (.aload_n 0, 1) := by decide +kernel
theorem dX14_read_13 : decode cX14_read 13 = .ok (.getfield 23, 3) := by decide +kernel
theorem dX14_read_16 : decode cX14_read 16 = .ok (.iload_n 2, 1) := by decide +kernel
theorem dX14_read_17 : decode cX14_read 17 = .ok (.iload_n 1, 1) := by decide +kernel
theorem dX14_read_18 : decode cX14_read 18 = .ok (.iastore, 1) := by decide +kernel
theorem dX14_read_19 : decode cX14_read 19 = .ok (.iload_n 3, 1) := by decide +kernel
theorem dX14_read_20 : decode cX14_read 20 = .ok (.invokestatic 93, 3) := by decide +kernel
theorem dX14_read_23 : decode cX14_read 23 = .ok (.ifCond .eq 39, 3) := by decide +kernel
theorem dX14_read_26 : decode cX14_read 26 = .ok (.aload_n 0, 1) := by decide +kernel
theorem dX14_read_27 : decode cX14_read 27 = .ok (.iload 4, 2) := by decide +kernel
theorem dX14_read_29 : decode cX14_read 29 = .ok (.invokevirtual 97, 3) := by decide +kernel
theorem dX14_read_32 : decode cX14_read 32 = .ok (.invokestatic 93, 3) := by decide +kernel
theorem dX14_read_35 : decode cX14_read 35 = .ok (.ifCond .eq 9, 3) := by decide +kernel
theorem dX14_read_38 : decode cX14_read 38 = .ok (.iinc 4 1, 3) := by decide +kernel
theorem dX14_read_41 : decode cX14_read 41 = .ok (.goto (-15), 3) := by decide +kernel
theorem dX14_read_44 : decode cX14_read 44 = .ok (.aload_n 0, 1) := by decide +kernel
theorem dX14_read_45 : decode cX14_read 45 = .ok (.getfield 17, 3) := by decide +kernel
theorem dX14_read_48 : decode cX14_read 48 = .ok (.iload_n 2, 1) := by decide +kernel
theorem dX14_read_49 : decode cX14_read 49 = .ok (.aload_n 0, 1) := by decide +kernel
theorem dX14_read_50 : decode cX14_read 50 = .ok (.iload_n 1, 1) := by decide +kernel
theorem dX14_read_51 : decode cX14_read 51 = .ok (.iload 4, 2) := by decide +kernel
theorem dX14_read_53 : decode cX14_read 53 = .ok (.iload_n 1, 1) := by decide +kernel
theorem dX14_read_54 : decode cX14_read 54 = .ok (.isub, 1) := by decide +kernel
theorem dX14_read_55 : decode cX14_read 55 = .ok (.invokevirtual 101, 3) := by decide +kernel
theorem dX14_read_58 : decode cX14_read 58 = .ok (.iastore, 1) := by decide +kernel
theorem dX14_read_59 : decode cX14_read 59 = .ok (.goto 106, 3) := by decide +kernel
theorem dX14_read_62 : decode cX14_read 62 = .ok (.iload_n 3, 1) := by decide +kernel
theorem dX14_read_63 : decode cX14_read 63 = .ok (.invokestatic 104, 3) := by decide +kernel
theorem dX14_read_66 : decode cX14_read 66 = .ok (.ifCond .eq 89, 3) := by decide +kernel
theorem dX14_read_69 : decode cX14_read 69 = .ok (.iload_n 3, 1) := by decide +kernel
theorem dX14_read_70 : decode cX14_read 70 = .ok (.bipush 48, 2) := by decide +kernel
theorem dX14_read_72 : decode cX14_read 72 = .ok (.isub, 1) := by decide +kernel
theorem dX14_read_73 : decode cX14_read 73 = .ok (.istore 5, 2) := by decide +kernel
theorem dX14_read_75 : decode cX14_read 75 = .ok (.aload_n 0, 1) := by decide +kernel
theorem dX14_read_76 : decode cX14_read 76 = .ok (.iload 4, 2) := by decide +kernel
theorem dX14_read_78 : decode cX14_read 78 = .ok (.invokevirtual 97, 3) := by decide +kernel
theorem dX14_read_81 : decode cX14_read 81 = .ok (.invokestatic 104, 3) := by decide +kernel
theorem dX14_read_84 : decode cX14_read 84 = .ok (.ifCond .eq 39, 3) := by decide +kernel
theorem dX14_read_87 : decode cX14_read 87 = .ok (.iload 4, 2) := by decide +kernel
theorem dX14_read_89 : decode cX14_read 89 = .ok (.iload_n 1, 1) := by decide +kernel
theorem dX14_read_90 : decode cX14_read 90 = .ok (.isub, 1) := by decide +kernel
theorem dX14_read_91 : decode cX14_read 91 = .ok (.iconst 4, 1) := by decide +kernel
theorem dX14_read_92 : decode cX14_read 92 = .ok (.if_icmp .ge 21, 3) := by decide +kernel
theorem dX14_read_95 : decode cX14_read 95 = .ok (.bipush 10, 2) := by decide +kernel
theorem dX14_read_97 : decode cX14_read 97 = .ok (.iload 5, 2) := by decide +kernel
theorem dX14_read_99 : decode cX14_read 99 = .ok (.imul, 1) := by decide +kernel
theorem dX14_read_100 : decode cX14_read 100 = .ok (.aload_n 0, 1) := by decide +kernel
theorem dX14_read_101 : decode cX14_read 101 = .ok (.iload 4, 2) := by decide +kernel
theorem dX14_read_103 : decode cX14_read 103 = .ok (.invokevirtual 97, 3) := by decide +kernel
theorem dX14_read_106 : decode cX14_read 106 = .ok (.iadd, 1) := by decide +kernel
theorem dX14_read_107 : decode cX14_read 107 = .ok (.bipush 48, 2) := by decide +kernel
theorem dX14_read_109 : decode cX14_read 109 = .ok (.isub, 1) := by decide +kernel
theorem dX14_read_110 : decode cX14_read 110 = .ok (.goto 5, 3) := by decide +kernel
theorem dX14_read_113 : decode cX14_read 113 = .ok (.iload 5, 2) := by decide +kernel
theorem dX14_read_115 : decode cX14_read 115 = .ok (.istore 5, 2) := by decide +kernel
theorem dX14_read_117 : decode cX14_read 117 = .ok (.iinc 4 1, 3) := by decide +kernel
theorem dX14_read_120 : decode cX14_read 120 = .ok (.goto (-45), 3) := by decide +kernel
theorem dX14_read_123 : decode cX14_read 123 = .ok (.aload_n 0, 1) := by decide +kernel
theorem dX14_read_124 : decode cX14_read 124 = .ok (.getfield 20, 3) := by decide +kernel
theorem dX14_read_127 : decode cX14_read 127 = .ok (.iload_n 2, 1) := by decide +kernel
theorem dX14_read_128 : decode cX14_read 128 = .ok (.iload 5, 2) := by decide +kernel
theorem dX14_read_130 : decode cX14_read 130 = .ok (.iastore, 1) := by decide +kernel
theorem dX14_read_131 : decode cX14_read 131 = .ok (.aload_n 0, 1) := by decide +kernel
theorem dX14_read_132 : decode cX14_read 132 = .ok (.getfield 17, 3) := by decide +kernel
theorem dX14_read_135 : decode cX14_read 135 = .ok (.iload_n 2, 1) := by decide +kernel
theorem dX14_read_136 : decode cX14_read 136 = .ok (.iload 4, 2) := by decide +kernel
theorem dX14_read_138 : decode cX14_read 138 = .ok (.iload_n 1, 1) := by decide +kernel
theorem dX14_read_139 : decode cX14_read 139 = .ok (.isub, 1) := by decide +kernel
theorem dX14_read_140 : decode cX14_read 140 = .ok (.iconst 3, 1) := by decide +kernel
theorem dX14_read_141 : decode cX14_read 141 = .ok (.if_icmp .le 8, 3) := by decide +kernel
theorem dX14_read_144 : decode cX14_read 144 = .ok (.bipush 70, 2) := by decide +kernel
theorem dX14_read_146 : decode cX14_read 146 = .ok (.goto 5, 3) := by decide +kernel
theorem dX14_read_149 : decode cX14_read 149 = .ok (.bipush 41, 2) := by decide +kernel
theorem dX14_read_151 : decode cX14_read 151 = .ok (.iastore, 1) := by decide +kernel
theorem dX14_read_152 : decode cX14_read 152 = .ok (.goto 13, 3) := by decide +kernel
theorem dX14_read_155 : decode cX14_read 155 = .ok (.aload_n 0, 1) := by decide +kernel
theorem dX14_read_156 : decode cX14_read 156 = .ok (.getfield 17, 3) := by decide +kernel
theorem dX14_read_159 : decode cX14_read 159 = .ok (.iload_n 2, 1) := by decide +kernel
theorem dX14_read_160 : decode cX14_read 160 = .ok (.iload_n 3, 1) := by decide +kernel
theorem dX14_read_161 : decode cX14_read 161 = .ok (.invokestatic 107, 3) := by decide +kernel
theorem dX14_read_164 : decode cX14_read 164 = .ok (.iastore, 1) := by decide +kernel
theorem dX14_read_165 : decode cX14_read 165 = .ok (.aload_n 0, 1) := by decide +kernel
theorem dX14_read_166 : decode cX14_read 166 = .ok (.getfield 26, 3) := by decide +kernel
theorem dX14_read_169 : decode cX14_read 169 = .ok (.iload_n 2, 1) := by decide +kernel
theorem dX14_read_170 : decode cX14_read 170 = .ok (.iload 4, 2) := by decide +kernel
theorem dX14_read_172 : decode cX14_read 172 = .ok (.iload_n 1, 1) := by decide +kernel
theorem dX14_read_173 : decode cX14_read 173 = .ok (.isub, 1) := by decide +kernel
theorem dX14_read_174 : decode cX14_read 174 = .ok (.iastore, 1) := by decide +kernel
theorem dX14_read_175 : decode cX14_read 175 = .ok (.iload 4, 2) := by decide +kernel
theorem dX14_read_177 : decode cX14_read 177 = .ok (.ireturn, 1) := by decide +kernel
set_option maxRecDepth 20000 in
theorem ggX14_skip_X14_byteAt : GoodIn wsX14_skip wsX14_byteAt := goodIn_r _ [5, 6, 7, 8, 9, 10, 11, 12, 13, 14, 15, 16, 17, 18, 19, 20, 21, 22, 23, 24, 25, 26, 27, 28, 29, 30] (by decide +kernel) (by decide +kernel)
set_option maxRecDepth 20000 in
theorem gX14_skip_X14_byteAt : GoodIn wsX14_skip (wsV RX14 97 RX14 yX14_byteAt wsX14_byteAt) := goodIn_app (goodIn_of _ (by decide +kernel)) ggX14_skip_X14_byteAt
theorem dX14_skip_0 : decode cX14_skip 0 = .ok (.iload_n 1, 1) := by decide +kernel
theorem dX14_skip_1 : decode cX14_skip 1 = .ok (.istore_n 2, 1) := by decide +kernel
theorem dX14_skip_2 : decode cX14_skip 2 = .ok (.aload_n 0, 1) := by decide +kernel
theorem dX14_skip_3 : decode cX14_skip 3 = .ok (.iload_n 2, 1) := by decide +kernel
theorem dX14_skip_4 : decode cX14_skip 4 = .ok (.invokevirtual 97, 3) := by decide +kernel
theorem dX14_skip_7 : decode cX14_skip 7 = .ok (.bipush 32, 2) := by decide +kernel
theorem dX14_skip_9 : decode cX14_skip 9 = .ok (.if_icmp .eq 13, 3) := by decide +kernel
theorem dX14_skip_12 : decode cX14_skip 12 = .ok (.aload_n 0, 1) := by decide +kernel
theorem dX14_skip_13 : decode cX14_skip 13 = .ok (.iload_n 2, 1) := by decide +kernel
theorem dX14_skip_14 : decode cX14_skip 14 = .ok (.invokevirtual 97, 3) := by decide +kernel
theorem dX14_skip_17 : decode cX14_skip 17 = .ok (.bipush 10, 2) := by decide +kernel
theorem dX14_skip_19 : decode cX14_skip 19 = .ok (.if_icmp .ne 9, 3) := by decide +kernel
theorem dX14_skip_22 : decode cX14_skip 22 = .ok (.iinc 2 1, 3) := by decide +kernel
theorem dX14_skip_25 : decode cX14_skip 25 = .ok (.goto (-23), 3) := by decide +kernel
theorem dX14_skip_28 : decode cX14_skip 28 = .ok (.iload_n 2, 1) := by decide +kernel
theorem dX14_skip_29 : decode cX14_skip 29 = .ok (.ireturn, 1) := by decide +kernel
set_option maxRecDepth 20000 in
theorem ggX14_readAll_X14_skip : GoodIn wsX14_readAll wsX14_skip := goodIn_r _ [8, 9, 10, 11, 7, 12, 1, 13, 90, 91, 92, 93, 94, 95, 96, 97, 98, 99, 100, 101, 102, 103, 104, 105, 106, 107, 108, 109, 110, 111, 112] (by decide +kernel) (by decide +kernel)
set_option maxRecDepth 20000 in
theorem gX14_readAll_X14_skip : GoodIn wsX14_readAll (wsV RX14 110 RX14 yX14_skip wsX14_skip) := goodIn_app (goodIn_of _ (by decide +kernel)) ggX14_readAll_X14_skip
set_option maxRecDepth 20000 in
theorem ggX14_readAll_X14_read : GoodIn wsX14_readAll wsX14_read := goodIn_r _ [17, 13, 3, 2, 18, 19, 20, 21, 7, 22, 23, 24, 25, 9, 10, 11, 12, 1, 26, 27, 28, 29, 30, 31, 32, 33, 34, 35, 36, 37, 38, 39, 40, 41, 42, 43, 44, 45, 46, 47, 48, 49, 50, 51, 52, 53, 54, 55, 56, 57, 58, 59, 60, 61, 62, 63, 64, 65, 66, 67, 68, 69, 70, 71, 72, 73, 74, 75, 76, 77, 78, 79, 80, 81, 82, 83, 84, 85, 86, 87, 88, 89, 90, 91, 92, 93, 94, 95, 96, 97, 98, 99, 100, 101, 102, 103, 104, 105, 106, 107, 108, 109, 110, 111, 112] (by decide +kernel) (by decide +kernel)
set_option maxRecDepth 20000 in
theorem gX14_readAll_X14_read : GoodIn wsX14_readAll (wsV RX14 113 RX14 yX14_read wsX14_read) := goodIn_app (goodIn_of _ (by decide +kernel)) ggX14_readAll_X14_read
theorem dX14_readAll_0 : decode cX14_readAll 0 = .ok (.aload_n 0, 1) := by decide +kernel
theorem dX14_readAll_1 : decode cX14_readAll 1 = .ok (.iconst 0, 1) := by decide +kernel
theorem dX14_readAll_2 : decode cX14_readAll 2 = .ok (.invokevirtual 110, 3) := by decide +kernel
theorem dX14_readAll_5 : decode cX14_readAll 5 = .ok (.istore_n 1, 1) := by decide +kernel
theorem dX14_readAll_6 : decode cX14_readAll 6 = .ok (.iconst 0, 1) := by decide +kernel
theorem dX14_readAll_7 : decode cX14_readAll 7 = .ok (.istore_n 2, 1) := by decide +kernel
theorem dX14_readAll_8 : decode cX14_readAll 8 = .ok (.iload_n 1, 1) := by decide +kernel
theorem dX14_readAll_9 : decode cX14_readAll 9 = .ok (.aload_n 0, 1) := by decide +kernel
theorem dX14_readAll_10 : decode cX14_readAll 10 = .ok (.getfield 73, 3) := by decide +kernel
theorem dX14_readAll_13 : decode cX14_readAll 13 = .ok (.if_icmp .ge 52, 3) := by decide +kernel
theorem dX14_readAll_16 : decode cX14_readAll 16 = .ok (.iload_n 2, 1) := by decide +kernel
theorem dX14_readAll_17 : decode cX14_readAll 17 = .ok (.ifCond .eq 16, 3) := by decide +kernel
theorem dX14_readAll_20 : decode cX14_readAll 20 = .ok (.aload_n 0, 1) := by decide +kernel
theorem dX14_readAll_21 : decode cX14_readAll 21 = .ok (.getfield 17, 3) := by decide +kernel
theorem dX14_readAll_24 : decode cX14_readAll 24 = .ok (.iload_n 2, 1) := by decide +kernel
theorem dX14_readAll_25 : decode cX14_readAll 25 = .ok (.iconst 1, 1) := by decide +kernel
theorem dX14_readAll_26 : decode cX14_readAll 26 = .ok (.isub, 1) := by decide +kernel
theorem dX14_readAll_27 : decode cX14_readAll 27 = .ok (.iaload, 1) := by decide +kernel
theorem dX14_readAll_28 : decode cX14_readAll 28 = .ok (.bipush 70, 2) := by decide +kernel
theorem dX14_readAll_30 : decode cX14_readAll 30 = .ok (.if_icmp .eq 35, 3) := by decide +kernel
theorem dX14_readAll_33 : decode cX14_readAll 33 = .ok (.aload_n 0, 1) := by decide +kernel
theorem dX14_readAll_34 : decode cX14_readAll 34 = .ok (.aload_n 0, 1) := by decide +kernel
theorem dX14_readAll_35 : decode cX14_readAll 35 = .ok (.iload_n 1, 1) := by decide +kernel
theorem dX14_readAll_36 : decode cX14_readAll 36 = .ok (.iload_n 2, 1) := by decide +kernel
theorem dX14_readAll_37 : decode cX14_readAll 37 = .ok (.invokevirtual 113, 3) := by decide +kernel
theorem dX14_readAll_40 : decode cX14_readAll 40 = .ok (.invokevirtual 110, 3) := by decide +kernel
theorem dX14_readAll_43 : decode cX14_readAll 43 = .ok (.istore_n 1, 1) := by decide +kernel
theorem dX14_readAll_44 : decode cX14_readAll 44 = .ok (.iload_n 2, 1) := by decide +kernel
theorem dX14_readAll_45 : decode cX14_readAll 45 = .ok (.sipush 400, 3) := by decide +kernel
theorem dX14_readAll_48 : decode cX14_readAll 48 = .ok (.if_icmp .ne 11, 3) := by decide +kernel
theorem dX14_readAll_51 : decode cX14_readAll 51 = .ok (.aload_n 0, 1) := by decide +kernel
theorem dX14_readAll_52 : decode cX14_readAll 52 = .ok (.getfield 17, 3) := by decide +kernel
theorem dX14_readAll_55 : decode cX14_readAll 55 = .ok (.iload_n 2, 1) := by decide +kernel
theorem dX14_readAll_56 : decode cX14_readAll 56 = .ok (.bipush 70, 2) := by decide +kernel
theorem dX14_readAll_58 : decode cX14_readAll 58 = .ok (.iastore, 1) := by decide +kernel
theorem dX14_readAll_59 : decode cX14_readAll 59 = .ok (.iinc 2 1, 3) := by decide +kernel
theorem dX14_readAll_62 : decode cX14_readAll 62 = .ok (.goto (-54), 3) := by decide +kernel
theorem dX14_readAll_65 : decode cX14_readAll 65 = .ok (.aload_n 0, 1) := by decide +kernel
theorem dX14_readAll_66 : decode cX14_readAll 66 = .ok (.getfield 17, 3) := by decide +kernel
theorem dX14_readAll_69 : decode cX14_readAll 69 = .ok (.iload_n 2, 1) := by decide +kernel
theorem dX14_readAll_70 : decode cX14_readAll 70 = .ok (.bipush 71, 2) := by decide +kernel
theorem dX14_readAll_72 : decode cX14_readAll 72 = .ok (.iastore, 1) := by decide +kernel
theorem dX14_readAll_73 : decode cX14_readAll 73 = .ok (.aload_n 0, 1) := by decide +kernel
theorem dX14_readAll_74 : decode cX14_readAll 74 = .ok (.getfield 23, 3) := by decide +kernel
theorem dX14_readAll_77 : decode cX14_readAll 77 = .ok (.iload_n 2, 1) := by decide +kernel
theorem dX14_readAll_78 : decode cX14_readAll 78 = .ok (.aload_n 0, 1) := by decide +kernel
theorem dX14_readAll_79 : decode cX14_readAll 79 = .ok (.getfield 73, 3) := by decide +kernel
theorem dX14_readAll_82 : decode cX14_readAll 82 = .ok (.iastore, 1) := by decide +kernel
theorem dX14_readAll_83 : decode cX14_readAll 83 = .ok (.return_, 1) := by decide +kernel
theorem dX14_is_0 : decode cX14_is 0 = .ok (.aload_n 0, 1) := by decide +kernel
theorem dX14_is_1 : decode cX14_is 1 = .ok (.getfield 116, 3) := by decide +kernel
theorem dX14_is_4 : decode cX14_is 4 = .ok (.ifCond .ne 20, 3) := by decide +kernel
theorem dX14_is_7 : decode cX14_is 7 = .ok (.aload_n 0, 1) := by decide +kernel
theorem dX14_is_8 : decode cX14_is 8 = .ok (.getfield 17, 3) := by decide +kernel
theorem dX14_is_11 : decode cX14_is 11 = .ok (.aload_n 0, 1) := by decide +kernel
theorem dX14_is_12 : decode cX14_is 12 = .ok (.getfield 120, 3) := by decide +kernel
theorem dX14_is_15 : decode cX14_is 15 = .ok (.iaload, 1) := by decide +kernel
theorem dX14_is_16 : decode cX14_is 16 = .ok (.iload_n 1, 1) := by decide +kernel
theorem dX14_is_17 : decode cX14_is 17 = .ok (.if_icmp .ne 7, 3) := by decide +kernel
theorem dX14_is_20 : decode cX14_is 20 = .ok (.iconst 1, 1) := by decide +kernel
theorem dX14_is_21 : decode cX14_is 21 = .ok (.goto 4, 3) := by decide +kernel
theorem dX14_is_24 : decode cX14_is 24 = .ok (.iconst 0, 1) := by decide +kernel
theorem dX14_is_25 : decode cX14_is 25 = .ok (.ireturn, 1) := by decide +kernel
theorem dX14_wrong_0 : decode cX14_wrong 0 = .ok (.aload_n 0, 1) := by decide +kernel
theorem dX14_wrong_1 : decode cX14_wrong 1 = .ok (.getfield 116, 3) := by decide +kernel
theorem dX14_wrong_4 : decode cX14_wrong 4 = .ok (.ifCond .eq 4, 3) := by decide +kernel
theorem dX14_wrong_7 : decode cX14_wrong 7 = .ok (.return_, 1) := by decide +kernel
theorem dX14_wrong_8 : decode cX14_wrong 8 = .ok (.aload_n 0, 1) := by decide +kernel
theorem dX14_wrong_9 : decode cX14_wrong 9 = .ok (.iconst 1, 1) := by decide +kernel
theorem dX14_wrong_10 : decode cX14_wrong 10 = .ok (.putfield 116, 3) := by decide +kernel
theorem dX14_wrong_13 : decode cX14_wrong 13 = .ok (.aload_n 0, 1) := by decide +kernel
theorem dX14_wrong_14 : decode cX14_wrong 14 = .ok (.iconst 1, 1) := by decide +kernel
theorem dX14_wrong_15 : decode cX14_wrong 15 = .ok (.putfield 123, 3) := by decide +kernel
theorem dX14_wrong_18 : decode cX14_wrong 18 = .ok (.aload_n 0, 1) := by decide +kernel
theorem dX14_wrong_19 : decode cX14_wrong 19 = .ok (.aload_n 0, 1) := by decide +kernel
theorem dX14_wrong_20 : decode cX14_wrong 20 = .ok (.getfield 120, 3) := by decide +kernel
theorem dX14_wrong_23 : decode cX14_wrong 23 = .ok (.putfield 126, 3) := by decide +kernel
theorem dX14_wrong_26 : decode cX14_wrong 26 = .ok (.return_, 1) := by decide +kernel
set_option maxRecDepth 20000 in
theorem ggX14_take_X14_is : GoodIn wsX14_take wsX14_is := goodIn_r _ [6, 7, 8, 1, 15, 16, 17, 18, 19, 20, 21, 22, 23, 24, 25, 26, 27, 28, 29, 30, 31, 32, 33, 34, 35, 36, 37] (by decide +kernel) (by decide +kernel)
set_option maxRecDepth 20000 in
theorem gX14_take_X14_is : GoodIn wsX14_take (wsV RX14 129 RX14 yX14_is wsX14_is) := goodIn_app (goodIn_of _ (by decide +kernel)) ggX14_take_X14_is
set_option maxRecDepth 20000 in
theorem ggX14_take_X14_wrong : GoodIn wsX14_take wsX14_wrong := goodIn_r _ [12, 7, 13, 1, 14, 15, 16, 17, 18, 19, 20, 21, 22, 23, 24, 25, 26, 27, 28, 29, 30, 31, 32, 33, 34, 35, 36, 37] (by decide +kernel) (by decide +kernel)
set_option maxRecDepth 20000 in
theorem gX14_take_X14_wrong : GoodIn wsX14_take (wsV RX14 132 RX14 yX14_wrong wsX14_wrong) := goodIn_app (goodIn_of _ (by decide +kernel)) ggX14_take_X14_wrong
theorem dX14_take_0 : decode cX14_take 0 = .ok (.aload_n 0, 1) := by decide +kernel
theorem dX14_take_1 : decode cX14_take 1 = .ok (.iload_n 1, 1) := by decide +kernel
theorem dX14_take_2 : decode cX14_take 2 = .ok (.invokevirtual 129, 3) := by decide +kernel
theorem dX14_take_5 : decode cX14_take 5 = .ok (.ifCond .eq 16, 3) := by decide +kernel
theorem dX14_take_8 : decode cX14_take 8 = .ok (.aload_n 0, 1) := by decide +kernel
theorem dX14_take_9 : decode cX14_take 9 = .ok (.dup, 1) := by decide +kernel
theorem dX14_take_10 : decode cX14_take 10 = .ok (.getfield 120, 3) := by decide +kernel
theorem dX14_take_13 : decode cX14_take 13 = .ok (.iconst 1, 1) := by decide +kernel
theorem dX14_take_14 : decode cX14_take 14 = .ok (.iadd, 1) := by decide +kernel
theorem dX14_take_15 : decode cX14_take 15 = .ok (.putfield 120, 3) := by decide +kernel
theorem dX14_take_18 : decode cX14_take 18 = .ok (.goto 7, 3) := by decide +kernel
theorem dX14_take_21 : decode cX14_take 21 = .ok (.aload_n 0, 1) := by decide +kernel
theorem dX14_take_22 : decode cX14_take 22 = .ok (.invokevirtual 132, 3) := by decide +kernel
theorem dX14_take_25 : decode cX14_take 25 = .ok (.return_, 1) := by decide +kernel
set_option maxRecDepth 20000 in
theorem ggX14_takes_X14_is : GoodIn wsX14_takes wsX14_is := goodIn_r _ [6, 7, 8, 1, 9, 10, 11, 12, 13, 14, 15, 16, 17, 18, 19, 20, 21, 22, 23, 24, 25, 26, 27, 28, 29, 30, 31] (by decide +kernel) (by decide +kernel)
set_option maxRecDepth 20000 in
theorem gX14_takes_X14_is : GoodIn wsX14_takes (wsV RX14 129 RX14 yX14_is wsX14_is) := goodIn_app (goodIn_of _ (by decide +kernel)) ggX14_takes_X14_is
theorem dX14_takes_0 : decode cX14_takes 0 = .ok (.aload_n 0, 1) := by decide +kernel
theorem dX14_takes_1 : decode cX14_takes 1 = .ok (.iload_n 1, 1) := by decide +kernel
theorem dX14_takes_2 : decode cX14_takes 2 = .ok (.invokevirtual 129, 3) := by decide +kernel
theorem dX14_takes_5 : decode cX14_takes 5 = .ok (.ifCond .ne 5, 3) := by decide +kernel
theorem dX14_takes_8 : decode cX14_takes 8 = .ok (.iconst 0, 1) := by decide +kernel
theorem dX14_takes_9 : decode cX14_takes 9 = .ok (.ireturn, 1) := by decide +kernel
theorem dX14_takes_10 : decode cX14_takes 10 = .ok (.aload_n 0, 1) := by decide +kernel
theorem dX14_takes_11 : decode cX14_takes 11 = .ok (.dup, 1) := by decide +kernel
theorem dX14_takes_12 : decode cX14_takes 12 = .ok (.getfield 120, 3) := by decide +kernel
theorem dX14_takes_15 : decode cX14_takes 15 = .ok (.iconst 1, 1) := by decide +kernel
theorem dX14_takes_16 : decode cX14_takes 16 = .ok (.iadd, 1) := by decide +kernel
theorem dX14_takes_17 : decode cX14_takes 17 = .ok (.putfield 120, 3) := by decide +kernel
theorem dX14_takes_20 : decode cX14_takes 20 = .ok (.iconst 1, 1) := by decide +kernel
theorem dX14_takes_21 : decode cX14_takes 21 = .ok (.ireturn, 1) := by decide +kernel
theorem dX14_mark_0 : decode cX14_mark 0 = .ok (.aload_n 0, 1) := by decide +kernel
theorem dX14_mark_1 : decode cX14_mark 1 = .ok (.getfield 116, 3) := by decide +kernel
theorem dX14_mark_4 : decode cX14_mark 4 = .ok (.ifCond .ne 10, 3) := by decide +kernel
theorem dX14_mark_7 : decode cX14_mark 7 = .ok (.aload_n 0, 1) := by decide +kernel
theorem dX14_mark_8 : decode cX14_mark 8 = .ok (.getfield 123, 3) := by decide +kernel
theorem dX14_mark_11 : decode cX14_mark 11 = .ok (.ifCond .eq 4, 3) := by decide +kernel
theorem dX14_mark_14 : decode cX14_mark 14 = .ok (.return_, 1) := by decide +kernel
theorem dX14_mark_15 : decode cX14_mark 15 = .ok (.aload_n 0, 1) := by decide +kernel
theorem dX14_mark_16 : decode cX14_mark 16 = .ok (.iload_n 1, 1) := by decide +kernel
theorem dX14_mark_17 : decode cX14_mark 17 = .ok (.putfield 123, 3) := by decide +kernel
theorem dX14_mark_20 : decode cX14_mark 20 = .ok (.aload_n 0, 1) := by decide +kernel
theorem dX14_mark_21 : decode cX14_mark 21 = .ok (.aload_n 0, 1) := by decide +kernel
theorem dX14_mark_22 : decode cX14_mark 22 = .ok (.getfield 120, 3) := by decide +kernel
theorem dX14_mark_25 : decode cX14_mark 25 = .ok (.putfield 126, 3) := by decide +kernel
theorem dX14_mark_28 : decode cX14_mark 28 = .ok (.return_, 1) := by decide +kernel
theorem dX14_isSameName_0 : decode cX14_isSameName 0 = .ok (.aload_n 0, 1) := by decide +kernel
theorem dX14_isSameName_1 : decode cX14_isSameName 1 = .ok (.getfield 26, 3) := by decide +kernel
theorem dX14_isSameName_4 : decode cX14_isSameName 4 = .ok (.iload_n 1, 1) := by decide +kernel
theorem dX14_isSameName_5 : decode cX14_isSameName 5 = .ok (.iaload, 1) := by decide +kernel
theorem dX14_isSameName_6 : decode cX14_isSameName 6 = .ok (.aload_n 0, 1) := by decide +kernel
theorem dX14_isSameName_7 : decode cX14_isSameName 7 = .ok (.getfield 26, 3) := by decide +kernel
theorem dX14_isSameName_10 : decode cX14_isSameName 10 = .ok (.iload_n 2, 1) := by decide +kernel
theorem dX14_isSameName_11 : decode cX14_isSameName 11 = .ok (.iaload, 1) := by decide +kernel
theorem dX14_isSameName_12 : decode cX14_isSameName 12 = .ok (.if_icmp .eq 5, 3) := by decide +kernel
theorem dX14_isSameName_15 : decode cX14_isSameName 15 = .ok (.iconst 0, 1) := by decide +kernel
theorem dX14_isSameName_16 : decode cX14_isSameName 16 = .ok (.ireturn, 1) := by decide +kernel
theorem dX14_isSameName_17 : decode cX14_isSameName 17 = .ok (.iconst 0, 1) := by decide +kernel
theorem dX14_isSameName_18 : decode cX14_isSameName 18 = .ok (.istore_n 3, 1) := by decide +kernel
theorem dX14_isSameName_19 : decode cX14_isSameName 19 = .ok (.iload_n 3, 1) := by decide +kernel
theorem dX14_isSameName_20 : decode cX14_isSameName 20 = .ok (.aload_n 0, 1) := by decide +kernel
theorem dX14_isSameName_21 : decode cX14_isSameName 21 = .ok (.getfield 26, 3) := by decide +kernel
theorem dX14_isSameName_24 : decode cX14_isSameName 24 = .ok (.iload_n 1, 1) := by decide +kernel
theorem dX14_isSameName_25 : decode cX14_isSameName 25 = .ok (.iaload, 1) := by decide +kernel
theorem dX14_isSameName_26 : decode cX14_isSameName 26 = .ok (.if_icmp .ge 40, 3) := by decide +kernel
theorem dX14_isSameName_29 : decode cX14_isSameName 29 = .ok (.aload_n 0, 1) := by decide +kernel
theorem dX14_isSameName_30 : decode cX14_isSameName 30 = .ok (.getfield 9, 3) := by decide +kernel
theorem dX14_isSameName_33 : decode cX14_isSameName 33 = .ok (.aload_n 0, 1) := by decide +kernel
theorem dX14_isSameName_34 : decode cX14_isSameName 34 = .ok (.getfield 23, 3) := by decide +kernel
theorem dX14_isSameName_37 : decode cX14_isSameName 37 = .ok (.iload_n 1, 1) := by decide +kernel
theorem dX14_isSameName_38 : decode cX14_isSameName 38 = .ok (.iaload, 1) := by decide +kernel
theorem dX14_isSameName_39 : decode cX14_isSameName 39 = .ok (.iload_n 3, 1) := by decide +kernel
theorem dX14_isSameName_40 : decode cX14_isSameName 40 = .ok (.iadd, 1) := by decide +kernel
theorem dX14_isSameName_41 : decode cX14_isSameName 41 = .ok (.iaload, 1) := by decide +kernel
theorem dX14_isSameName_42 : decode cX14_isSameName 42 = .ok (.aload_n 0, 1) := by decide +kernel
theorem dX14_isSameName_43 : decode cX14_isSameName 43 = .ok (.getfield 9, 3) := by decide +kernel
theorem dX14_isSameName_46 : decode cX14_isSameName 46 = .ok (.aload_n 0, 1) := by decide +kernel
theorem dX14_isSameName_47 : decode cX14_isSameName 47 = .ok (.getfield 23, 3) := by decide +kernel
theorem dX14_isSameName_50 : decode cX14_isSameName 50 = .ok (.iload_n 2, 1) := by decide +kernel
theorem dX14_isSameName_51 : decode cX14_isSameName 51 = .ok (.iaload, 1) := by decide +kernel
theorem dX14_isSameName_52 : decode cX14_isSameName 52 = .ok (.iload_n 3, 1) := by decide +kernel
theorem dX14_isSameName_53 : decode cX14_isSameName 53 = .ok (.iadd, 1) := by decide +kernel
theorem dX14_isSameName_54 : decode cX14_isSameName 54 = .ok (.iaload, 1) := by decide +kernel
theorem dX14_isSameName_55 : decode cX14_isSameName 55 = .ok (.if_icmp .eq 5, 3) := by decide +kernel
theorem dX14_isSameName_58 : decode cX14_isSameName 58 = .ok (.iconst 0, 1) := by decide +kernel
theorem dX14_isSameName_59 : decode cX14_isSameName 59 = .ok (.ireturn, 1) := by decide +kernel
theorem dX14_isSameName_60 : decode cX14_isSameName 60 = .ok (.iinc 3 1, 3) := by decide +kernel
theorem dX14_isSameName_63 : decode cX14_isSameName 63 = .ok (.goto (-44), 3) := by decide +kernel
theorem dX14_isSameName_66 : decode cX14_isSameName 66 = .ok (.iconst 1, 1) := by decide +kernel
theorem dX14_isSameName_67 : decode cX14_isSameName 67 = .ok (.ireturn, 1) := by decide +kernel
set_option maxRecDepth 20000 in
theorem ggX14_known_X14_isSameName : GoodIn wsX14_known wsX14_isSameName := goodIn_r _ [6, 7, 8, 9, 10, 11, 12, 13, 14, 15, 16, 17, 18, 19, 20, 21, 22, 23, 24, 25, 26, 27, 28, 29, 30, 31, 32] (by decide +kernel) (by decide +kernel)
set_option maxRecDepth 20000 in
theorem gX14_known_X14_isSameName : GoodIn wsX14_known (wsV RX14 135 RX14 yX14_isSameName wsX14_isSameName) := goodIn_app (goodIn_of _ (by decide +kernel)) ggX14_known_X14_isSameName
theorem dX14_known_0 : decode cX14_known 0 = .ok (.iconst 0, 1) := by decide +kernel
theorem dX14_known_1 : decode cX14_known 1 = .ok (.istore_n 3, 1) := by decide +kernel
theorem dX14_known_2 : decode cX14_known 2 = .ok (.iload_n 3, 1) := by decide +kernel
theorem dX14_known_3 : decode cX14_known 3 = .ok (.iload_n 2, 1) := by decide +kernel
theorem dX14_known_4 : decode cX14_known 4 = .ok (.if_icmp .ge 25, 3) := by decide +kernel
theorem dX14_known_7 : decode cX14_known 7 = .ok (.aload_n 0, 1) := by decide +kernel
theorem dX14_known_8 : decode cX14_known 8 = .ok (.aload_n 1, 1) := by decide +kernel
theorem dX14_known_9 : decode cX14_known 9 = .ok (.iload_n 3, 1) := by decide +kernel
theorem dX14_known_10 : decode cX14_known 10 = .ok (.iaload, 1) := by decide +kernel
theorem dX14_known_11 : decode cX14_known 11 = .ok (.aload_n 0, 1) := by decide +kernel
theorem dX14_known_12 : decode cX14_known 12 = .ok (.getfield 120, 3) := by decide +kernel
theorem dX14_known_15 : decode cX14_known 15 = .ok (.invokevirtual 135, 3) := by decide +kernel
theorem dX14_known_18 : decode cX14_known 18 = .ok (.ifCond .eq 5, 3) := by decide +kernel
theorem dX14_known_21 : decode cX14_known 21 = .ok (.iload_n 3, 1) := by decide +kernel
theorem dX14_known_22 : decode cX14_known 22 = .ok (.ireturn, 1) := by decide +kernel
theorem dX14_known_23 : decode cX14_known 23 = .ok (.iinc 3 1, 3) := by decide +kernel
theorem dX14_known_26 : decode cX14_known 26 = .ok (.goto (-24), 3) := by decide +kernel
theorem dX14_known_29 : decode cX14_known 29 = .ok (.iconst (-1), 1) := by decide +kernel
theorem dX14_known_30 : decode cX14_known 30 = .ok (.ireturn, 1) := by decide +kernel
set_option maxRecDepth 20000 in
theorem ggX14_name_X14_is : GoodIn wsX14_name wsX14_is := goodIn_r _ [9, 10, 11, 12, 38, 39, 40, 41, 42, 43, 44, 45, 46, 47, 48, 49, 50, 51, 52, 53, 54, 55, 56, 57, 58, 59, 60] (by decide +kernel) (by decide +kernel)
set_option maxRecDepth 20000 in
theorem gX14_name_X14_is : GoodIn wsX14_name (wsV RX14 129 RX14 yX14_is wsX14_is) := goodIn_app (goodIn_of _ (by decide +kernel)) ggX14_name_X14_is
set_option maxRecDepth 20000 in
theorem ggX14_name_X14_known : GoodIn wsX14_name wsX14_known := goodIn_r _ [16, 12, 17, 18, 19, 8, 20, 21, 22, 23, 38, 39, 40, 41, 42, 43, 44, 45, 46, 47, 48, 49, 50, 51, 52, 53, 54, 55, 56, 57, 58, 59, 60] (by decide +kernel) (by decide +kernel)
set_option maxRecDepth 20000 in
theorem gX14_name_X14_known : GoodIn wsX14_name (wsV RX14 139 RX14 yX14_known wsX14_known) := goodIn_app (goodIn_of _ (by decide +kernel)) ggX14_name_X14_known
set_option maxRecDepth 20000 in
theorem ggX14_name_X14_mark : GoodIn wsX14_name wsX14_mark := goodIn_r _ [27, 10, 28, 12, 29, 38, 39, 40, 41, 42, 43, 44, 45, 46, 47, 48, 49, 50, 51, 52, 53, 54, 55, 56, 57, 58, 59, 60] (by decide +kernel) (by decide +kernel)
set_option maxRecDepth 20000 in
theorem gX14_name_X14_mark : GoodIn wsX14_name (wsV RX14 143 RX14 yX14_mark wsX14_mark) := goodIn_app (goodIn_of _ (by decide +kernel)) ggX14_name_X14_mark
set_option maxRecDepth 20000 in
theorem ggX14_name_X14_take : GoodIn wsX14_name wsX14_take := goodIn_r _ [33, 12, 5, 6, 7, 8, 9, 10, 11, 34, 35, 36, 37, 28, 29, 38, 39, 40, 41, 42, 43, 44, 45, 46, 47, 48, 49, 50, 51, 52, 53, 54, 55, 56, 57, 58, 59, 60] (by decide +kernel) (by decide +kernel)
set_option maxRecDepth 20000 in
theorem gX14_name_X14_take : GoodIn wsX14_name (wsV RX14 147 RX14 yX14_take wsX14_take) := goodIn_app (goodIn_of _ (by decide +kernel)) ggX14_name_X14_take
theorem dX14_name_0 : decode cX14_name 0 = .ok (.aload_n 0, 1) := by decide +kernel
theorem dX14_name_1 : decode cX14_name 1 = .ok (.bipush 40, 2) := by decide +kernel
theorem dX14_name_3 : decode cX14_name 3 = .ok (.invokevirtual 129, 3) := by decide +kernel
theorem dX14_name_6 : decode cX14_name 6 = .ok (.ifCond .eq 12, 3) := by decide +kernel
theorem dX14_name_9 : decode cX14_name 9 = .ok (.aload_n 0, 1) := by decide +kernel
theorem dX14_name_10 : decode cX14_name 10 = .ok (.aload_n 1, 1) := by decide +kernel
theorem dX14_name_11 : decode cX14_name 11 = .ok (.iload_n 2, 1) := by decide +kernel
theorem dX14_name_12 : decode cX14_name 12 = .ok (.invokevirtual 139, 3) := by decide +kernel
