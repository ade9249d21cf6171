theorem dX1_init_0 : decode cX1_init 0 = .ok (.aload_n 0, 1) := by decide +kernel
theorem dX1_init_1 : decode cX1_init 1 = .ok (.invokespecial 1, 3) := by decide +kernel
theorem dX1_init_4 : decode cX1_init 4 = .ok (.aload_n 0, 1) := by decide +kernel
theorem dX1_init_5 : decode cX1_init 5 = .ok (.iconst (-1), 1) := by decide +kernel
theorem dX1_init_6 : decode cX1_init 6 = .ok (.putfield 7, 3) := by decide +kernel
theorem dX1_init_9 : decode cX1_init 9 = .ok (.aload_n 0, 1) := by decide +kernel
theorem dX1_init_10 : decode cX1_init 10 = .ok (.iconst (-1), 1) := by decide +kernel
theorem dX1_init_11 : decode cX1_init 11 = .ok (.putfield 13, 3) := by decide +kernel
theorem dX1_init_14 : decode cX1_init 14 = .ok (.aload_n 0, 1) := by decide +kernel
theorem dX1_init_15 : decode cX1_init 15 = .ok (.aload_n 1, 1) := by decide +kernel
theorem dX1_init_16 : decode cX1_init 16 = .ok (.putfield 16, 3) := by decide +kernel
theorem dX1_init_19 : decode cX1_init 19 = .ok (.return_, 1) := by decide +kernel
theorem dX2_init_0 : decode cX2_init 0 = .ok (.aload_n 0, 1) := by decide +kernel
theorem dX2_init_1 : decode cX2_init 1 = .ok (.invokespecial 1, 3) := by decide +kernel
theorem dX2_init_4 : decode cX2_init 4 = .ok (.aload_n 0, 1) := by decide +kernel
theorem dX2_init_5 : decode cX2_init 5 = .ok (.bipush 8, 2) := by decide +kernel
theorem dX2_init_7 : decode cX2_init 7 = .ok (.newarray .long, 2) := by decide +kernel
theorem dX2_init_9 : decode cX2_init 9 = .ok (.putfield 9, 3) := by decide +kernel
theorem dX2_init_12 : decode cX2_init 12 = .ok (.aload_n 0, 1) := by decide +kernel
theorem dX2_init_13 : decode cX2_init 13 = .ok (.bipush 8, 2) := by decide +kernel
theorem dX2_init_15 : decode cX2_init 15 = .ok (.newarray .int, 2) := by decide +kernel
theorem dX2_init_17 : decode cX2_init 17 = .ok (.putfield 13, 3) := by decide +kernel
theorem dX2_init_20 : decode cX2_init 20 = .ok (.aload_n 0, 1) := by decide +kernel
theorem dX2_init_21 : decode cX2_init 21 = .ok (.bipush 6, 2) := by decide +kernel
theorem dX2_init_23 : decode cX2_init 23 = .ok (.newarray .long, 2) := by decide +kernel
theorem dX2_init_25 : decode cX2_init 25 = .ok (.putfield 17, 3) := by decide +kernel
theorem dX2_init_28 : decode cX2_init 28 = .ok (.aload_n 0, 1) := by decide +kernel
theorem dX2_init_29 : decode cX2_init 29 = .ok (.bipush 6, 2) := by decide +kernel
theorem dX2_init_31 : decode cX2_init 31 = .ok (.anewarray 20, 3) := by decide +kernel
theorem dX2_init_34 : decode cX2_init 34 = .ok (.putfield 22, 3) := by decide +kernel
theorem dX2_init_37 : decode cX2_init 37 = .ok (.return_, 1) := by decide +kernel
theorem dX2_addPan_0 : decode cX2_addPan 0 = .ok (.aload_n 0, 1) := by decide +kernel
theorem dX2_addPan_1 : decode cX2_addPan 1 = .ok (.getfield 26, 3) := by decide +kernel
theorem dX2_addPan_4 : decode cX2_addPan 4 = .ok (.ifCond .lt 57, 3) := by decide +kernel
theorem dX2_addPan_7 : decode cX2_addPan 7 = .ok (.aload_n 0, 1) := by decide +kernel
theorem dX2_addPan_8 : decode cX2_addPan 8 = .ok (.getfield 26, 3) := by decide +kernel
theorem dX2_addPan_11 : decode cX2_addPan 11 = .ok (.aload_n 0, 1) := by decide +kernel
theorem dX2_addPan_12 : decode cX2_addPan 12 = .ok (.getfield 9, 3) := by decide +kernel
theorem dX2_addPan_15 : decode cX2_addPan 15 = .ok (.arraylength, 1) := by decide +kernel
theorem dX2_addPan_16 : decode cX2_addPan 16 = .ok (.if_icmp .ge 45, 3) := by decide +kernel
theorem dX2_addPan_19 : decode cX2_addPan 19 = .ok (.aload_n 0, 1) := by decide +kernel
theorem dX2_addPan_20 : decode cX2_addPan 20 = .ok (.getfield 26, 3) := by decide +kernel
theorem dX2_addPan_23 : decode cX2_addPan 23 = .ok (.aload_n 0, 1) := by decide +kernel
theorem dX2_addPan_24 : decode cX2_addPan 24 = .ok (.getfield 13, 3) := by decide +kernel
theorem dX2_addPan_27 : decode cX2_addPan 27 = .ok (.arraylength, 1) := by decide +kernel
theorem dX2_addPan_28 : decode cX2_addPan 28 = .ok (.if_icmp .ge 33, 3) := by decide +kernel
theorem dX2_addPan_31 : decode cX2_addPan 31 = .ok (.aload_n 0, 1) := by decide +kernel
theorem dX2_addPan_32 : decode cX2_addPan 32 = .ok (.getfield 9, 3) := by decide +kernel
theorem dX2_addPan_35 : decode cX2_addPan 35 = .ok (.aload_n 0, 1) := by decide +kernel
theorem dX2_addPan_36 : decode cX2_addPan 36 = .ok (.getfield 26, 3) := by decide +kernel
theorem dX2_addPan_39 : decode cX2_addPan 39 = .ok (.lload_n 1, 1) := by decide +kernel
theorem dX2_addPan_40 : decode cX2_addPan 40 = .ok (.lastore, 1) := by decide +kernel
theorem dX2_addPan_41 : decode cX2_addPan 41 = .ok (.aload_n 0, 1) := by decide +kernel
theorem dX2_addPan_42 : decode cX2_addPan 42 = .ok (.getfield 13, 3) := by decide +kernel
theorem dX2_addPan_45 : decode cX2_addPan 45 = .ok (.aload_n 0, 1) := by decide +kernel
theorem dX2_addPan_46 : decode cX2_addPan 46 = .ok (.getfield 26, 3) := by decide +kernel
theorem dX2_addPan_49 : decode cX2_addPan 49 = .ok (.iload_n 3, 1) := by decide +kernel
theorem dX2_addPan_50 : decode cX2_addPan 50 = .ok (.iastore, 1) := by decide +kernel
theorem dX2_addPan_51 : decode cX2_addPan 51 = .ok (.aload_n 0, 1) := by decide +kernel
theorem dX2_addPan_52 : decode cX2_addPan 52 = .ok (.dup, 1) := by decide +kernel
theorem dX2_addPan_53 : decode cX2_addPan 53 = .ok (.getfield 26, 3) := by decide +kernel
theorem dX2_addPan_56 : decode cX2_addPan 56 = .ok (.iconst 1, 1) := by decide +kernel
theorem dX2_addPan_57 : decode cX2_addPan 57 = .ok (.iadd, 1) := by decide +kernel
theorem dX2_addPan_58 : decode cX2_addPan 58 = .ok (.putfield 26, 3) := by decide +kernel
theorem dX2_addPan_61 : decode cX2_addPan 61 = .ok (.return_, 1) := by decide +kernel
theorem dX2_addRecipe_0 : decode cX2_addRecipe 0 = .ok (.aload_n 0, 1) := by decide +kernel
theorem dX2_addRecipe_1 : decode cX2_addRecipe 1 = .ok (.getfield 30, 3) := by decide +kernel
theorem dX2_addRecipe_4 : decode cX2_addRecipe 4 = .ok (.ifCond .lt 57, 3) := by decide +kernel
theorem dX2_addRecipe_7 : decode cX2_addRecipe 7 = .ok (.aload_n 0, 1) := by decide +kernel
theorem dX2_addRecipe_8 : decode cX2_addRecipe 8 = .ok (.getfield 30, 3) := by decide +kernel
theorem dX2_addRecipe_11 : decode cX2_addRecipe 11 = .ok (.aload_n 0, 1) := by decide +kernel
theorem dX2_addRecipe_12 : decode cX2_addRecipe 12 = .ok (.getfield 17, 3) := by decide +kernel
theorem dX2_addRecipe_15 : decode cX2_addRecipe 15 = .ok (.arraylength, 1) := by decide +kernel
theorem dX2_addRecipe_16 : decode cX2_addRecipe 16 = .ok (.if_icmp .ge 45, 3) := by decide +kernel
theorem dX2_addRecipe_19 : decode cX2_addRecipe 19 = .ok (.aload_n 0, 1) := by decide +kernel
theorem dX2_addRecipe_20 : decode cX2_addRecipe 20 = .ok (.getfield 30, 3) := by decide +kernel
theorem dX2_addRecipe_23 : decode cX2_addRecipe 23 = .ok (.aload_n 0, 1) := by decide +kernel
theorem dX2_addRecipe_24 : decode cX2_addRecipe 24 = .ok (.getfield 22, 3) := by decide +kernel
theorem dX2_addRecipe_27 : decode cX2_addRecipe 27 = .ok (.arraylength, 1) := by decide +kernel
theorem dX2_addRecipe_28 : decode cX2_addRecipe 28 = .ok (.if_icmp .ge 33, 3) := by decide +kernel
theorem dX2_addRecipe_31 : decode cX2_addRecipe 31 = .ok (.aload_n 0, 1) := by decide +kernel
theorem dX2_addRecipe_32 : decode cX2_addRecipe 32 = .ok (.getfield 17, 3) := by decide +kernel
theorem dX2_addRecipe_35 : decode cX2_addRecipe 35 = .ok (.aload_n 0, 1) := by decide +kernel
theorem dX2_addRecipe_36 : decode cX2_addRecipe 36 = .ok (.getfield 30, 3) := by decide +kernel
theorem dX2_addRecipe_39 : decode cX2_addRecipe 39 = .ok (.lload_n 1, 1) := by decide +kernel
theorem dX2_addRecipe_40 : decode cX2_addRecipe 40 = .ok (.lastore, 1) := by decide +kernel
theorem dX2_addRecipe_41 : decode cX2_addRecipe 41 = .ok (.aload_n 0, 1) := by decide +kernel
theorem dX2_addRecipe_42 : decode cX2_addRecipe 42 = .ok (.getfield 22, 3) := by decide +kernel
theorem dX2_addRecipe_45 : decode cX2_addRecipe 45 = .ok (.aload_n 0, 1) := by decide +kernel
theorem dX2_addRecipe_46 : decode cX2_addRecipe 46 = .ok (.getfield 30, 3) := by decide +kernel
theorem dX2_addRecipe_49 : decode cX2_addRecipe 49 = .ok (.aload_n 3, 1) := by decide +kernel
theorem dX2_addRecipe_50 : decode cX2_addRecipe 50 = .ok (.aastore, 1) := by decide +kernel
theorem dX2_addRecipe_51 : decode cX2_addRecipe 51 = .ok (.aload_n 0, 1) := by decide +kernel
theorem dX2_addRecipe_52 : decode cX2_addRecipe 52 = .ok (.dup, 1) := by decide +kernel
theorem dX2_addRecipe_53 : decode cX2_addRecipe 53 = .ok (.getfield 30, 3) := by decide +kernel
theorem dX2_addRecipe_56 : decode cX2_addRecipe 56 = .ok (.iconst 1, 1) := by decide +kernel
theorem dX2_addRecipe_57 : decode cX2_addRecipe 57 = .ok (.iadd, 1) := by decide +kernel
theorem dX2_addRecipe_58 : decode cX2_addRecipe 58 = .ok (.putfield 30, 3) := by decide +kernel
theorem dX2_addRecipe_61 : decode cX2_addRecipe 61 = .ok (.return_, 1) := by decide +kernel
theorem dX2_indexOf_0 : decode cX2_indexOf 0 = .ok (.iconst 0, 1) := by decide +kernel
theorem dX2_indexOf_1 : decode cX2_indexOf 1 = .ok (.istore 4, 2) := by decide +kernel
theorem dX2_indexOf_3 : decode cX2_indexOf 3 = .ok (.iload 4, 2) := by decide +kernel
theorem dX2_indexOf_5 : decode cX2_indexOf 5 = .ok (.iload_n 3, 1) := by decide +kernel
theorem dX2_indexOf_6 : decode cX2_indexOf 6 = .ok (.if_icmp .ge 28, 3) := by decide +kernel
theorem dX2_indexOf_9 : decode cX2_indexOf 9 = .ok (.iload 4, 2) := by decide +kernel
theorem dX2_indexOf_11 : decode cX2_indexOf 11 = .ok (.aload_n 2, 1) := by decide +kernel
theorem dX2_indexOf_12 : decode cX2_indexOf 12 = .ok (.arraylength, 1) := by decide +kernel
theorem dX2_indexOf_13 : decode cX2_indexOf 13 = .ok (.if_icmp .ge 21, 3) := by decide +kernel
theorem dX2_indexOf_16 : decode cX2_indexOf 16 = .ok (.aload_n 2, 1) := by decide +kernel
theorem dX2_indexOf_17 : decode cX2_indexOf 17 = .ok (.iload 4, 2) := by decide +kernel
theorem dX2_indexOf_19 : decode cX2_indexOf 19 = .ok (.laload, 1) := by decide +kernel
theorem dX2_indexOf_20 : decode cX2_indexOf 20 = .ok (.lload_n 0, 1) := by decide +kernel
theorem dX2_indexOf_21 : decode cX2_indexOf 21 = .ok (.lcmp, 1) := by decide +kernel
theorem dX2_indexOf_22 : decode cX2_indexOf 22 = .ok (.ifCond .ne 6, 3) := by decide +kernel
theorem dX2_indexOf_25 : decode cX2_indexOf 25 = .ok (.iload 4, 2) := by decide +kernel
theorem dX2_indexOf_27 : decode cX2_indexOf 27 = .ok (.ireturn, 1) := by decide +kernel
theorem dX2_indexOf_28 : decode cX2_indexOf 28 = .ok (.iinc 4 1, 3) := by decide +kernel
theorem dX2_indexOf_31 : decode cX2_indexOf 31 = .ok (.goto (-28), 3) := by decide +kernel
theorem dX2_indexOf_34 : decode cX2_indexOf 34 = .ok (.iconst (-1), 1) := by decide +kernel
theorem dX2_indexOf_35 : decode cX2_indexOf 35 = .ok (.ireturn, 1) := by decide +kernel
theorem dX2_spoonsOf_0 : decode cX2_spoonsOf 0 = .ok (.iload_n 1, 1) := by decide +kernel
theorem dX2_spoonsOf_1 : decode cX2_spoonsOf 1 = .ok (.ifCond .lt 21, 3) := by decide +kernel
theorem dX2_spoonsOf_4 : decode cX2_spoonsOf 4 = .ok (.iload_n 1, 1) := by decide +kernel
theorem dX2_spoonsOf_5 : decode cX2_spoonsOf 5 = .ok (.aload_n 0, 1) := by decide +kernel
theorem dX2_spoonsOf_6 : decode cX2_spoonsOf 6 = .ok (.getfield 13, 3) := by decide +kernel
theorem dX2_spoonsOf_9 : decode cX2_spoonsOf 9 = .ok (.arraylength, 1) := by decide +kernel
theorem dX2_spoonsOf_10 : decode cX2_spoonsOf 10 = .ok (.if_icmp .ge 12, 3) := by decide +kernel
theorem dX2_spoonsOf_13 : decode cX2_spoonsOf 13 = .ok (.aload_n 0, 1) := by decide +kernel
theorem dX2_spoonsOf_14 : decode cX2_spoonsOf 14 = .ok (.getfield 13, 3) := by decide +kernel
theorem dX2_spoonsOf_17 : decode cX2_spoonsOf 17 = .ok (.iload_n 1, 1) := by decide +kernel
theorem dX2_spoonsOf_18 : decode cX2_spoonsOf 18 = .ok (.iaload, 1) := by decide +kernel
theorem dX2_spoonsOf_19 : decode cX2_spoonsOf 19 = .ok (.goto 4, 3) := by decide +kernel
theorem dX2_spoonsOf_22 : decode cX2_spoonsOf 22 = .ok (.iconst 0, 1) := by decide +kernel
theorem dX2_spoonsOf_23 : decode cX2_spoonsOf 23 = .ok (.ireturn, 1) := by decide +kernel
theorem dX2_blockOf_0 : decode cX2_blockOf 0 = .ok (.iload_n 1, 1) := by decide +kernel
theorem dX2_blockOf_1 : decode cX2_blockOf 1 = .ok (.ifCond .lt 21, 3) := by decide +kernel
theorem dX2_blockOf_4 : decode cX2_blockOf 4 = .ok (.iload_n 1, 1) := by decide +kernel
theorem dX2_blockOf_5 : decode cX2_blockOf 5 = .ok (.aload_n 0, 1) := by decide +kernel
theorem dX2_blockOf_6 : decode cX2_blockOf 6 = .ok (.getfield 22, 3) := by decide +kernel
theorem dX2_blockOf_9 : decode cX2_blockOf 9 = .ok (.arraylength, 1) := by decide +kernel
theorem dX2_blockOf_10 : decode cX2_blockOf 10 = .ok (.if_icmp .ge 12, 3) := by decide +kernel
theorem dX2_blockOf_13 : decode cX2_blockOf 13 = .ok (.aload_n 0, 1) := by decide +kernel
theorem dX2_blockOf_14 : decode cX2_blockOf 14 = .ok (.getfield 22, 3) := by decide +kernel
theorem dX2_blockOf_17 : decode cX2_blockOf 17 = .ok (.iload_n 1, 1) := by decide +kernel
theorem dX2_blockOf_18 : decode cX2_blockOf 18 = .ok (.aaload, 1) := by decide +kernel
theorem dX2_blockOf_19 : decode cX2_blockOf 19 = .ok (.goto 4, 3) := by decide +kernel
theorem dX2_blockOf_22 : decode cX2_blockOf 22 = .ok (.aconst_null, 1) := by decide +kernel
theorem dX2_blockOf_23 : decode cX2_blockOf 23 = .ok (.areturn, 1) := by decide +kernel
theorem dX3_init_0 : decode cX3_init 0 = .ok (.aload_n 0, 1) := by decide +kernel
theorem dX3_init_1 : decode cX3_init 1 = .ok (.invokespecial 3, 3) := by decide +kernel
theorem dX3_init_4 : decode cX3_init 4 = .ok (.aload_n 0, 1) := by decide +kernel
theorem dX3_init_5 : decode cX3_init 5 = .ok (.iconst (-1), 1) := by decide +kernel
theorem dX3_init_6 : decode cX3_init 6 = .ok (.putfield 9, 3) := by decide +kernel
theorem dX3_init_9 : decode cX3_init 9 = .ok (.aload_n 0, 1) := by decide +kernel
theorem dX3_init_10 : decode cX3_init 10 = .ok (.aload_n 1, 1) := by decide +kernel
theorem dX3_init_11 : decode cX3_init 11 = .ok (.putfield 15, 3) := by decide +kernel
theorem dX3_init_14 : decode cX3_init 14 = .ok (.return_, 1) := by decide +kernel
set_option maxRecDepth 20000 in
theorem ggX3_run_X2_blockOf : GoodIn wsX3_run wsX2_blockOf := goodIn_r _ [8, 9, 172, 173, 174, 175, 176, 177, 178] (by decide +kernel) (by decide +kernel)
set_option maxRecDepth 20000 in
theorem gX3_run_X2_blockOf : GoodIn wsX3_run (wsV RX3 31 RX2 yX2_blockOf wsX2_blockOf) := goodIn_app (goodIn_of _ (by decide +kernel)) ggX3_run_X2_blockOf
set_option maxRecDepth 20000 in
theorem ggX3_run_X3_doBlock : GoodIn wsX3_run wsX3_doBlock := goodIn_r _ [14, 1, 15, 16, 17, 13, 18, 19, 3, 20, 21, 22, 23, 24, 25, 26, 4, 5, 6, 7, 8, 9, 10, 11, 12, 27, 28, 29, 30, 31, 32, 33, 34, 35, 36, 37, 38, 39, 40, 41, 42, 43, 44, 45, 46, 47, 48, 49, 50, 51, 52, 53, 54, 55, 56, 57, 58, 59, 60, 61, 62, 63, 64, 65, 66, 67, 68, 69, 70, 71, 72, 73, 74, 75, 76, 77, 78, 79, 80, 81, 82, 83, 84, 85, 86, 87, 88, 89, 90, 91, 92, 93, 94, 95, 96, 97, 98, 99, 100, 101, 102, 103, 104, 2, 105, 106, 107, 108, 109, 110, 111, 112, 113, 114, 115, 116, 117, 118, 119, 120, 121, 122, 123, 124, 125, 126, 127, 128, 129, 130, 131, 132, 133, 134, 135, 136, 137, 138, 139, 140, 141, 142, 143, 144, 145, 146, 147, 148, 149, 150, 151, 152, 153, 154, 155, 156, 157, 158, 159, 179, 180, 181, 182, 183, 184, 185, 186, 187, 160, 161, 162, 163, 164, 165, 166, 167, 168, 169, 170, 171, 172, 173, 174, 175, 176, 177, 178, 188, 189, 190, 191, 192, 193, 194, 195, 196, 197, 198, 199] (by decide +kernel) (by decide +kernel)
set_option maxRecDepth 20000 in
theorem gX3_run_X3_doBlock : GoodIn wsX3_run (wsV RX3 37 RX3 yX3_doBlock wsX3_doBlock) := goodIn_app (goodIn_of _ (by decide +kernel)) ggX3_run_X3_doBlock
theorem dX3_run_0 : decode cX3_run 0 = .ok (.aload_n 0, 1) := by decide +kernel
theorem dX3_run_1 : decode cX3_run 1 = .ok (.iconst 0, 1) := by decide +kernel
theorem dX3_run_2 : decode cX3_run 2 = .ok (.putfield 19, 3) := by decide +kernel
theorem dX3_run_5 : decode cX3_run 5 = .ok (.aload_n 0, 1) := by decide +kernel
theorem dX3_run_6 : decode cX3_run 6 = .ok (.iconst (-1), 1) := by decide +kernel
theorem dX3_run_7 : decode cX3_run 7 = .ok (.putfield 9, 3) := by decide +kernel
theorem dX3_run_10 : decode cX3_run 10 = .ok (.aload_n 0, 1) := by decide +kernel
theorem dX3_run_11 : decode cX3_run 11 = .ok (.getfield 15, 3) := by decide +kernel
theorem dX3_run_14 : decode cX3_run 14 = .ok (.getfield 22, 3) := by decide +kernel
theorem dX3_run_17 : decode cX3_run 17 = .ok (.istore_n 2, 1) := by decide +kernel
theorem dX3_run_18 : decode cX3_run 18 = .ok (.aload_n 0, 1) := by decide +kernel
theorem dX3_run_19 : decode cX3_run 19 = .ok (.aload_n 0, 1) := by decide +kernel
theorem dX3_run_20 : decode cX3_run 20 = .ok (.getfield 15, 3) := by decide +kernel
theorem dX3_run_23 : decode cX3_run 23 = .ok (.getfield 27, 3) := by decide +kernel
theorem dX3_run_26 : decode cX3_run 26 = .ok (.iload_n 1, 1) := by decide +kernel
theorem dX3_run_27 : decode cX3_run 27 = .ok (.invokevirtual 31, 3) := by decide +kernel
theorem dX3_run_30 : decode cX3_run 30 = .ok (.iconst 0, 1) := by decide +kernel
theorem dX3_run_31 : decode cX3_run 31 = .ok (.invokevirtual 37, 3) := by decide +kernel
theorem dX3_run_34 : decode cX3_run 34 = .ok (.aload_n 0, 1) := by decide +kernel
theorem dX3_run_35 : decode cX3_run 35 = .ok (.getfield 15, 3) := by decide +kernel
theorem dX3_run_38 : decode cX3_run 38 = .ok (.getfield 22, 3) := by decide +kernel
theorem dX3_run_41 : decode cX3_run 41 = .ok (.iload_n 2, 1) := by decide +kernel
theorem dX3_run_42 : decode cX3_run 42 = .ok (.isub, 1) := by decide +kernel
theorem dX3_run_43 : decode cX3_run 43 = .ok (.ireturn, 1) := by decide +kernel
set_option maxRecDepth 20000 in
theorem ggX3_doBlock_X3_doAct : GoodIn wsX3_doBlock wsX3_doAct := goodIn_r _ [6, 7, 8, 9, 10, 11, 12, 13, 14, 15, 16, 17, 18, 19, 20, 21, 22, 23, 24, 5, 25, 26, 27, 28, 29, 30, 31, 32, 33, 34, 35, 36, 37, 38, 39, 40, 41, 42, 43, 44, 45, 46, 47, 48, 49, 50, 51, 52, 53, 54, 55, 56, 57, 58, 59, 60, 61, 62, 63, 64, 65, 66, 67, 68, 69, 70, 71, 72, 73, 74, 75, 76, 77, 78, 79, 80, 81, 82, 83, 84, 85, 86, 87, 88, 89, 90, 91, 92, 93, 94, 95, 96, 97, 98, 99, 100, 101, 102, 103, 1, 104, 105, 106, 107, 108, 109, 110, 111, 112, 113, 114, 115, 116, 117, 118, 119, 120, 121, 122, 123, 124, 125, 126, 127, 128, 129, 130, 131, 132, 133, 134, 135, 136, 137, 138, 139, 140, 141, 142, 143, 144, 145, 146, 147, 148, 149, 150, 151, 152, 153, 154, 155, 156, 157, 158, 0, 2, 3, 4, 159, 160, 161, 162, 163, 164, 165, 166, 167, 168, 169, 170, 171, 172, 173, 174, 175, 176, 177, 178, 179, 180, 181, 182, 183, 184, 185, 186, 187, 188, 189, 190, 191, 192, 193, 194, 195, 196, 197, 198] (by decide +kernel) (by decide +kernel)
set_option maxRecDepth 20000 in
theorem gX3_doBlock_X3_doAct : GoodIn wsX3_doBlock (wsV RX3 41 RX3 yX3_doAct wsX3_doAct) := goodIn_app (goodIn_of _ (by decide +kernel)) ggX3_doBlock_X3_doAct
theorem dX3_doBlock_0 : decode cX3_doBlock 0 = .ok (.iload_n 2, 1) := by decide +kernel
theorem dX3_doBlock_1 : decode cX3_doBlock 1 = .ok (.bipush 36, 2) := by decide +kernel
theorem dX3_doBlock_3 : decode cX3_doBlock 3 = .ok (.if_icmp .lt 4, 3) := by decide +kernel
theorem dX3_doBlock_6 : decode cX3_doBlock 6 = .ok (.return_, 1) := by decide +kernel
theorem dX3_doBlock_7 : decode cX3_doBlock 7 = .ok (.aload_n 1, 1) := by decide +kernel
theorem dX3_doBlock_8 : decode cX3_doBlock 8 = .ok (.astore_n 3, 1) := by decide +kernel
theorem dX3_doBlock_9 : decode cX3_doBlock 9 = .ok (.aload_n 3, 1) := by decide +kernel
theorem dX3_doBlock_10 : decode cX3_doBlock 10 = .ok (.ifnull 36, 3) := by decide +kernel
theorem dX3_doBlock_13 : decode cX3_doBlock 13 = .ok (.aload_n 0, 1) := by decide +kernel
theorem dX3_doBlock_14 : decode cX3_doBlock 14 = .ok (.getfield 19, 3) := by decide +kernel
theorem dX3_doBlock_17 : decode cX3_doBlock 17 = .ok (.bipush 100, 2) := by decide +kernel
theorem dX3_doBlock_19 : decode cX3_doBlock 19 = .ok (.if_icmp .ge 27, 3) := by decide +kernel
theorem dX3_doBlock_22 : decode cX3_doBlock 22 = .ok (.aload_n 0, 1) := by decide +kernel
theorem dX3_doBlock_23 : decode cX3_doBlock 23 = .ok (.dup, 1) := by decide +kernel
theorem dX3_doBlock_24 : decode cX3_doBlock 24 = .ok (.getfield 19, 3) := by decide +kernel
theorem dX3_doBlock_27 : decode cX3_doBlock 27 = .ok (.iconst 1, 1) := by decide +kernel
theorem dX3_doBlock_28 : decode cX3_doBlock 28 = .ok (.iadd, 1) := by decide +kernel
theorem dX3_doBlock_29 : decode cX3_doBlock 29 = .ok (.putfield 19, 3) := by decide +kernel
theorem dX3_doBlock_32 : decode cX3_doBlock 32 = .ok (.aload_n 0, 1) := by decide +kernel
theorem dX3_doBlock_33 : decode cX3_doBlock 33 = .ok (.aload_n 3, 1) := by decide +kernel
theorem dX3_doBlock_34 : decode cX3_doBlock 34 = .ok (.iload_n 2, 1) := by decide +kernel
theorem dX3_doBlock_35 : decode cX3_doBlock 35 = .ok (.invokevirtual 41, 3) := by decide +kernel
theorem dX3_doBlock_38 : decode cX3_doBlock 38 = .ok (.aload_n 3, 1) := by decide +kernel
theorem dX3_doBlock_39 : decode cX3_doBlock 39 = .ok (.getfield 44, 3) := by decide +kernel
theorem dX3_doBlock_42 : decode cX3_doBlock 42 = .ok (.astore_n 3, 1) := by decide +kernel
theorem dX3_doBlock_43 : decode cX3_doBlock 43 = .ok (.goto (-34), 3) := by decide +kernel
theorem dX3_doBlock_46 : decode cX3_doBlock 46 = .ok (.return_, 1) := by decide +kernel
set_option maxRecDepth 20000 in
theorem ggX3_doAct_Jx29ce0_ordinal_8abf5 : GoodIn wsX3_doAct wsJx29ce0_ordinal_8abf5 := goodIn_r _ [8, 9] (by decide +kernel) (by decide +kernel)
set_option maxRecDepth 20000 in
theorem gX3_doAct_Jx29ce0_ordinal_8abf5_u60X5 : GoodIn wsX3_doAct (va_wsU RX3 60 RX5 "java/lang/Enum" ⟨"HighRecipes$Kind", "ordinal", "()I"⟩ yJx29ce0_ordinal_8abf5 wsJx29ce0_ordinal_8abf5) := goodIn_app (goodIn_of _ (by decide +kernel)) ggX3_doAct_Jx29ce0_ordinal_8abf5
set_option maxRecDepth 20000 in
theorem ggX3_doAct_X2_blockOf : GoodIn wsX3_doAct wsX2_blockOf := goodIn_r _ [14, 15, 180, 181, 182, 183, 184, 185, 186] (by decide +kernel) (by decide +kernel)
set_option maxRecDepth 20000 in
theorem gX3_doAct_X2_blockOf : GoodIn wsX3_doAct (wsV RX3 31 RX2 yX2_blockOf wsX2_blockOf) := goodIn_app (goodIn_of _ (by decide +kernel)) ggX3_doAct_X2_blockOf
set_option maxRecDepth 20000 in
theorem ggX3_doAct_X3_doBlock : GoodIn wsX3_doAct wsX3_doBlock := goodIn_r _ [155, 99, 156, 157, 158, 19, 0, 1, 2, 3, 4, 5, 6, 7, 8, 9, 10, 11, 12, 13, 14, 15, 16, 17, 18, 20, 21, 22, 23, 24, 25, 26, 27, 28, 29, 30, 31, 32, 33, 34, 35, 36, 37, 38, 39, 40, 41, 42, 43, 44, 45, 46, 47, 48, 49, 50, 51, 52, 53, 54, 55, 56, 57, 58, 59, 60, 61, 62, 63, 64, 65, 66, 67, 68, 69, 70, 71, 72, 73, 74, 75, 76, 77, 78, 79, 80, 81, 82, 83, 84, 85, 86, 87, 88, 89, 90, 91, 92, 93, 94, 95, 96, 97, 98, 100, 101, 102, 103, 104, 105, 106, 107, 108, 109, 110, 111, 112, 113, 114, 115, 116, 117, 118, 119, 120, 121, 122, 123, 124, 125, 126, 127, 128, 129, 130, 131, 132, 133, 134, 135, 136, 137, 138, 139, 140, 141, 142, 143, 144, 145, 146, 147, 148, 149, 150, 151, 152, 153, 154, 159, 160, 161, 162, 163, 164, 165, 166, 167, 168, 169, 170, 171, 172, 173, 174, 175, 176, 177, 178, 179, 180, 181, 182, 183, 184, 185, 186, 187, 188, 189, 190, 191, 192, 193, 194, 195, 196, 197, 198] (by decide +kernel) (by decide +kernel)
set_option maxRecDepth 20000 in
theorem gX3_doAct_X3_doBlock : GoodIn wsX3_doAct (wsV RX3 37 RX3 yX3_doBlock wsX3_doBlock) := goodIn_app (goodIn_of _ (by decide +kernel)) ggX3_doAct_X3_doBlock
set_option maxRecDepth 20000 in
theorem ggX3_doAct_X3_doAgain : GoodIn wsX3_doAct wsX3_doAgain := goodIn_r _ [154, 132, 76, 77, 78, 30, 31, 32, 19, 33, 1, 2, 3, 4, 5, 6, 7, 8, 9, 34, 35, 36, 37, 38, 39, 40, 41, 42, 43, 44, 45, 46, 47, 48, 49, 50, 51, 52, 53, 54, 55, 56, 57, 58, 59, 60, 61, 62, 16, 17, 18, 0, 10, 11, 12, 13, 14, 15, 20, 21, 22, 23, 24, 25, 26, 27, 28, 29, 63, 64, 65, 66, 67, 68, 69, 70, 71, 72, 73, 74, 75, 79, 80, 81, 82, 83, 84, 85, 86, 87, 88, 89, 90, 91, 92, 93, 94, 95, 96, 97, 98, 99, 100, 101, 102, 103, 104, 105, 106, 107, 108, 109, 110, 111, 112, 113, 114, 115, 116, 117, 118, 119, 120, 121, 122, 123, 124, 125, 126, 127, 128, 129, 130, 131, 133, 134, 135, 136, 137, 138, 139, 140, 141, 142, 143, 144, 145, 146, 147, 148, 149, 150, 151, 152, 153, 155, 156, 157, 158, 159, 160, 161, 162, 163, 164, 165, 166, 167, 168, 169, 170, 171, 172, 173, 174, 175, 176, 177, 178, 179, 180, 181, 182, 183, 184, 185, 186, 187, 188, 189, 190, 191, 192, 193, 194, 195, 196, 197, 198] (by decide +kernel) (by decide +kernel)
set_option maxRecDepth 20000 in
theorem gX3_doAct_X3_doAgain : GoodIn wsX3_doAct (wsV RX3 69 RX3 yX3_doAgain wsX3_doAgain) := goodIn_app (goodIn_of _ (by decide +kernel)) ggX3_doAct_X3_doAgain
set_option maxRecDepth 20000 in
theorem ggX3_doAct_X3_allAreSo : GoodIn wsX3_doAct wsX3_allAreSo := goodIn_r _ [26, 27, 28, 29, 30, 31, 32, 19, 33, 1, 2, 3, 4, 5, 6, 7, 8, 9, 34, 35, 36, 37, 38, 39, 40, 41, 42, 43, 44, 45, 46, 47, 48, 49, 50, 51, 52, 53, 54, 55, 56, 57, 58, 59, 60, 61, 62, 187, 188, 189, 190, 191, 168, 169, 170, 171, 172, 173, 174, 175, 176, 177, 178, 179, 180, 181, 182, 183, 184, 185, 186, 192, 193, 194, 195, 196] (by decide +kernel) (by decide +kernel)
set_option maxRecDepth 20000 in
theorem gX3_doAct_X3_allAreSo : GoodIn wsX3_doAct (wsV RX3 76 RX3 yX3_allAreSo wsX3_allAreSo) := goodIn_app (goodIn_of _ (by decide +kernel)) ggX3_doAct_X3_allAreSo
set_option maxRecDepth 20000 in
theorem ggX3_doAct_X3_doPour : GoodIn wsX3_doAct wsX3_doPour := goodIn_r _ [66, 2, 46, 47, 48, 40, 49, 50, 51, 30, 31, 32, 19, 33, 1, 3, 4, 5, 6, 7, 8, 9, 34, 35, 36, 37, 38, 39, 41, 42, 43, 44, 45, 52, 53, 54, 55, 56, 57, 58, 59, 60, 61, 62, 67, 68, 69, 70, 71, 72, 73, 74, 75, 76, 77, 78, 79, 80, 81, 82, 83, 84, 85, 86, 87, 88, 89, 90, 91, 92, 93, 94, 95, 96, 97, 98, 99, 100, 101, 102, 103, 104, 105, 106, 107, 108, 109, 110, 111, 112, 113, 114, 115, 116, 117, 118, 119, 120, 121, 122, 123, 124, 125, 126, 127, 168, 169, 170, 159, 160, 161, 162, 163, 164, 165, 166, 167, 171, 172, 173, 174, 175, 176, 177, 178, 179, 180, 181, 182, 183, 184, 185, 186, 187, 188, 189, 190, 191, 192, 193, 194, 195, 196, 197, 198] (by decide +kernel) (by decide +kernel)
set_option maxRecDepth 20000 in
theorem gX3_doAct_X3_doPour : GoodIn wsX3_doAct (wsV RX3 86 RX3 yX3_doPour wsX3_doPour) := goodIn_app (goodIn_of _ (by decide +kernel)) ggX3_doAct_X3_doPour
set_option maxRecDepth 20000 in
theorem ggX3_doAct_X3_doHeat : GoodIn wsX3_doAct wsX3_doHeat := goodIn_r _ [131, 2, 132, 76, 77, 78, 46, 47, 48, 40, 49, 50, 51, 133, 91, 92, 58, 93, 61, 62, 94, 95, 96, 19, 97, 98, 99, 100, 101, 102, 103, 104, 105, 106, 107, 108, 109, 110, 111, 112, 113, 114, 115, 116, 30, 31, 32, 33, 1, 3, 4, 5, 6, 7, 8, 9, 34, 35, 36, 37, 38, 39, 41, 42, 43, 44, 45, 52, 53, 54, 55, 56, 57, 59, 60, 117, 118, 119, 120, 121, 122, 123, 124, 125, 126, 87, 127, 80, 81, 168, 169, 170, 159, 160, 161, 162, 163, 164, 165, 166, 167, 192, 193, 194, 195, 196, 171, 172, 173, 174, 175, 176, 177, 178, 179, 180, 181, 182, 183, 184, 185, 186, 197, 198, 187, 188, 189, 190, 191] (by decide +kernel) (by decide +kernel)
set_option maxRecDepth 20000 in
theorem gX3_doAct_X3_doHeat : GoodIn wsX3_doAct (wsV RX3 90 RX3 yX3_doHeat wsX3_doHeat) := goodIn_app (goodIn_of _ (by decide +kernel)) ggX3_doAct_X3_doHeat
set_option maxRecDepth 20000 in
theorem ggX3_doAct_X3_doBoil : GoodIn wsX3_doAct wsX3_doBoil := goodIn_r _ [137, 2, 132, 76, 77, 78, 46, 47, 48, 40, 49, 50, 51, 37, 38, 39, 41, 42, 43, 44, 45, 94, 95, 96, 19, 97, 98, 99, 100, 101, 102, 103, 104, 105, 106, 107, 108, 109, 110, 111, 112, 113, 114, 115, 116, 30, 31, 32, 33, 1, 3, 4, 5, 6, 7, 8, 9, 34, 35, 36, 52, 53, 54, 55, 56, 57, 58, 59, 60, 61, 62, 73, 74, 75, 79, 80, 81, 138, 139, 140, 141, 142, 143, 144, 117, 118, 119, 120, 121, 122, 123, 124, 125, 126, 87, 127, 168, 169, 170, 159, 160, 161, 162, 163, 164, 165, 166, 167, 192, 193, 194, 195, 196, 171, 172, 173, 174, 175, 176, 177, 178, 179, 180, 181, 182, 183, 184, 185, 186, 197, 198, 187, 188, 189, 190, 191] (by decide +kernel) (by decide +kernel)
set_option maxRecDepth 20000 in
theorem gX3_doAct_X3_doBoil : GoodIn wsX3_doAct (wsV RX3 93 RX3 yX3_doBoil wsX3_doBoil) := goodIn_app (goodIn_of _ (by decide +kernel)) ggX3_doAct_X3_doBoil
set_option maxRecDepth 20000 in
theorem ggX3_doAct_X3_doEmpty : GoodIn wsX3_doAct wsX3_doEmpty := goodIn_r _ [148, 2, 46, 47, 48, 40, 49, 50, 51, 149, 150, 151, 58, 152, 61, 62, 87, 88, 117, 118, 119, 120, 121, 122, 123, 124, 125, 126, 127, 80, 77, 81, 168, 169, 170, 159, 160, 161, 162, 163, 164, 165, 166, 167, 171, 172, 173, 174, 175, 176, 177, 178, 179, 180, 181, 182, 183, 184, 185, 186, 192, 193, 194, 195, 196] (by decide +kernel) (by decide +kernel)
set_option maxRecDepth 20000 in
theorem gX3_doAct_X3_doEmpty : GoodIn wsX3_doAct (wsV RX3 96 RX3 yX3_doEmpty wsX3_doEmpty) := goodIn_app (goodIn_of _ (by decide +kernel)) ggX3_doAct_X3_doEmpty
set_option maxRecDepth 20000 in
theorem ggX3_doAct_X3_worth : GoodIn wsX3_doAct wsX3_worth := goodIn_r _ [33, 1, 2, 3, 4, 5, 6, 7, 8, 9, 30, 31, 32, 19, 34, 35, 36, 37, 38, 39, 40, 41, 42, 43, 44, 45, 46, 47, 48, 49, 50, 51, 52, 53, 54, 55, 56, 57, 58, 59, 60, 61, 62, 187, 188, 189, 190, 191, 168, 169, 170, 171, 172, 173, 174, 175, 176, 177, 178, 179, 180, 181, 182, 183, 184, 185, 186, 192, 193, 194, 195, 196] (by decide +kernel) (by decide +kernel)
set_option maxRecDepth 20000 in
theorem gX3_doAct_X3_worth : GoodIn wsX3_doAct (wsV RX3 102 RX3 yX3_worth wsX3_worth) := goodIn_app (goodIn_of _ (by decide +kernel)) ggX3_doAct_X3_worth
set_option maxRecDepth 20000 in
theorem ggX3_doAct_X12_clamped : GoodIn wsX3_doAct wsX12_clamped := goodIn_r _ [74, 75, 76, 77, 78, 79, 80, 81] (by decide +kernel) (by decide +kernel)
set_option maxRecDepth 20000 in
theorem gX3_doAct_X12_clamped_n106 : GoodIn wsX3_doAct (wsX12_clamped) := ggX3_doAct_X12_clamped
set_option maxRecDepth 20000 in
theorem ggX3_doAct_X6_pass : GoodIn wsX3_doAct wsX6_pass := goodIn_r _ [120, 121, 50, 122, 47, 48, 40, 49, 51, 123, 124, 125, 58, 126, 87, 127, 80, 77, 81, 171, 172, 173, 174, 175, 176, 177, 178, 179, 180, 181, 182, 183, 184, 185, 186, 192, 193, 194, 195, 196] (by decide +kernel) (by decide +kernel)
set_option maxRecDepth 20000 in
theorem gX3_doAct_X6_pass : GoodIn wsX3_doAct (wsV RX3 110 RX6 yX6_pass wsX6_pass) := goodIn_app (goodIn_of _ (by decide +kernel)) ggX3_doAct_X6_pass
set_option maxRecDepth 20000 in
theorem ggX3_doAct_X4_add : GoodIn wsX3_doAct wsX4_add := goodIn_r _ [110, 111, 112, 113, 114, 115, 116, 197, 198] (by decide +kernel) (by decide +kernel)
set_option maxRecDepth 20000 in
theorem gX3_doAct_X4_add : GoodIn wsX3_doAct (wsV RX3 118 RX4 yX4_add wsX4_add) := goodIn_app (goodIn_of _ (by decide +kernel)) ggX3_doAct_X4_add
theorem dX3_doAct_0 : decode cX3_doAct 0 = .ok (.getstatic 50, 3) := by decide +kernel
theorem dX3_doAct_3 : decode cX3_doAct 3 = .ok (.aload_n 1, 1) := by decide +kernel
theorem dX3_doAct_4 : decode cX3_doAct 4 = .ok (.getfield 56, 3) := by decide +kernel
theorem dX3_doAct_7 : decode cX3_doAct 7 = .ok (.invokevirtual 60, 3) := by decide +kernel
theorem dX3_doAct_10 : decode cX3_doAct 10 = .ok (.iaload, 1) := by decide +kernel
theorem dX3_doAct_11 : decode cX3_doAct 11 = .ok (.tableswitch 169 1 8 #[69, 78, 110, 118, 126, 134, 45, 142], 45) := by decide +kernel
theorem dX3_doAct_56 : decode cX3_doAct 56 = .ok (.aload_n 0, 1) := by decide +kernel
theorem dX3_doAct_57 : decode cX3_doAct 57 = .ok (.aload_n 0, 1) := by decide +kernel
theorem dX3_doAct_58 : decode cX3_doAct 58 = .ok (.getfield 15, 3) := by decide +kernel
theorem dX3_doAct_61 : decode cX3_doAct 61 = .ok (.getfield 27, 3) := by decide +kernel
theorem dX3_doAct_64 : decode cX3_doAct 64 = .ok (.aload_n 1, 1) := by decide +kernel
theorem dX3_doAct_65 : decode cX3_doAct 65 = .ok (.getfield 66, 3) := by decide +kernel
theorem dX3_doAct_68 : decode cX3_doAct 68 = .ok (.invokevirtual 31, 3) := by decide +kernel
theorem dX3_doAct_71 : decode cX3_doAct 71 = .ok (.iload_n 2, 1) := by decide +kernel
theorem dX3_doAct_72 : decode cX3_doAct 72 = .ok (.iconst 1, 1) := by decide +kernel
theorem dX3_doAct_73 : decode cX3_doAct 73 = .ok (.iadd, 1) := by decide +kernel
theorem dX3_doAct_74 : decode cX3_doAct 74 = .ok (.invokevirtual 37, 3) := by decide +kernel
theorem dX3_doAct_77 : decode cX3_doAct 77 = .ok (.goto 122, 3) := by decide +kernel
theorem dX3_doAct_80 : decode cX3_doAct 80 = .ok (.aload_n 0, 1) := by decide +kernel
theorem dX3_doAct_81 : decode cX3_doAct 81 = .ok (.aload_n 1, 1) := by decide +kernel
theorem dX3_doAct_82 : decode cX3_doAct 82 = .ok (.iload_n 2, 1) := by decide +kernel
theorem dX3_doAct_83 : decode cX3_doAct 83 = .ok (.invokevirtual 69, 3) := by decide +kernel
theorem dX3_doAct_86 : decode cX3_doAct 86 = .ok (.goto 113, 3) := by decide +kernel
theorem dX3_doAct_89 : decode cX3_doAct 89 = .ok (.aload_n 0, 1) := by decide +kernel
theorem dX3_doAct_90 : decode cX3_doAct 90 = .ok (.aload_n 0, 1) := by decide +kernel
theorem dX3_doAct_91 : decode cX3_doAct 91 = .ok (.aload_n 1, 1) := by decide +kernel
theorem dX3_doAct_92 : decode cX3_doAct 92 = .ok (.getfield 72, 3) := by decide +kernel
theorem dX3_doAct_95 : decode cX3_doAct 95 = .ok (.invokevirtual 76, 3) := by decide +kernel
theorem dX3_doAct_98 : decode cX3_doAct 98 = .ok (.ifCond .eq 10, 3) := by decide +kernel
theorem dX3_doAct_101 : decode cX3_doAct 101 = .ok (.aload_n 1, 1) := by decide +kernel
theorem dX3_doAct_102 : decode cX3_doAct 102 = .ok (.getfield 80, 3) := by decide +kernel
theorem dX3_doAct_105 : decode cX3_doAct 105 = .ok (.goto 7, 3) := by decide +kernel
theorem dX3_doAct_108 : decode cX3_doAct 108 = .ok (.aload_n 1, 1) := by decide +kernel
theorem dX3_doAct_109 : decode cX3_doAct 109 = .ok (.getfield 83, 3) := by decide +kernel
theorem dX3_doAct_112 : decode cX3_doAct 112 = .ok (.iload_n 2, 1) := by decide +kernel
theorem dX3_doAct_113 : decode cX3_doAct 113 = .ok (.iconst 1, 1) := by decide +kernel
theorem dX3_doAct_114 : decode cX3_doAct 114 = .ok (.iadd, 1) := by decide +kernel
theorem dX3_doAct_115 : decode cX3_doAct 115 = .ok (.invokevirtual 37, 3) := by decide +kernel
theorem dX3_doAct_118 : decode cX3_doAct 118 = .ok (.goto 81, 3) := by decide +kernel
theorem dX3_doAct_121 : decode cX3_doAct 121 = .ok (.aload_n 0, 1) := by decide +kernel
theorem dX3_doAct_122 : decode cX3_doAct 122 = .ok (.aload_n 1, 1) := by decide +kernel
theorem dX3_doAct_123 : decode cX3_doAct 123 = .ok (.invokevirtual 86, 3) := by decide +kernel
theorem dX3_doAct_126 : decode cX3_doAct 126 = .ok (.goto 73, 3) := by decide +kernel
theorem dX3_doAct_129 : decode cX3_doAct 129 = .ok (.aload_n 0, 1) := by decide +kernel
theorem dX3_doAct_130 : decode cX3_doAct 130 = .ok (.aload_n 1, 1) := by decide +kernel
theorem dX3_doAct_131 : decode cX3_doAct 131 = .ok (.invokevirtual 90, 3) := by decide +kernel
theorem dX3_doAct_134 : decode cX3_doAct 134 = .ok (.goto 65, 3) := by decide +kernel
theorem dX3_doAct_137 : decode cX3_doAct 137 = .ok (.aload_n 0, 1) := by decide +kernel
theorem dX3_doAct_138 : decode cX3_doAct 138 = .ok (.aload_n 1, 1) := by decide +kernel
theorem dX3_doAct_139 : decode cX3_doAct 139 = .ok (.invokevirtual 93, 3) := by decide +kernel
theorem dX3_doAct_142 : decode cX3_doAct 142 = .ok (.goto 57, 3) := by decide +kernel
theorem dX3_doAct_145 : decode cX3_doAct 145 = .ok (.aload_n 0, 1) := by decide +kernel
theorem dX3_doAct_146 : decode cX3_doAct 146 = .ok (.aload_n 1, 1) := by decide +kernel
theorem dX3_doAct_147 : decode cX3_doAct 147 = .ok (.invokevirtual 96, 3) := by decide +kernel
theorem dX3_doAct_150 : decode cX3_doAct 150 = .ok (.goto 49, 3) := by decide +kernel
theorem dX3_doAct_153 : decode cX3_doAct 153 = .ok (.aload_n 0, 1) := by decide +kernel
theorem dX3_doAct_154 : decode cX3_doAct 154 = .ok (.getfield 15, 3) := by decide +kernel
theorem dX3_doAct_157 : decode cX3_doAct 157 = .ok (.aload_n 0, 1) := by decide +kernel
theorem dX3_doAct_158 : decode cX3_doAct 158 = .ok (.aload_n 1, 1) := by decide +kernel
theorem dX3_doAct_159 : decode cX3_doAct 159 = .ok (.getfield 99, 3) := by decide +kernel
theorem dX3_doAct_162 : decode cX3_doAct 162 = .ok (.iconst 0, 1) := by decide +kernel
theorem dX3_doAct_163 : decode cX3_doAct 163 = .ok (.invokevirtual 102, 3) := by decide +kernel
theorem dX3_doAct_166 : decode cX3_doAct 166 = .ok (.iconst 0, 1) := by decide +kernel
theorem dX3_doAct_167 : decode cX3_doAct 167 = .ok (.sipush 600, 3) := by decide +kernel
theorem dX3_doAct_170 : decode cX3_doAct 170 = .ok (.invokestatic 106, 3) := by decide +kernel
theorem dX3_doAct_173 : decode cX3_doAct 173 = .ok (.aconst_null, 1) := by decide +kernel
theorem dX3_doAct_174 : decode cX3_doAct 174 = .ok (.invokevirtual 110, 3) := by decide +kernel
theorem dX3_doAct_177 : decode cX3_doAct 177 = .ok (.goto 22, 3) := by decide +kernel
theorem dX3_doAct_180 : decode cX3_doAct 180 = .ok (.aload_n 0, 1) := by decide +kernel
theorem dX3_doAct_181 : decode cX3_doAct 181 = .ok (.getfield 15, 3) := by decide +kernel
theorem dX3_doAct_184 : decode cX3_doAct 184 = .ok (.getfield 114, 3) := by decide +kernel
theorem dX3_doAct_187 : decode cX3_doAct 187 = .ok (.aload_n 0, 1) := by decide +kernel
theorem dX3_doAct_188 : decode cX3_doAct 188 = .ok (.aload_n 1, 1) := by decide +kernel
theorem dX3_doAct_189 : decode cX3_doAct 189 = .ok (.getfield 99, 3) := by decide +kernel
theorem dX3_doAct_192 : decode cX3_doAct 192 = .ok (.iconst 0, 1) := by decide +kernel
theorem dX3_doAct_193 : decode cX3_doAct 193 = .ok (.invokevirtual 102, 3) := by decide +kernel
theorem dX3_doAct_196 : decode cX3_doAct 196 = .ok (.invokevirtual 118, 3) := by decide +kernel
theorem dX3_doAct_199 : decode cX3_doAct 199 = .ok (.return_, 1) := by decide +kernel
set_option maxRecDepth 20000 in
theorem ggX3_doAgain_X3_worth : GoodIn wsX3_doAgain wsX3_worth := goodIn_r _ [9, 10, 11, 12, 13, 14, 15, 16, 17, 18, 5, 6, 7, 8, 19, 20, 21, 22, 23, 24, 25, 26, 27, 28, 29, 30, 31, 32, 33, 34, 35, 36, 37, 38, 39, 40, 41, 42, 43, 44, 45, 46, 47, 187, 188, 189, 190, 191, 168, 169, 170, 171, 172, 173, 174, 175, 176, 177, 178, 179, 180, 181, 182, 183, 184, 185, 186, 192, 193, 194, 195, 196] (by decide +kernel) (by decide +kernel)
set_option maxRecDepth 20000 in
theorem gX3_doAgain_X3_worth : GoodIn wsX3_doAgain (wsV RX3 102 RX3 yX3_worth wsX3_worth) := goodIn_app (goodIn_of _ (by decide +kernel)) ggX3_doAgain_X3_worth
set_option maxRecDepth 20000 in
theorem ggX3_doAgain_X3_doBlock : GoodIn wsX3_doAgain wsX3_doBlock := goodIn_r _ [155, 101, 156, 157, 158, 8, 51, 10, 11, 12, 13, 14, 15, 16, 17, 18, 52, 53, 54, 55, 56, 57, 48, 49, 50, 58, 59, 60, 61, 62, 63, 64, 65, 66, 67, 5, 6, 7, 9, 19, 20, 21, 22, 23, 24, 25, 26, 27, 28, 29, 30, 31, 32, 33, 34, 35, 36, 37, 38, 39, 40, 41, 42, 43, 44, 45, 46, 47, 68, 69, 70, 71, 72, 73, 74, 75, 76, 77, 78, 79, 80, 2, 3, 4, 81, 82, 83, 84, 85, 86, 87, 88, 89, 90, 91, 92, 93, 94, 95, 96, 97, 98, 99, 100, 102, 103, 104, 105, 106, 107, 108, 109, 110, 111, 112, 113, 114, 115, 116, 117, 118, 119, 120, 121, 122, 123, 124, 125, 126, 127, 128, 129, 130, 131, 132, 133, 1, 134, 135, 136, 137, 138, 139, 140, 141, 142, 143, 144, 145, 146, 147, 148, 149, 150, 151, 152, 153, 154, 0, 159, 160, 161, 162, 163, 164, 165, 166, 167, 168, 169, 170, 171, 172, 173, 174, 175, 176, 177, 178, 179, 180, 181, 182, 183, 184, 185, 186, 187, 188, 189, 190, 191, 192, 193, 194, 195, 196, 197, 198] (by decide +kernel) (by decide +kernel)
set_option maxRecDepth 20000 in
theorem gX3_doAgain_X3_doBlock : GoodIn wsX3_doAgain (wsV RX3 37 RX3 yX3_doBlock wsX3_doBlock) := goodIn_app (goodIn_of _ (by decide +kernel)) ggX3_doAgain_X3_doBlock
theorem dX3_doAgain_0 : decode cX3_doAgain 0 = .ok (.aload_n 0, 1) := by decide +kernel
theorem dX3_doAgain_1 : decode cX3_doAgain 1 = .ok (.aload_n 1, 1) := by decide +kernel
theorem dX3_doAgain_2 : decode cX3_doAgain 2 = .ok (.getfield 99, 3) := by decide +kernel
theorem dX3_doAgain_5 : decode cX3_doAgain 5 = .ok (.iconst 0, 1) := by decide +kernel
theorem dX3_doAgain_6 : decode cX3_doAgain 6 = .ok (.invokevirtual 102, 3) := by decide +kernel
theorem dX3_doAgain_9 : decode cX3_doAgain 9 = .ok (.bipush 100, 2) := by decide +kernel
theorem dX3_doAgain_11 : decode cX3_doAgain 11 = .ok (.invokestatic 124, 3) := by decide +kernel
theorem dX3_doAgain_14 : decode cX3_doAgain 14 = .ok (.istore_n 3, 1) := by decide +kernel
theorem dX3_doAgain_15 : decode cX3_doAgain 15 = .ok (.iconst 0, 1) := by decide +kernel
theorem dX3_doAgain_16 : decode cX3_doAgain 16 = .ok (.istore 4, 2) := by decide +kernel
theorem dX3_doAgain_18 : decode cX3_doAgain 18 = .ok (.iload 4, 2) := by decide +kernel
theorem dX3_doAgain_20 : decode cX3_doAgain 20 = .ok (.iload_n 3, 1) := by decide +kernel
theorem dX3_doAgain_21 : decode cX3_doAgain 21 = .ok (.if_icmp .ge 20, 3) := by decide +kernel
theorem dX3_doAgain_24 : decode cX3_doAgain 24 = .ok (.aload_n 0, 1) := by decide +kernel
theorem dX3_doAgain_25 : decode cX3_doAgain 25 = .ok (.aload_n 1, 1) := by decide +kernel
theorem dX3_doAgain_26 : decode cX3_doAgain 26 = .ok (.getfield 80, 3) := by decide +kernel
theorem dX3_doAgain_29 : decode cX3_doAgain 29 = .ok (.iload_n 2, 1) := by decide +kernel
theorem dX3_doAgain_30 : decode cX3_doAgain 30 = .ok (.iconst 1, 1) := by decide +kernel
theorem dX3_doAgain_31 : decode cX3_doAgain 31 = .ok (.iadd, 1) := by decide +kernel
theorem dX3_doAgain_32 : decode cX3_doAgain 32 = .ok (.invokevirtual 37, 3) := by decide +kernel
theorem dX3_doAgain_35 : decode cX3_doAgain 35 = .ok (.iinc 4 1, 3) := by decide +kernel
theorem dX3_doAgain_38 : decode cX3_doAgain 38 = .ok (.goto (-20), 3) := by decide +kernel
theorem dX3_doAgain_41 : decode cX3_doAgain 41 = .ok (.return_, 1) := by decide +kernel
set_option maxRecDepth 20000 in
theorem ggX3_doPour_X6_panAt : GoodIn wsX3_doPour wsX6_panAt := goodIn_r _ [6, 7, 8, 117, 118, 119, 120, 121, 122, 123, 124, 125, 126, 127, 128, 129, 130, 131, 132] (by decide +kernel) (by decide +kernel)
set_option maxRecDepth 20000 in
theorem gX3_doPour_X6_panAt : GoodIn wsX3_doPour (wsV RX3 133 RX6 yX6_panAt wsX6_panAt) := goodIn_app (goodIn_of _ (by decide +kernel)) ggX3_doPour_X6_panAt
set_option maxRecDepth 20000 in
theorem ggX3_doPour_X3_worth : GoodIn wsX3_doPour wsX3_worth := goodIn_r _ [13, 14, 1, 15, 16, 17, 18, 19, 20, 21, 9, 10, 11, 12, 22, 23, 24, 25, 26, 27, 5, 28, 29, 30, 31, 32, 2, 3, 4, 6, 7, 8, 33, 34, 35, 36, 37, 38, 39, 40, 41, 42, 43, 133, 134, 135, 136, 137, 105, 106, 107, 117, 118, 119, 120, 121, 122, 123, 124, 125, 126, 127, 128, 129, 130, 131, 132, 138, 139, 140, 141, 142] (by decide +kernel) (by decide +kernel)
set_option maxRecDepth 20000 in
theorem gX3_doPour_X3_worth : GoodIn wsX3_doPour (wsV RX3 102 RX3 yX3_worth wsX3_worth) := goodIn_app (goodIn_of _ (by decide +kernel)) ggX3_doPour_X3_worth
set_option maxRecDepth 20000 in
theorem ggX3_doPour_X6_translated : GoodIn wsX3_doPour wsX6_translated := goodIn_r _ [47, 48, 49, 50, 23, 51, 52, 53, 54, 55, 56, 57, 58, 22, 24, 117, 118, 119, 120, 121, 122, 123, 124, 125] (by decide +kernel) (by decide +kernel)
set_option maxRecDepth 20000 in
theorem gX3_doPour_X6_translated : GoodIn wsX3_doPour (wsV RX3 137 RX6 yX6_translated wsX6_translated) := goodIn_app (goodIn_of _ (by decide +kernel)) ggX3_doPour_X6_translated
set_option maxRecDepth 20000 in
theorem ggX3_doPour_X7_fill : GoodIn wsX3_doPour wsX7_fill := goodIn_r _ [62, 63, 53, 54, 55, 64, 65, 43, 42, 66, 37, 38, 39, 40, 41, 67, 68, 69, 70, 22, 23, 24, 138, 139, 140, 141, 142] (by decide +kernel) (by decide +kernel)
set_option maxRecDepth 20000 in
theorem gX3_doPour_X7_fill : GoodIn wsX3_doPour (wsV RX3 145 RX7 yX7_fill wsX7_fill) := goodIn_app (goodIn_of _ (by decide +kernel)) ggX3_doPour_X7_fill
set_option maxRecDepth 20000 in
theorem ggX3_doPour_X3_warn : GoodIn wsX3_doPour wsX3_warn := goodIn_r _ [74, 1, 75, 76, 77, 78, 79, 5, 80, 81, 82, 83, 84, 85, 86, 87, 88, 89, 90, 91, 92, 93, 105, 106, 107, 117, 118, 119, 120, 121, 122, 123, 124, 125, 143, 144] (by decide +kernel) (by decide +kernel)
set_option maxRecDepth 20000 in
theorem gX3_doPour_X3_warn : GoodIn wsX3_doPour (wsV RX3 151 RX3 yX3_warn wsX3_warn) := goodIn_app (goodIn_of _ (by decide +kernel)) ggX3_doPour_X3_warn
set_option maxRecDepth 20000 in
theorem ggX3_doPour_X6_pass : GoodIn wsX3_doPour wsX6_pass := goodIn_r _ [97, 98, 7, 99, 3, 4, 5, 6, 8, 100, 101, 102, 39, 103, 64, 104, 57, 54, 58, 117, 118, 119, 120, 121, 122, 123, 124, 125, 126, 127, 128, 129, 130, 131, 132, 138, 139, 140, 141, 142] (by decide +kernel) (by decide +kernel)
set_option maxRecDepth 20000 in
theorem gX3_doPour_X6_pass : GoodIn wsX3_doPour (wsV RX3 110 RX6 yX6_pass wsX6_pass) := goodIn_app (goodIn_of _ (by decide +kernel)) ggX3_doPour_X6_pass
theorem dX3_doPour_0 : decode cX3_doPour 0 = .ok (.aload_n 0, 1) := by decide +kernel
theorem dX3_doPour_1 : decode cX3_doPour 1 = .ok (.getfield 15, 3) := by decide +kernel
theorem dX3_doPour_4 : decode cX3_doPour 4 = .ok (.aload_n 1, 1) := by decide +kernel
theorem dX3_doPour_5 : decode cX3_doPour 5 = .ok (.getfield 130, 3) := by decide +kernel
theorem dX3_doPour_8 : decode cX3_doPour 8 = .ok (.invokevirtual 133, 3) := by decide +kernel
theorem dX3_doPour_11 : decode cX3_doPour 11 = .ok (.astore_n 2, 1) := by decide +kernel
theorem dX3_doPour_12 : decode cX3_doPour 12 = .ok (.aload_n 2, 1) := by decide +kernel
theorem dX3_doPour_13 : decode cX3_doPour 13 = .ok (.ifnonnull 4, 3) := by decide +kernel
theorem dX3_doPour_16 : decode cX3_doPour 16 = .ok (.return_, 1) := by decide +kernel
theorem dX3_doPour_17 : decode cX3_doPour 17 = .ok (.aload_n 0, 1) := by decide +kernel
theorem dX3_doPour_18 : decode cX3_doPour 18 = .ok (.getfield 15, 3) := by decide +kernel
theorem dX3_doPour_21 : decode cX3_doPour 21 = .ok (.aload_n 0, 1) := by decide +kernel
theorem dX3_doPour_22 : decode cX3_doPour 22 = .ok (.aload_n 1, 1) := by decide +kernel
theorem dX3_doPour_23 : decode cX3_doPour 23 = .ok (.getfield 99, 3) := by decide +kernel
theorem dX3_doPour_26 : decode cX3_doPour 26 = .ok (.iconst 0, 1) := by decide +kernel
theorem dX3_doPour_27 : decode cX3_doPour 27 = .ok (.invokevirtual 102, 3) := by decide +kernel
theorem dX3_doPour_30 : decode cX3_doPour 30 = .ok (.invokevirtual 137, 3) := by decide +kernel
theorem dX3_doPour_33 : decode cX3_doPour 33 = .ok (.istore_n 3, 1) := by decide +kernel
theorem dX3_doPour_34 : decode cX3_doPour 34 = .ok (.aload_n 2, 1) := by decide +kernel
theorem dX3_doPour_35 : decode cX3_doPour 35 = .ok (.iload_n 3, 1) := by decide +kernel
theorem dX3_doPour_36 : decode cX3_doPour 36 = .ok (.aload_n 1, 1) := by decide +kernel
theorem dX3_doPour_37 : decode cX3_doPour 37 = .ok (.getfield 141, 3) := by decide +kernel
theorem dX3_doPour_40 : decode cX3_doPour 40 = .ok (.invokevirtual 145, 3) := by decide +kernel
theorem dX3_doPour_43 : decode cX3_doPour 43 = .ok (.iload_n 3, 1) := by decide +kernel
theorem dX3_doPour_44 : decode cX3_doPour 44 = .ok (.if_icmp .ge 8, 3) := by decide +kernel
theorem dX3_doPour_47 : decode cX3_doPour 47 = .ok (.aload_n 0, 1) := by decide +kernel
theorem dX3_doPour_48 : decode cX3_doPour 48 = .ok (.iconst 1, 1) := by decide +kernel
theorem dX3_doPour_49 : decode cX3_doPour 49 = .ok (.invokevirtual 151, 3) := by decide +kernel
theorem dX3_doPour_52 : decode cX3_doPour 52 = .ok (.aload_n 0, 1) := by decide +kernel
theorem dX3_doPour_53 : decode cX3_doPour 53 = .ok (.getfield 15, 3) := by decide +kernel
theorem dX3_doPour_56 : decode cX3_doPour 56 = .ok (.iconst 1, 1) := by decide +kernel
theorem dX3_doPour_57 : decode cX3_doPour 57 = .ok (.aload_n 2, 1) := by decide +kernel
theorem dX3_doPour_58 : decode cX3_doPour 58 = .ok (.invokevirtual 110, 3) := by decide +kernel
theorem dX3_doPour_61 : decode cX3_doPour 61 = .ok (.return_, 1) := by decide +kernel
set_option maxRecDepth 20000 in
theorem ggX3_doHeat_X6_panAt : GoodIn wsX3_doHeat wsX6_panAt := goodIn_r _ [10, 11, 12, 106, 107, 108, 109, 110, 111, 112, 113, 114, 115, 116, 117, 118, 119, 120, 121] (by decide +kernel) (by decide +kernel)
set_option maxRecDepth 20000 in
theorem gX3_doHeat_X6_panAt : GoodIn wsX3_doHeat (wsV RX3 133 RX6 yX6_panAt wsX6_panAt) := goodIn_app (goodIn_of _ (by decide +kernel)) ggX3_doHeat_X6_panAt
set_option maxRecDepth 20000 in
theorem ggX3_doHeat_X7_inside : GoodIn wsX3_doHeat wsX7_inside := goodIn_r _ [17, 18, 19, 101, 102, 103, 104, 105] (by decide +kernel) (by decide +kernel)
set_option maxRecDepth 20000 in
theorem gX3_doHeat_X7_inside : GoodIn wsX3_doHeat (wsV RX3 154 RX7 yX7_inside wsX7_inside) := goodIn_app (goodIn_of _ (by decide +kernel)) ggX3_doHeat_X7_inside
set_option maxRecDepth 20000 in
theorem ggX3_doHeat_X3_warn : GoodIn wsX3_doHeat wsX3_warn := goodIn_r _ [24, 1, 25, 26, 27, 28, 29, 9, 30, 31, 32, 33, 34, 35, 36, 37, 38, 39, 40, 41, 42, 43, 89, 90, 91, 106, 107, 108, 109, 110, 111, 112, 113, 114, 122, 123] (by decide +kernel) (by decide +kernel)
set_option maxRecDepth 20000 in
theorem gX3_doHeat_X3_warn : GoodIn wsX3_doHeat (wsV RX3 151 RX3 yX3_warn wsX3_warn) := goodIn_app (goodIn_of _ (by decide +kernel)) ggX3_doHeat_X3_warn
set_option maxRecDepth 20000 in
theorem ggX3_doHeat_X3_worth : GoodIn wsX3_doHeat wsX3_worth := goodIn_r _ [47, 48, 1, 49, 50, 51, 52, 53, 54, 55, 44, 45, 46, 23, 56, 57, 58, 59, 60, 61, 9, 62, 63, 64, 65, 66, 6, 7, 8, 10, 11, 12, 67, 68, 69, 70, 71, 72, 16, 73, 74, 18, 19, 124, 125, 126, 127, 128, 89, 90, 91, 106, 107, 108, 109, 110, 111, 112, 113, 114, 115, 116, 117, 118, 119, 120, 121, 101, 102, 103, 104, 105] (by decide +kernel) (by decide +kernel)
set_option maxRecDepth 20000 in
theorem gX3_doHeat_X3_worth : GoodIn wsX3_doHeat (wsV RX3 102 RX3 yX3_worth wsX3_worth) := goodIn_app (goodIn_of _ (by decide +kernel)) ggX3_doHeat_X3_worth
set_option maxRecDepth 20000 in
theorem ggX3_doHeat_X6_boilingHeat : GoodIn wsX3_doHeat wsX6_boilingHeat := goodIn_r _ [62, 63, 64, 65, 9, 66, 106, 107, 108, 109, 110, 111, 112, 113, 114] (by decide +kernel) (by decide +kernel)
set_option maxRecDepth 20000 in
theorem gX3_doHeat_X6_boilingHeat : GoodIn wsX3_doHeat (wsV RX3 157 RX6 yX6_boilingHeat wsX6_boilingHeat) := goodIn_app (goodIn_of _ (by decide +kernel)) ggX3_doHeat_X6_boilingHeat
set_option maxRecDepth 20000 in
theorem ggX3_doHeat_X6_pass : GoodIn wsX3_doHeat wsX6_pass := goodIn_r _ [78, 79, 11, 80, 7, 8, 9, 10, 12, 81, 82, 83, 16, 84, 85, 86, 87, 4, 88, 106, 107, 108, 109, 110, 111, 112, 113, 114, 115, 116, 117, 118, 119, 120, 121, 101, 102, 103, 104, 105] (by decide +kernel) (by decide +kernel)
set_option maxRecDepth 20000 in
theorem gX3_doHeat_X6_pass : GoodIn wsX3_doHeat (wsV RX3 110 RX6 yX6_pass wsX6_pass) := goodIn_app (goodIn_of _ (by decide +kernel)) ggX3_doHeat_X6_pass
theorem dX3_doHeat_0 : decode cX3_doHeat 0 = .ok (.aload_n 0, 1) := by decide +kernel
theorem dX3_doHeat_1 : decode cX3_doHeat 1 = .ok (.getfield 15, 3) := by decide +kernel
theorem dX3_doHeat_4 : decode cX3_doHeat 4 = .ok (.aload_n 1, 1) := by decide +kernel
theorem dX3_doHeat_5 : decode cX3_doHeat 5 = .ok (.getfield 130, 3) := by decide +kernel
theorem dX3_doHeat_8 : decode cX3_doHeat 8 = .ok (.invokevirtual 133, 3) := by decide +kernel
theorem dX3_doHeat_11 : decode cX3_doHeat 11 = .ok (.astore_n 2, 1) := by decide +kernel
theorem dX3_doHeat_12 : decode cX3_doHeat 12 = .ok (.aload_n 2, 1) := by decide +kernel
theorem dX3_doHeat_13 : decode cX3_doHeat 13 = .ok (.ifnull 10, 3) := by decide +kernel
theorem dX3_doHeat_16 : decode cX3_doHeat 16 = .ok (.aload_n 2, 1) := by decide +kernel
theorem dX3_doHeat_17 : decode cX3_doHeat 17 = .ok (.invokevirtual 154, 3) := by decide +kernel
theorem dX3_doHeat_20 : decode cX3_doHeat 20 = .ok (.ifCond .ne 9, 3) := by decide +kernel
theorem dX3_doHeat_23 : decode cX3_doHeat 23 = .ok (.aload_n 0, 1) := by decide +kernel
theorem dX3_doHeat_24 : decode cX3_doHeat 24 = .ok (.iconst 3, 1) := by decide +kernel
theorem dX3_doHeat_25 : decode cX3_doHeat 25 = .ok (.invokevirtual 151, 3) := by decide +kernel
theorem dX3_doHeat_28 : decode cX3_doHeat 28 = .ok (.return_, 1) := by decide +kernel
theorem dX3_doHeat_29 : decode cX3_doHeat 29 = .ok (.aload_n 0, 1) := by decide +kernel
theorem dX3_doHeat_30 : decode cX3_doHeat 30 = .ok (.aload_n 1, 1) := by decide +kernel
theorem dX3_doHeat_31 : decode cX3_doHeat 31 = .ok (.getfield 99, 3) := by decide +kernel
theorem dX3_doHeat_34 : decode cX3_doHeat 34 = .ok (.iconst 0, 1) := by decide +kernel
theorem dX3_doHeat_35 : decode cX3_doHeat 35 = .ok (.invokevirtual 102, 3) := by decide +kernel
theorem dX3_doHeat_38 : decode cX3_doHeat 38 = .ok (.istore_n 3, 1) := by decide +kernel
theorem dX3_doHeat_39 : decode cX3_doHeat 39 = .ok (.aload_n 0, 1) := by decide +kernel
theorem dX3_doHeat_40 : decode cX3_doHeat 40 = .ok (.getfield 15, 3) := by decide +kernel
theorem dX3_doHeat_43 : decode cX3_doHeat 43 = .ok (.invokevirtual 157, 3) := by decide +kernel
theorem dX3_doHeat_46 : decode cX3_doHeat 46 = .ok (.istore 4, 2) := by decide +kernel
theorem dX3_doHeat_48 : decode cX3_doHeat 48 = .ok (.iload_n 3, 1) := by decide +kernel
theorem dX3_doHeat_49 : decode cX3_doHeat 49 = .ok (.iload 4, 2) := by decide +kernel
theorem dX3_doHeat_51 : decode cX3_doHeat 51 = .ok (.if_icmp .le 8, 3) := by decide +kernel
theorem dX3_doHeat_54 : decode cX3_doHeat 54 = .ok (.aload_n 0, 1) := by decide +kernel
theorem dX3_doHeat_55 : decode cX3_doHeat 55 = .ok (.iconst 2, 1) := by decide +kernel
theorem dX3_doHeat_56 : decode cX3_doHeat 56 = .ok (.invokevirtual 151, 3) := by decide +kernel
theorem dX3_doHeat_59 : decode cX3_doHeat 59 = .ok (.iload_n 3, 1) := by decide +kernel
theorem dX3_doHeat_60 : decode cX3_doHeat 60 = .ok (.iload 4, 2) := by decide +kernel
theorem dX3_doHeat_62 : decode cX3_doHeat 62 = .ok (.invokestatic 124, 3) := by decide +kernel
theorem dX3_doHeat_65 : decode cX3_doHeat 65 = .ok (.istore 5, 2) := by decide +kernel
theorem dX3_doHeat_67 : decode cX3_doHeat 67 = .ok (.aload_n 2, 1) := by decide +kernel
theorem dX3_doHeat_68 : decode cX3_doHeat 68 = .ok (.getfield 160, 3) := by decide +kernel
theorem dX3_doHeat_71 : decode cX3_doHeat 71 = .ok (.iload 5, 2) := by decide +kernel
theorem dX3_doHeat_73 : decode cX3_doHeat 73 = .ok (.if_icmp .ge 34, 3) := by decide +kernel
theorem dX3_doHeat_76 : decode cX3_doHeat 76 = .ok (.iload 5, 2) := by decide +kernel
theorem dX3_doHeat_78 : decode cX3_doHeat 78 = .ok (.aload_n 2, 1) := by decide +kernel
theorem dX3_doHeat_79 : decode cX3_doHeat 79 = .ok (.getfield 160, 3) := by decide +kernel
theorem dX3_doHeat_82 : decode cX3_doHeat 82 = .ok (.isub, 1) := by decide +kernel
theorem dX3_doHeat_83 : decode cX3_doHeat 83 = .ok (.bipush 9, 2) := by decide +kernel
theorem dX3_doHeat_85 : decode cX3_doHeat 85 = .ok (.iadd, 1) := by decide +kernel
theorem dX3_doHeat_86 : decode cX3_doHeat 86 = .ok (.bipush 10, 2) := by decide +kernel
theorem dX3_doHeat_88 : decode cX3_doHeat 88 = .ok (.idiv, 1) := by decide +kernel
theorem dX3_doHeat_89 : decode cX3_doHeat 89 = .ok (.istore 6, 2) := by decide +kernel
theorem dX3_doHeat_91 : decode cX3_doHeat 91 = .ok (.aload_n 2, 1) := by decide +kernel
theorem dX3_doHeat_92 : decode cX3_doHeat 92 = .ok (.iload 5, 2) := by decide +kernel
theorem dX3_doHeat_94 : decode cX3_doHeat 94 = .ok (.putfield 160, 3) := by decide +kernel
theorem dX3_doHeat_97 : decode cX3_doHeat 97 = .ok (.aload_n 0, 1) := by decide +kernel
theorem dX3_doHeat_98 : decode cX3_doHeat 98 = .ok (.getfield 15, 3) := by decide +kernel
theorem dX3_doHeat_101 : decode cX3_doHeat 101 = .ok (.iload 6, 2) := by decide +kernel
theorem dX3_doHeat_103 : decode cX3_doHeat 103 = .ok (.aload_n 2, 1) := by decide +kernel
theorem dX3_doHeat_104 : decode cX3_doHeat 104 = .ok (.invokevirtual 110, 3) := by decide +kernel
theorem dX3_doHeat_107 : decode cX3_doHeat 107 = .ok (.return_, 1) := by decide +kernel
set_option maxRecDepth 20000 in
theorem ggX3_doBoil_X6_panAt : GoodIn wsX3_doBoil wsX6_panAt := goodIn_r _ [10, 11, 12, 113, 114, 115, 116, 117, 118, 119, 120, 121, 122, 123, 124, 125, 126, 127, 128] (by decide +kernel) (by decide +kernel)
set_option maxRecDepth 20000 in
theorem gX3_doBoil_X6_panAt : GoodIn wsX3_doBoil (wsV RX3 133 RX6 yX6_panAt wsX6_panAt) := goodIn_app (goodIn_of _ (by decide +kernel)) ggX3_doBoil_X6_panAt
set_option maxRecDepth 20000 in
theorem ggX3_doBoil_X6_boilingHeat : GoodIn wsX3_doBoil wsX6_boilingHeat := goodIn_r _ [16, 17, 18, 19, 9, 20, 113, 114, 115, 116, 117, 118, 119, 120, 121] (by decide +kernel) (by decide +kernel)
set_option maxRecDepth 20000 in
theorem gX3_doBoil_X6_boilingHeat : GoodIn wsX3_doBoil (wsV RX3 157 RX6 yX6_boilingHeat wsX6_boilingHeat) := goodIn_app (goodIn_of _ (by decide +kernel)) ggX3_doBoil_X6_boilingHeat
set_option maxRecDepth 20000 in
theorem ggX3_doBoil_X3_warn : GoodIn wsX3_doBoil wsX3_warn := goodIn_r _ [25, 1, 26, 27, 28, 29, 30, 9, 31, 32, 33, 34, 35, 36, 37, 38, 39, 40, 41, 42, 43, 44, 96, 97, 98, 113, 114, 115, 116, 117, 118, 119, 120, 121, 129, 130] (by decide +kernel) (by decide +kernel)
set_option maxRecDepth 20000 in
theorem gX3_doBoil_X3_warn : GoodIn wsX3_doBoil (wsV RX3 151 RX3 yX3_warn wsX3_warn) := goodIn_app (goodIn_of _ (by decide +kernel)) ggX3_doBoil_X3_warn
set_option maxRecDepth 20000 in
theorem ggX3_doBoil_X3_worth : GoodIn wsX3_doBoil wsX3_worth := goodIn_r _ [48, 49, 1, 50, 51, 52, 53, 54, 55, 56, 45, 46, 47, 24, 57, 58, 59, 13, 14, 15, 9, 16, 17, 18, 19, 20, 6, 7, 8, 10, 11, 12, 60, 61, 62, 63, 64, 65, 66, 67, 68, 69, 70, 131, 132, 133, 134, 135, 96, 97, 98, 113, 114, 115, 116, 117, 118, 119, 120, 121, 122, 123, 124, 125, 126, 127, 128, 108, 109, 110, 111, 112] (by decide +kernel) (by decide +kernel)
set_option maxRecDepth 20000 in
theorem gX3_doBoil_X3_worth : GoodIn wsX3_doBoil (wsV RX3 102 RX3 yX3_worth wsX3_worth) := goodIn_app (goodIn_of _ (by decide +kernel)) ggX3_doBoil_X3_worth
set_option maxRecDepth 20000 in
theorem ggX3_doBoil_X12_clamped : GoodIn wsX3_doBoil wsX12_clamped := goodIn_r _ [72, 73, 3, 4, 5, 74, 75, 76] (by decide +kernel) (by decide +kernel)
set_option maxRecDepth 20000 in
theorem gX3_doBoil_X12_clamped_n106 : GoodIn wsX3_doBoil (wsX12_clamped) := ggX3_doBoil_X12_clamped
set_option maxRecDepth 20000 in
theorem ggX3_doBoil_X6_boilingMinutes : GoodIn wsX3_doBoil wsX6_boilingMinutes := goodIn_r _ [79, 80, 81, 9, 82, 18, 19, 20] (by decide +kernel) (by decide +kernel)
set_option maxRecDepth 20000 in
theorem gX3_doBoil_X6_boilingMinutes : GoodIn wsX3_doBoil (va_wsS RX3 169 yX6_boilingMinutes wsX6_boilingMinutes) := goodIn_app (goodIn_of _ (by decide +kernel)) ggX3_doBoil_X6_boilingMinutes
set_option maxRecDepth 20000 in
theorem ggX3_doBoil_X6_slowness : GoodIn wsX3_doBoil wsX6_slowness := goodIn_r _ [82, 18, 19, 9, 20] (by decide +kernel) (by decide +kernel)
set_option maxRecDepth 20000 in
theorem gX3_doBoil_X6_slowness : GoodIn wsX3_doBoil (va_wsS RX3 175 yX6_slowness wsX6_slowness) := goodIn_app (goodIn_of _ (by decide +kernel)) ggX3_doBoil_X6_slowness
set_option maxRecDepth 20000 in
theorem ggX3_doBoil_X12_quotient : GoodIn wsX3_doBoil wsX12_quotient := goodIn_r _ [59] (by decide +kernel) (by decide +kernel)
set_option maxRecDepth 20000 in
theorem gX3_doBoil_X12_quotient_n178 : GoodIn wsX3_doBoil (wsX12_quotient) := ggX3_doBoil_X12_quotient
set_option maxRecDepth 20000 in
theorem ggX3_doBoil_X6_pass : GoodIn wsX3_doBoil wsX6_pass := goodIn_r _ [87, 88, 11, 89, 7, 8, 9, 10, 12, 90, 91, 92, 66, 93, 94, 95, 75, 4, 76, 113, 114, 115, 116, 117, 118, 119, 120, 121, 122, 123, 124, 125, 126, 127, 128, 108, 109, 110, 111, 112] (by decide +kernel) (by decide +kernel)
set_option maxRecDepth 20000 in
theorem gX3_doBoil_X6_pass : GoodIn wsX3_doBoil (wsV RX3 110 RX6 yX6_pass wsX6_pass) := goodIn_app (goodIn_of _ (by decide +kernel)) ggX3_doBoil_X6_pass
theorem dX3_doBoil_0 : decode cX3_doBoil 0 = .ok (.aload_n 0, 1) := by decide +kernel
theorem dX3_doBoil_1 : decode cX3_doBoil 1 = .ok (.getfield 15, 3) := by decide +kernel
theorem dX3_doBoil_4 : decode cX3_doBoil 4 = .ok (.aload_n 1, 1) := by decide +kernel
theorem dX3_doBoil_5 : decode cX3_doBoil 5 = .ok (.getfield 130, 3) := by decide +kernel
theorem dX3_doBoil_8 : decode cX3_doBoil 8 = .ok (.invokevirtual 133, 3) := by decide +kernel
theorem dX3_doBoil_11 : decode cX3_doBoil 11 = .ok (.astore_n 2, 1) := by decide +kernel
theorem dX3_doBoil_12 : decode cX3_doBoil 12 = .ok (.aload_n 2, 1) := by decide +kernel
theorem dX3_doBoil_13 : decode cX3_doBoil 13 = .ok (.ifnull 24, 3) := by decide +kernel
theorem dX3_doBoil_16 : decode cX3_doBoil 16 = .ok (.aload_n 2, 1) := by decide +kernel
theorem dX3_doBoil_17 : decode cX3_doBoil 17 = .ok (.getfield 163, 3) := by decide +kernel
theorem dX3_doBoil_20 : decode cX3_doBoil 20 = .ok (.ifCond .eq 17, 3) := by decide +kernel
theorem dX3_doBoil_23 : decode cX3_doBoil 23 = .ok (.aload_n 2, 1) := by decide +kernel
theorem dX3_doBoil_24 : decode cX3_doBoil 24 = .ok (.getfield 160, 3) := by decide +kernel
theorem dX3_doBoil_27 : decode cX3_doBoil 27 = .ok (.aload_n 0, 1) := by decide +kernel
theorem dX3_doBoil_28 : decode cX3_doBoil 28 = .ok (.getfield 15, 3) := by decide +kernel
theorem dX3_doBoil_31 : decode cX3_doBoil 31 = .ok (.invokevirtual 157, 3) := by decide +kernel
theorem dX3_doBoil_34 : decode cX3_doBoil 34 = .ok (.if_icmp .ge 9, 3) := by decide +kernel
theorem dX3_doBoil_37 : decode cX3_doBoil 37 = .ok (.aload_n 0, 1) := by decide +kernel
theorem dX3_doBoil_38 : decode cX3_doBoil 38 = .ok (.iconst 4, 1) := by decide +kernel
theorem dX3_doBoil_39 : decode cX3_doBoil 39 = .ok (.invokevirtual 151, 3) := by decide +kernel
theorem dX3_doBoil_42 : decode cX3_doBoil 42 = .ok (.return_, 1) := by decide +kernel
theorem dX3_doBoil_43 : decode cX3_doBoil 43 = .ok (.aload_n 0, 1) := by decide +kernel
theorem dX3_doBoil_44 : decode cX3_doBoil 44 = .ok (.aload_n 1, 1) := by decide +kernel
theorem dX3_doBoil_45 : decode cX3_doBoil 45 = .ok (.getfield 99, 3) := by decide +kernel
theorem dX3_doBoil_48 : decode cX3_doBoil 48 = .ok (.iconst 0, 1) := by decide +kernel
theorem dX3_doBoil_49 : decode cX3_doBoil 49 = .ok (.invokevirtual 102, 3) := by decide +kernel
theorem dX3_doBoil_52 : decode cX3_doBoil 52 = .ok (.iconst 0, 1) := by decide +kernel
theorem dX3_doBoil_53 : decode cX3_doBoil 53 = .ok (.sipush 999, 3) := by decide +kernel
theorem dX3_doBoil_56 : decode cX3_doBoil 56 = .ok (.invokestatic 106, 3) := by decide +kernel
theorem dX3_doBoil_59 : decode cX3_doBoil 59 = .ok (.istore_n 3, 1) := by decide +kernel
theorem dX3_doBoil_60 : decode cX3_doBoil 60 = .ok (.iload_n 3, 1) := by decide +kernel
theorem dX3_doBoil_61 : decode cX3_doBoil 61 = .ok (.aload_n 0, 1) := by decide +kernel
theorem dX3_doBoil_62 : decode cX3_doBoil 62 = .ok (.getfield 15, 3) := by decide +kernel
theorem dX3_doBoil_65 : decode cX3_doBoil 65 = .ok (.getfield 166, 3) := by decide +kernel
theorem dX3_doBoil_68 : decode cX3_doBoil 68 = .ok (.invokestatic 169, 3) := by decide +kernel
theorem dX3_doBoil_71 : decode cX3_doBoil 71 = .ok (.istore 4, 2) := by decide +kernel
theorem dX3_doBoil_73 : decode cX3_doBoil 73 = .ok (.iconst 5, 1) := by decide +kernel
theorem dX3_doBoil_74 : decode cX3_doBoil 74 = .ok (.aload_n 2, 1) := by decide +kernel
theorem dX3_doBoil_75 : decode cX3_doBoil 75 = .ok (.getfield 163, 3) := by decide +kernel
theorem dX3_doBoil_78 : decode cX3_doBoil 78 = .ok (.imul, 1) := by decide +kernel
theorem dX3_doBoil_79 : decode cX3_doBoil 79 = .ok (.istore 5, 2) := by decide +kernel
theorem dX3_doBoil_81 : decode cX3_doBoil 81 = .ok (.iload 4, 2) := by decide +kernel
theorem dX3_doBoil_83 : decode cX3_doBoil 83 = .ok (.iload 5, 2) := by decide +kernel
theorem dX3_doBoil_85 : decode cX3_doBoil 85 = .ok (.if_icmp .le 8, 3) := by decide +kernel
theorem dX3_doBoil_88 : decode cX3_doBoil 88 = .ok (.aload_n 0, 1) := by decide +kernel
theorem dX3_doBoil_89 : decode cX3_doBoil 89 = .ok (.iconst 5, 1) := by decide +kernel
theorem dX3_doBoil_90 : decode cX3_doBoil 90 = .ok (.invokevirtual 151, 3) := by decide +kernel
theorem dX3_doBoil_93 : decode cX3_doBoil 93 = .ok (.iload 4, 2) := by decide +kernel
theorem dX3_doBoil_95 : decode cX3_doBoil 95 = .ok (.iload 5, 2) := by decide +kernel
theorem dX3_doBoil_97 : decode cX3_doBoil 97 = .ok (.invokestatic 124, 3) := by decide +kernel
theorem dX3_doBoil_100 : decode cX3_doBoil 100 = .ok (.istore 6, 2) := by decide +kernel
theorem dX3_doBoil_102 : decode cX3_doBoil 102 = .ok (.aload_n 2, 1) := by decide +kernel
theorem dX3_doBoil_103 : decode cX3_doBoil 103 = .ok (.dup, 1) := by decide +kernel
theorem dX3_doBoil_104 : decode cX3_doBoil 104 = .ok (.getfield 163, 3) := by decide +kernel
theorem dX3_doBoil_107 : decode cX3_doBoil 107 = .ok (.iload 6, 2) := by decide +kernel
theorem dX3_doBoil_109 : decode cX3_doBoil 109 = .ok (.iconst 5, 1) := by decide +kernel
theorem dX3_doBoil_110 : decode cX3_doBoil 110 = .ok (.idiv, 1) := by decide +kernel
theorem dX3_doBoil_111 : decode cX3_doBoil 111 = .ok (.isub, 1) := by decide +kernel
theorem dX3_doBoil_112 : decode cX3_doBoil 112 = .ok (.putfield 163, 3) := by decide +kernel
theorem dX3_doBoil_115 : decode cX3_doBoil 115 = .ok (.aload_n 2, 1) := by decide +kernel
theorem dX3_doBoil_116 : decode cX3_doBoil 116 = .ok (.getfield 172, 3) := by decide +kernel
theorem dX3_doBoil_119 : decode cX3_doBoil 119 = .ok (.ifCond .le 39, 3) := by decide +kernel
theorem dX3_doBoil_122 : decode cX3_doBoil 122 = .ok (.iload 6, 2) := by decide +kernel
theorem dX3_doBoil_124 : decode cX3_doBoil 124 = .ok (.bipush 100, 2) := by decide +kernel
theorem dX3_doBoil_126 : decode cX3_doBoil 126 = .ok (.imul, 1) := by decide +kernel
theorem dX3_doBoil_127 : decode cX3_doBoil 127 = .ok (.aload_n 0, 1) := by decide +kernel
theorem dX3_doBoil_128 : decode cX3_doBoil 128 = .ok (.getfield 15, 3) := by decide +kernel
theorem dX3_doBoil_131 : decode cX3_doBoil 131 = .ok (.getfield 166, 3) := by decide +kernel
theorem dX3_doBoil_134 : decode cX3_doBoil 134 = .ok (.invokestatic 175, 3) := by decide +kernel
theorem dX3_doBoil_137 : decode cX3_doBoil 137 = .ok (.invokestatic 178, 3) := by decide +kernel
theorem dX3_doBoil_140 : decode cX3_doBoil 140 = .ok (.istore 7, 2) := by decide +kernel
theorem dX3_doBoil_142 : decode cX3_doBoil 142 = .ok (.aload_n 2, 1) := by decide +kernel
theorem dX3_doBoil_143 : decode cX3_doBoil 143 = .ok (.bipush 100, 2) := by decide +kernel
theorem dX3_doBoil_145 : decode cX3_doBoil 145 = .ok (.aload_n 2, 1) := by decide +kernel
theorem dX3_doBoil_146 : decode cX3_doBoil 146 = .ok (.getfield 181, 3) := by decide +kernel
theorem dX3_doBoil_149 : decode cX3_doBoil 149 = .ok (.iload 7, 2) := by decide +kernel
theorem dX3_doBoil_151 : decode cX3_doBoil 151 = .ok (.iadd, 1) := by decide +kernel
theorem dX3_doBoil_152 : decode cX3_doBoil 152 = .ok (.invokestatic 124, 3) := by decide +kernel
theorem dX3_doBoil_155 : decode cX3_doBoil 155 = .ok (.putfield 181, 3) := by decide +kernel
theorem dX3_doBoil_158 : decode cX3_doBoil 158 = .ok (.aload_n 2, 1) := by decide +kernel
theorem dX3_doBoil_159 : decode cX3_doBoil 159 = .ok (.aload_n 0, 1) := by decide +kernel
theorem dX3_doBoil_160 : decode cX3_doBoil 160 = .ok (.getfield 15, 3) := by decide +kernel
theorem dX3_doBoil_163 : decode cX3_doBoil 163 = .ok (.invokevirtual 157, 3) := by decide +kernel
theorem dX3_doBoil_166 : decode cX3_doBoil 166 = .ok (.putfield 160, 3) := by decide +kernel
theorem dX3_doBoil_169 : decode cX3_doBoil 169 = .ok (.aload_n 0, 1) := by decide +kernel
theorem dX3_doBoil_170 : decode cX3_doBoil 170 = .ok (.getfield 15, 3) := by decide +kernel
theorem dX3_doBoil_173 : decode cX3_doBoil 173 = .ok (.iload 6, 2) := by decide +kernel
theorem dX3_doBoil_175 : decode cX3_doBoil 175 = .ok (.aload_n 2, 1) := by decide +kernel
theorem dX3_doBoil_176 : decode cX3_doBoil 176 = .ok (.invokevirtual 110, 3) := by decide +kernel
theorem dX3_doBoil_179 : decode cX3_doBoil 179 = .ok (.return_, 1) := by decide +kernel
set_option maxRecDepth 20000 in
theorem ggX3_doEmpty_X6_panAt : GoodIn wsX3_doEmpty wsX6_panAt := goodIn_r _ [6, 7, 8, 44, 45, 46, 47, 48, 49, 50, 51, 52, 53, 54, 55, 56, 57, 58, 59] (by decide +kernel) (by decide +kernel)
set_option maxRecDepth 20000 in
theorem gX3_doEmpty_X6_panAt : GoodIn wsX3_doEmpty (wsV RX3 133 RX6 yX6_panAt wsX6_panAt) := goodIn_app (goodIn_of _ (by decide +kernel)) ggX3_doEmpty_X6_panAt
set_option maxRecDepth 20000 in
theorem ggX3_doEmpty_X7_clear : GoodIn wsX3_doEmpty wsX7_clear := goodIn_r _ [13, 14, 15, 16, 17, 60, 61, 62, 63, 64] (by decide +kernel) (by decide +kernel)
set_option maxRecDepth 20000 in
theorem gX3_doEmpty_X7_clear : GoodIn wsX3_doEmpty (wsV RX3 184 RX7 yX7_clear wsX7_clear) := goodIn_app (goodIn_of _ (by decide +kernel)) ggX3_doEmpty_X7_clear
set_option maxRecDepth 20000 in
theorem ggX3_doEmpty_X6_pass : GoodIn wsX3_doEmpty wsX6_pass := goodIn_r _ [21, 22, 7, 23, 3, 4, 5, 6, 8, 24, 25, 26, 12, 27, 16, 28, 29, 30, 31, 44, 45, 46, 47, 48, 49, 50, 51, 52, 53, 54, 55, 56, 57, 58, 59, 60, 61, 62, 63, 64] (by decide +kernel) (by decide +kernel)
set_option maxRecDepth 20000 in
theorem gX3_doEmpty_X6_pass : GoodIn wsX3_doEmpty (wsV RX3 110 RX6 yX6_pass wsX6_pass) := goodIn_app (goodIn_of _ (by decide +kernel)) ggX3_doEmpty_X6_pass
theorem dX3_doEmpty_0 : decode cX3_doEmpty 0 = .ok (.aload_n 0, 1) := by decide +kernel
theorem dX3_doEmpty_1 : decode cX3_doEmpty 1 = .ok (.getfield 15, 3) := by decide +kernel
theorem dX3_doEmpty_4 : decode cX3_doEmpty 4 = .ok (.aload_n 1, 1) := by decide +kernel
theorem dX3_doEmpty_5 : decode cX3_doEmpty 5 = .ok (.getfield 130, 3) := by decide +kernel
theorem dX3_doEmpty_8 : decode cX3_doEmpty 8 = .ok (.invokevirtual 133, 3) := by decide +kernel
theorem dX3_doEmpty_11 : decode cX3_doEmpty 11 = .ok (.astore_n 2, 1) := by decide +kernel
theorem dX3_doEmpty_12 : decode cX3_doEmpty 12 = .ok (.aload_n 2, 1) := by decide +kernel
theorem dX3_doEmpty_13 : decode cX3_doEmpty 13 = .ok (.ifnull 7, 3) := by decide +kernel
theorem dX3_doEmpty_16 : decode cX3_doEmpty 16 = .ok (.aload_n 2, 1) := by decide +kernel
theorem dX3_doEmpty_17 : decode cX3_doEmpty 17 = .ok (.invokevirtual 184, 3) := by decide +kernel
theorem dX3_doEmpty_20 : decode cX3_doEmpty 20 = .ok (.aload_n 0, 1) := by decide +kernel
theorem dX3_doEmpty_21 : decode cX3_doEmpty 21 = .ok (.getfield 15, 3) := by decide +kernel
theorem dX3_doEmpty_24 : decode cX3_doEmpty 24 = .ok (.iconst 1, 1) := by decide +kernel
theorem dX3_doEmpty_25 : decode cX3_doEmpty 25 = .ok (.aload_n 2, 1) := by decide +kernel
theorem dX3_doEmpty_26 : decode cX3_doEmpty 26 = .ok (.invokevirtual 110, 3) := by decide +kernel
theorem dX3_doEmpty_29 : decode cX3_doEmpty 29 = .ok (.return_, 1) := by decide +kernel
set_option maxRecDepth 20000 in
theorem ggX3_warn_X6_warn : GoodIn wsX3_warn wsX6_warn := goodIn_r _ [8, 9, 10, 11, 12, 13, 14, 15, 16, 17, 18, 19, 20, 21, 25, 26, 27, 28, 29, 30, 31, 32, 33, 34, 35] (by decide +kernel) (by decide +kernel)
set_option maxRecDepth 20000 in
theorem gX3_warn_X6_warn : GoodIn wsX3_warn (wsV RX3 187 RX6 yX6_warn wsX6_warn) := goodIn_app (goodIn_of _ (by decide +kernel)) ggX3_warn_X6_warn
theorem dX3_warn_0 : decode cX3_warn 0 = .ok (.aload_n 0, 1) := by decide +kernel
theorem dX3_warn_1 : decode cX3_warn 1 = .ok (.getfield 15, 3) := by decide +kernel
theorem dX3_warn_4 : decode cX3_warn 4 = .ok (.iload_n 1, 1) := by decide +kernel
theorem dX3_warn_5 : decode cX3_warn 5 = .ok (.invokevirtual 187, 3) := by decide +kernel
theorem dX3_warn_8 : decode cX3_warn 8 = .ok (.aload_n 0, 1) := by decide +kernel
theorem dX3_warn_9 : decode cX3_warn 9 = .ok (.getfield 9, 3) := by decide +kernel
theorem dX3_warn_12 : decode cX3_warn 12 = .ok (.ifCond .ge 11, 3) := by decide +kernel
theorem dX3_warn_15 : decode cX3_warn 15 = .ok (.aload_n 0, 1) := by decide +kernel
theorem dX3_warn_16 : decode cX3_warn 16 = .ok (.aload_n 0, 1) := by decide +kernel
theorem dX3_warn_17 : decode cX3_warn 17 = .ok (.getfield 19, 3) := by decide +kernel
theorem dX3_warn_20 : decode cX3_warn 20 = .ok (.putfield 9, 3) := by decide +kernel
theorem dX3_warn_23 : decode cX3_warn 23 = .ok (.return_, 1) := by decide +kernel
set_option maxRecDepth 20000 in
theorem ggX3_allAreSo_X3_worth : GoodIn wsX3_allAreSo wsX3_worth := goodIn_r _ [8, 9, 10, 11, 12, 13, 14, 15, 16, 17, 4, 5, 6, 7, 18, 19, 20, 21, 22, 23, 24, 25, 26, 27, 28, 29, 30, 31, 32, 33, 34, 35, 36, 37, 38, 39, 40, 41, 42, 43, 44, 45, 46, 47, 48, 49, 50, 51, 52, 53, 54, 55, 56, 57, 58, 59, 60, 61, 62, 63, 64, 65, 66, 67, 68, 69, 70, 71, 72, 73, 74, 75] (by decide +kernel) (by decide +kernel)
set_option maxRecDepth 20000 in
theorem gX3_allAreSo_X3_worth : GoodIn wsX3_allAreSo (wsV RX3 102 RX3 yX3_worth wsX3_worth) := goodIn_app (goodIn_of _ (by decide +kernel)) ggX3_allAreSo_X3_worth
theorem dX3_allAreSo_0 : decode cX3_allAreSo 0 = .ok (.aload_n 1, 1) := by decide +kernel
theorem dX3_allAreSo_1 : decode cX3_allAreSo 1 = .ok (.astore_n 2, 1) := by decide +kernel
theorem dX3_allAreSo_2 : decode cX3_allAreSo 2 = .ok (.aload_n 2, 1) := by decide +kernel
theorem dX3_allAreSo_3 : decode cX3_allAreSo 3 = .ok (.ifnull 94, 3) := by decide +kernel
theorem dX3_allAreSo_6 : decode cX3_allAreSo 6 = .ok (.aload_n 0, 1) := by decide +kernel
theorem dX3_allAreSo_7 : decode cX3_allAreSo 7 = .ok (.aload_n 2, 1) := by decide +kernel
theorem dX3_allAreSo_8 : decode cX3_allAreSo 8 = .ok (.getfield 188, 3) := by decide +kernel
theorem dX3_allAreSo_11 : decode cX3_allAreSo 11 = .ok (.iconst 0, 1) := by decide +kernel
theorem dX3_allAreSo_12 : decode cX3_allAreSo 12 = .ok (.invokevirtual 102, 3) := by decide +kernel
theorem dX3_allAreSo_15 : decode cX3_allAreSo 15 = .ok (.istore_n 3, 1) := by decide +kernel
theorem dX3_allAreSo_16 : decode cX3_allAreSo 16 = .ok (.aload_n 0, 1) := by decide +kernel
theorem dX3_allAreSo_17 : decode cX3_allAreSo 17 = .ok (.aload_n 2, 1) := by decide +kernel
theorem dX3_allAreSo_18 : decode cX3_allAreSo 18 = .ok (.getfield 193, 3) := by decide +kernel
theorem dX3_allAreSo_21 : decode cX3_allAreSo 21 = .ok (.iconst 0, 1) := by decide +kernel
theorem dX3_allAreSo_22 : decode cX3_allAreSo 22 = .ok (.invokevirtual 102, 3) := by decide +kernel
theorem dX3_allAreSo_25 : decode cX3_allAreSo 25 = .ok (.istore 4, 2) := by decide +kernel
theorem dX3_allAreSo_27 : decode cX3_allAreSo 27 = .ok (.aload_n 2, 1) := by decide +kernel
theorem dX3_allAreSo_28 : decode cX3_allAreSo 28 = .ok (.getfield 196, 3) := by decide +kernel
theorem dX3_allAreSo_31 : decode cX3_allAreSo 31 = .ok (.getstatic 197, 3) := by decide +kernel
theorem dX3_allAreSo_34 : decode cX3_allAreSo 34 = .ok (.if_acmp .ne 9, 3) := by decide +kernel
theorem dX3_allAreSo_37 : decode cX3_allAreSo 37 = .ok (.iload_n 3, 1) := by decide +kernel
theorem dX3_allAreSo_38 : decode cX3_allAreSo 38 = .ok (.iload 4, 2) := by decide +kernel
theorem dX3_allAreSo_40 : decode cX3_allAreSo 40 = .ok (.if_icmp .lt 35, 3) := by decide +kernel
theorem dX3_allAreSo_43 : decode cX3_allAreSo 43 = .ok (.aload_n 2, 1) := by decide +kernel
theorem dX3_allAreSo_44 : decode cX3_allAreSo 44 = .ok (.getfield 196, 3) := by decide +kernel
theorem dX3_allAreSo_47 : decode cX3_allAreSo 47 = .ok (.getstatic 200, 3) := by decide +kernel
theorem dX3_allAreSo_50 : decode cX3_allAreSo 50 = .ok (.if_acmp .ne 9, 3) := by decide +kernel
theorem dX3_allAreSo_53 : decode cX3_allAreSo 53 = .ok (.iload_n 3, 1) := by decide +kernel
theorem dX3_allAreSo_54 : decode cX3_allAreSo 54 = .ok (.iload 4, 2) := by decide +kernel
theorem dX3_allAreSo_56 : decode cX3_allAreSo 56 = .ok (.if_icmp .gt 19, 3) := by decide +kernel
theorem dX3_allAreSo_59 : decode cX3_allAreSo 59 = .ok (.aload_n 2, 1) := by decide +kernel
theorem dX3_allAreSo_60 : decode cX3_allAreSo 60 = .ok (.getfield 196, 3) := by decide +kernel
theorem dX3_allAreSo_63 : decode cX3_allAreSo 63 = .ok (.getstatic 203, 3) := by decide +kernel
theorem dX3_allAreSo_66 : decode cX3_allAreSo 66 = .ok (.if_acmp .ne 13, 3) := by decide +kernel
theorem dX3_allAreSo_69 : decode cX3_allAreSo 69 = .ok (.iload_n 3, 1) := by decide +kernel
theorem dX3_allAreSo_70 : decode cX3_allAreSo 70 = .ok (.iload 4, 2) := by decide +kernel
theorem dX3_allAreSo_72 : decode cX3_allAreSo 72 = .ok (.if_icmp .ne 7, 3) := by decide +kernel
theorem dX3_allAreSo_75 : decode cX3_allAreSo 75 = .ok (.iconst 1, 1) := by decide +kernel
theorem dX3_allAreSo_76 : decode cX3_allAreSo 76 = .ok (.goto 4, 3) := by decide +kernel
theorem dX3_allAreSo_79 : decode cX3_allAreSo 79 = .ok (.iconst 0, 1) := by decide +kernel
theorem dX3_allAreSo_80 : decode cX3_allAreSo 80 = .ok (.istore 5, 2) := by decide +kernel
theorem dX3_allAreSo_82 : decode cX3_allAreSo 82 = .ok (.iload 5, 2) := by decide +kernel
theorem dX3_allAreSo_84 : decode cX3_allAreSo 84 = .ok (.ifCond .ne 5, 3) := by decide +kernel
theorem dX3_allAreSo_87 : decode cX3_allAreSo 87 = .ok (.iconst 0, 1) := by decide +kernel
theorem dX3_allAreSo_88 : decode cX3_allAreSo 88 = .ok (.ireturn, 1) := by decide +kernel
theorem dX3_allAreSo_89 : decode cX3_allAreSo 89 = .ok (.aload_n 2, 1) := by decide +kernel
theorem dX3_allAreSo_90 : decode cX3_allAreSo 90 = .ok (.getfield 206, 3) := by decide +kernel
theorem dX3_allAreSo_93 : decode cX3_allAreSo 93 = .ok (.astore_n 2, 1) := by decide +kernel
theorem dX3_allAreSo_94 : decode cX3_allAreSo 94 = .ok (.goto (-92), 3) := by decide +kernel
theorem dX3_allAreSo_97 : decode cX3_allAreSo 97 = .ok (.iconst 1, 1) := by decide +kernel
theorem dX3_allAreSo_98 : decode cX3_allAreSo 98 = .ok (.ireturn, 1) := by decide +kernel
set_option maxRecDepth 20000 in
theorem ggX3_worth_Jx29ce0_ordinal_8abf5 : GoodIn wsX3_worth wsJx29ce0_ordinal_8abf5 := goodIn_r _ [8, 9] (by decide +kernel) (by decide +kernel)
set_option maxRecDepth 20000 in
theorem gX3_worth_Jx29ce0_ordinal_8abf5_u60X5 : GoodIn wsX3_worth (va_wsU RX3 60 RX5 "java/lang/Enum" ⟨"HighRecipes$Kind", "ordinal", "()I"⟩ yJx29ce0_ordinal_8abf5 wsJx29ce0_ordinal_8abf5) := goodIn_app (goodIn_of _ (by decide +kernel)) ggX3_worth_Jx29ce0_ordinal_8abf5
set_option maxRecDepth 20000 in
theorem ggX3_worth_X3_worth : GoodIn wsX3_worth wsX3_worth := goodIn_r _ [0, 1, 2, 3, 4, 5, 6, 7, 8, 9, 10, 11, 12, 13, 14, 15, 16, 17, 18, 19, 20, 21, 22, 23, 24, 25, 26, 27, 28, 29, 30, 31, 32, 33, 34, 35, 36, 37, 38, 39, 40, 41, 42, 43, 44, 45, 46, 47, 48, 49, 50, 51, 52, 53, 54, 55, 56, 57, 58, 59, 60, 61, 62, 63, 64, 65, 66, 67, 68, 69, 70, 71] (by decide +kernel) (by decide +kernel)
set_option maxRecDepth 20000 in
theorem gX3_worth_X3_worth : GoodIn wsX3_worth (wsV RX3 102 RX3 yX3_worth wsX3_worth) := goodIn_app (goodIn_of _ (by decide +kernel)) ggX3_worth_X3_worth
set_option maxRecDepth 20000 in
theorem ggX3_worth_X12_quotient : GoodIn wsX3_worth wsX12_quotient := goodIn_r _ [16] (by decide +kernel) (by decide +kernel)
set_option maxRecDepth 20000 in
theorem gX3_worth_X12_quotient_n178 : GoodIn wsX3_worth (wsX12_quotient) := ggX3_worth_X12_quotient
set_option maxRecDepth 20000 in
theorem ggX3_worth_X6_boilingHeat : GoodIn wsX3_worth wsX6_boilingHeat := goodIn_r _ [21, 22, 23, 24, 20, 25, 51, 52, 53, 54, 55, 56, 57, 58, 59] (by decide +kernel) (by decide +kernel)
set_option maxRecDepth 20000 in
theorem gX3_worth_X6_boilingHeat : GoodIn wsX3_worth (wsV RX3 157 RX6 yX6_boilingHeat wsX6_boilingHeat) := goodIn_app (goodIn_of _ (by decide +kernel)) ggX3_worth_X6_boilingHeat
set_option maxRecDepth 20000 in
theorem ggX3_worth_X6_panAt : GoodIn wsX3_worth wsX6_panAt := goodIn_r _ [29, 30, 31, 51, 52, 53, 54, 55, 56, 57, 58, 59, 60, 61, 62, 63, 64, 65, 66] (by decide +kernel) (by decide +kernel)
set_option maxRecDepth 20000 in
theorem gX3_worth_X6_panAt : GoodIn wsX3_worth (wsV RX3 133 RX6 yX6_panAt wsX6_panAt) := goodIn_app (goodIn_of _ (by decide +kernel)) ggX3_worth_X6_panAt
set_option maxRecDepth 20000 in
theorem ggX3_worth_X3_contentOf : GoodIn wsX3_worth wsX3_contentOf := goodIn_r _ [34, 1, 3, 4, 5, 6, 7, 8, 9, 35, 36, 37, 38, 39, 40, 41, 42, 67, 68, 69, 70, 71] (by decide +kernel) (by decide +kernel)
set_option maxRecDepth 20000 in
theorem gX3_worth_X3_contentOf : GoodIn wsX3_worth (va_wsS RX3 218 yX3_contentOf wsX3_contentOf) := goodIn_app (goodIn_of _ (by decide +kernel)) ggX3_worth_X3_contentOf
theorem dX3_worth_0 : decode cX3_worth 0 = .ok (.aload_n 1, 1) := by decide +kernel
theorem dX3_worth_1 : decode cX3_worth 1 = .ok (.ifnull 8, 3) := by decide +kernel
theorem dX3_worth_4 : decode cX3_worth 4 = .ok (.iload_n 2, 1) := by decide +kernel
theorem dX3_worth_5 : decode cX3_worth 5 = .ok (.iconst 5, 1) := by decide +kernel
theorem dX3_worth_6 : decode cX3_worth 6 = .ok (.if_icmp .lt 5, 3) := by decide +kernel
theorem dX3_worth_9 : decode cX3_worth 9 = .ok (.iconst 0, 1) := by decide +kernel
theorem dX3_worth_10 : decode cX3_worth 10 = .ok (.ireturn, 1) := by decide +kernel
theorem dX3_worth_11 : decode cX3_worth 11 = .ok (.getstatic 50, 3) := by decide +kernel
theorem dX3_worth_14 : decode cX3_worth 14 = .ok (.aload_n 1, 1) := by decide +kernel
theorem dX3_worth_15 : decode cX3_worth 15 = .ok (.getfield 196, 3) := by decide +kernel
theorem dX3_worth_18 : decode cX3_worth 18 = .ok (.invokevirtual 60, 3) := by decide +kernel
theorem dX3_worth_21 : decode cX3_worth 21 = .ok (.iaload, 1) := by decide +kernel
theorem dX3_worth_22 : decode cX3_worth 22 = .ok (.tableswitch 197 9 18 #[54, 59, 83, 107, 131, 157, 165, 173, 181, 189], 54) := by decide +kernel
theorem dX3_worth_76 : decode cX3_worth 76 = .ok (.aload_n 1, 1) := by decide +kernel
theorem dX3_worth_77 : decode cX3_worth 77 = .ok (.getfield 209, 3) := by decide +kernel
theorem dX3_worth_80 : decode cX3_worth 80 = .ok (.ireturn, 1) := by decide +kernel
theorem dX3_worth_81 : decode cX3_worth 81 = .ok (.aload_n 0, 1) := by decide +kernel
theorem dX3_worth_82 : decode cX3_worth 82 = .ok (.aload_n 1, 1) := by decide +kernel
theorem dX3_worth_83 : decode cX3_worth 83 = .ok (.getfield 188, 3) := by decide +kernel
theorem dX3_worth_86 : decode cX3_worth 86 = .ok (.iload_n 2, 1) := by decide +kernel
theorem dX3_worth_87 : decode cX3_worth 87 = .ok (.iconst 1, 1) := by decide +kernel
theorem dX3_worth_88 : decode cX3_worth 88 = .ok (.iadd, 1) := by decide +kernel
theorem dX3_worth_89 : decode cX3_worth 89 = .ok (.invokevirtual 102, 3) := by decide +kernel
theorem dX3_worth_92 : decode cX3_worth 92 = .ok (.aload_n 0, 1) := by decide +kernel
theorem dX3_worth_93 : decode cX3_worth 93 = .ok (.aload_n 1, 1) := by decide +kernel
theorem dX3_worth_94 : decode cX3_worth 94 = .ok (.getfield 193, 3) := by decide +kernel
theorem dX3_worth_97 : decode cX3_worth 97 = .ok (.iload_n 2, 1) := by decide +kernel
theorem dX3_worth_98 : decode cX3_worth 98 = .ok (.iconst 1, 1) := by decide +kernel
theorem dX3_worth_99 : decode cX3_worth 99 = .ok (.iadd, 1) := by decide +kernel
theorem dX3_worth_100 : decode cX3_worth 100 = .ok (.invokevirtual 102, 3) := by decide +kernel
theorem dX3_worth_103 : decode cX3_worth 103 = .ok (.iadd, 1) := by decide +kernel
theorem dX3_worth_104 : decode cX3_worth 104 = .ok (.ireturn, 1) := by decide +kernel
theorem dX3_worth_105 : decode cX3_worth 105 = .ok (.aload_n 0, 1) := by decide +kernel
theorem dX3_worth_106 : decode cX3_worth 106 = .ok (.aload_n 1, 1) := by decide +kernel
theorem dX3_worth_107 : decode cX3_worth 107 = .ok (.getfield 188, 3) := by decide +kernel
theorem dX3_worth_110 : decode cX3_worth 110 = .ok (.iload_n 2, 1) := by decide +kernel
theorem dX3_worth_111 : decode cX3_worth 111 = .ok (.iconst 1, 1) := by decide +kernel
theorem dX3_worth_112 : decode cX3_worth 112 = .ok (.iadd, 1) := by decide +kernel
theorem dX3_worth_113 : decode cX3_worth 113 = .ok (.invokevirtual 102, 3) := by decide +kernel
theorem dX3_worth_116 : decode cX3_worth 116 = .ok (.aload_n 0, 1) := by decide +kernel
theorem dX3_worth_117 : decode cX3_worth 117 = .ok (.aload_n 1, 1) := by decide +kernel
theorem dX3_worth_118 : decode cX3_worth 118 = .ok (.getfield 193, 3) := by decide +kernel
theorem dX3_worth_121 : decode cX3_worth 121 = .ok (.iload_n 2, 1) := by decide +kernel
theorem dX3_worth_122 : decode cX3_worth 122 = .ok (.iconst 1, 1) := by decide +kernel
theorem dX3_worth_123 : decode cX3_worth 123 = .ok (.iadd, 1) := by decide +kernel
theorem dX3_worth_124 : decode cX3_worth 124 = .ok (.invokevirtual 102, 3) := by decide +kernel
theorem dX3_worth_127 : decode cX3_worth 127 = .ok (.isub, 1) := by decide +kernel
theorem dX3_worth_128 : decode cX3_worth 128 = .ok (.ireturn, 1) := by decide +kernel
theorem dX3_worth_129 : decode cX3_worth 129 = .ok (.aload_n 0, 1) := by decide +kernel
theorem dX3_worth_130 : decode cX3_worth 130 = .ok (.aload_n 1, 1) := by decide +kernel
theorem dX3_worth_131 : decode cX3_worth 131 = .ok (.getfield 188, 3) := by decide +kernel
theorem dX3_worth_134 : decode cX3_worth 134 = .ok (.iload_n 2, 1) := by decide +kernel
theorem dX3_worth_135 : decode cX3_worth 135 = .ok (.iconst 1, 1) := by decide +kernel
theorem dX3_worth_136 : decode cX3_worth 136 = .ok (.iadd, 1) := by decide +kernel
theorem dX3_worth_137 : decode cX3_worth 137 = .ok (.invokevirtual 102, 3) := by decide +kernel
theorem dX3_worth_140 : decode cX3_worth 140 = .ok (.aload_n 0, 1) := by decide +kernel
theorem dX3_worth_141 : decode cX3_worth 141 = .ok (.aload_n 1, 1) := by decide +kernel
theorem dX3_worth_142 : decode cX3_worth 142 = .ok (.getfield 193, 3) := by decide +kernel
theorem dX3_worth_145 : decode cX3_worth 145 = .ok (.iload_n 2, 1) := by decide +kernel
theorem dX3_worth_146 : decode cX3_worth 146 = .ok (.iconst 1, 1) := by decide +kernel
theorem dX3_worth_147 : decode cX3_worth 147 = .ok (.iadd, 1) := by decide +kernel
theorem dX3_worth_148 : decode cX3_worth 148 = .ok (.invokevirtual 102, 3) := by decide +kernel
theorem dX3_worth_151 : decode cX3_worth 151 = .ok (.imul, 1) := by decide +kernel
theorem dX3_worth_152 : decode cX3_worth 152 = .ok (.ireturn, 1) := by decide +kernel
theorem dX3_worth_153 : decode cX3_worth 153 = .ok (.aload_n 0, 1) := by decide +kernel
theorem dX3_worth_154 : decode cX3_worth 154 = .ok (.aload_n 1, 1) := by decide +kernel
theorem dX3_worth_155 : decode cX3_worth 155 = .ok (.getfield 188, 3) := by decide +kernel
theorem dX3_worth_158 : decode cX3_worth 158 = .ok (.iload_n 2, 1) := by decide +kernel
theorem dX3_worth_159 : decode cX3_worth 159 = .ok (.iconst 1, 1) := by decide +kernel
theorem dX3_worth_160 : decode cX3_worth 160 = .ok (.iadd, 1) := by decide +kernel
theorem dX3_worth_161 : decode cX3_worth 161 = .ok (.invokevirtual 102, 3) := by decide +kernel
theorem dX3_worth_164 : decode cX3_worth 164 = .ok (.aload_n 0, 1) := by decide +kernel
theorem dX3_worth_165 : decode cX3_worth 165 = .ok (.aload_n 1, 1) := by decide +kernel
theorem dX3_worth_166 : decode cX3_worth 166 = .ok (.getfield 193, 3) := by decide +kernel
theorem dX3_worth_169 : decode cX3_worth 169 = .ok (.iload_n 2, 1) := by decide +kernel
theorem dX3_worth_170 : decode cX3_worth 170 = .ok (.iconst 1, 1) := by decide +kernel
theorem dX3_worth_171 : decode cX3_worth 171 = .ok (.iadd, 1) := by decide +kernel
theorem dX3_worth_172 : decode cX3_worth 172 = .ok (.invokevirtual 102, 3) := by decide +kernel
theorem dX3_worth_175 : decode cX3_worth 175 = .ok (.invokestatic 178, 3) := by decide +kernel
theorem dX3_worth_178 : decode cX3_worth 178 = .ok (.ireturn, 1) := by decide +kernel
theorem dX3_worth_179 : decode cX3_worth 179 = .ok (.aload_n 0, 1) := by decide +kernel
theorem dX3_worth_180 : decode cX3_worth 180 = .ok (.getfield 15, 3) := by decide +kernel
theorem dX3_worth_183 : decode cX3_worth 183 = .ok (.getfield 166, 3) := by decide +kernel
theorem dX3_worth_186 : decode cX3_worth 186 = .ok (.ireturn, 1) := by decide +kernel
theorem dX3_worth_187 : decode cX3_worth 187 = .ok (.aload_n 0, 1) := by decide +kernel
theorem dX3_worth_188 : decode cX3_worth 188 = .ok (.getfield 15, 3) := by decide +kernel
theorem dX3_worth_191 : decode cX3_worth 191 = .ok (.invokevirtual 157, 3) := by decide +kernel
theorem dX3_worth_194 : decode cX3_worth 194 = .ok (.ireturn, 1) := by decide +kernel
theorem dX3_worth_195 : decode cX3_worth 195 = .ok (.aload_n 0, 1) := by decide +kernel
theorem dX3_worth_196 : decode cX3_worth 196 = .ok (.getfield 15, 3) := by decide +kernel
theorem dX3_worth_199 : decode cX3_worth 199 = .ok (.getfield 22, 3) := by decide +kernel
theorem dX3_worth_202 : decode cX3_worth 202 = .ok (.ireturn, 1) := by decide +kernel
theorem dX3_worth_203 : decode cX3_worth 203 = .ok (.aload_n 0, 1) := by decide +kernel
theorem dX3_worth_204 : decode cX3_worth 204 = .ok (.getfield 15, 3) := by decide +kernel
theorem dX3_worth_207 : decode cX3_worth 207 = .ok (.getfield 212, 3) := by decide +kernel
theorem dX3_worth_210 : decode cX3_worth 210 = .ok (.ireturn, 1) := by decide +kernel
theorem dX3_worth_211 : decode cX3_worth 211 = .ok (.aload_n 0, 1) := by decide +kernel
theorem dX3_worth_212 : decode cX3_worth 212 = .ok (.getfield 15, 3) := by decide +kernel
theorem dX3_worth_215 : decode cX3_worth 215 = .ok (.getfield 215, 3) := by decide +kernel
theorem dX3_worth_218 : decode cX3_worth 218 = .ok (.ireturn, 1) := by decide +kernel
theorem dX3_worth_219 : decode cX3_worth 219 = .ok (.aload_n 0, 1) := by decide +kernel
theorem dX3_worth_220 : decode cX3_worth 220 = .ok (.getfield 15, 3) := by decide +kernel
theorem dX3_worth_223 : decode cX3_worth 223 = .ok (.aload_n 1, 1) := by decide +kernel
theorem dX3_worth_224 : decode cX3_worth 224 = .ok (.getfield 209, 3) := by decide +kernel
theorem dX3_worth_227 : decode cX3_worth 227 = .ok (.invokevirtual 133, 3) := by decide +kernel
theorem dX3_worth_230 : decode cX3_worth 230 = .ok (.aload_n 1, 1) := by decide +kernel
theorem dX3_worth_231 : decode cX3_worth 231 = .ok (.getfield 196, 3) := by decide +kernel
theorem dX3_worth_234 : decode cX3_worth 234 = .ok (.invokestatic 218, 3) := by decide +kernel
theorem dX3_worth_237 : decode cX3_worth 237 = .ok (.ireturn, 1) := by decide +kernel
set_option maxRecDepth 20000 in
theorem ggX3_contentOf_Jx29ce0_ordinal_8abf5 : GoodIn wsX3_contentOf wsJx29ce0_ordinal_8abf5 := goodIn_r _ [7, 8] (by decide +kernel) (by decide +kernel)
set_option maxRecDepth 20000 in
theorem gX3_contentOf_Jx29ce0_ordinal_8abf5_u60X5 : GoodIn wsX3_contentOf (va_wsU RX3 60 RX5 "java/lang/Enum" ⟨"HighRecipes$Kind", "ordinal", "()I"⟩ yJx29ce0_ordinal_8abf5 wsJx29ce0_ordinal_8abf5) := goodIn_app (goodIn_of _ (by decide +kernel)) ggX3_contentOf_Jx29ce0_ordinal_8abf5
set_option maxRecDepth 20000 in
theorem ggX3_contentOf_X7_space : GoodIn wsX3_contentOf wsX7_space := goodIn_r _ [13, 14, 15, 16, 17, 18, 19, 20, 21] (by decide +kernel) (by decide +kernel)
set_option maxRecDepth 20000 in
theorem gX3_contentOf_X7_space : GoodIn wsX3_contentOf (wsV RX3 222 RX7 yX7_space wsX7_space) := goodIn_app (goodIn_of _ (by decide +kernel)) ggX3_contentOf_X7_space
theorem dX3_contentOf_0 : decode cX3_contentOf 0 = .ok (.aload_n 0, 1) := by decide +kernel
theorem dX3_contentOf_1 : decode cX3_contentOf 1 = .ok (.ifnonnull 5, 3) := by decide +kernel
theorem dX3_contentOf_4 : decode cX3_contentOf 4 = .ok (.iconst 0, 1) := by decide +kernel
theorem dX3_contentOf_5 : decode cX3_contentOf 5 = .ok (.ireturn, 1) := by decide +kernel
theorem dX3_contentOf_6 : decode cX3_contentOf 6 = .ok (.getstatic 50, 3) := by decide +kernel
theorem dX3_contentOf_9 : decode cX3_contentOf 9 = .ok (.aload_n 1, 1) := by decide +kernel
theorem dX3_contentOf_10 : decode cX3_contentOf 10 = .ok (.invokevirtual 60, 3) := by decide +kernel
theorem dX3_contentOf_13 : decode cX3_contentOf 13 = .ok (.iaload, 1) := by decide +kernel
theorem dX3_contentOf_14 : decode cX3_contentOf 14 = .ok (.lookupswitch 62 #[(4, 52), (19, 42), (20, 47), (21, 57)], 42) := by decide +kernel
theorem dX3_contentOf_56 : decode cX3_contentOf 56 = .ok (.aload_n 0, 1) := by decide +kernel
theorem dX3_contentOf_57 : decode cX3_contentOf 57 = .ok (.getfield 163, 3) := by decide +kernel
theorem dX3_contentOf_60 : decode cX3_contentOf 60 = .ok (.ireturn, 1) := by decide +kernel
theorem dX3_contentOf_61 : decode cX3_contentOf 61 = .ok (.aload_n 0, 1) := by decide +kernel
theorem dX3_contentOf_62 : decode cX3_contentOf 62 = .ok (.getfield 172, 3) := by decide +kernel
theorem dX3_contentOf_65 : decode cX3_contentOf 65 = .ok (.ireturn, 1) := by decide +kernel
theorem dX3_contentOf_66 : decode cX3_contentOf 66 = .ok (.aload_n 0, 1) := by decide +kernel
theorem dX3_contentOf_67 : decode cX3_contentOf 67 = .ok (.getfield 160, 3) := by decide +kernel
theorem dX3_contentOf_70 : decode cX3_contentOf 70 = .ok (.ireturn, 1) := by decide +kernel
theorem dX3_contentOf_71 : decode cX3_contentOf 71 = .ok (.aload_n 0, 1) := by decide +kernel
theorem dX3_contentOf_72 : decode cX3_contentOf 72 = .ok (.getfield 181, 3) := by decide +kernel
theorem dX3_contentOf_75 : decode cX3_contentOf 75 = .ok (.ireturn, 1) := by decide +kernel
theorem dX3_contentOf_76 : decode cX3_contentOf 76 = .ok (.aload_n 0, 1) := by decide +kernel
theorem dX3_contentOf_77 : decode cX3_contentOf 77 = .ok (.invokevirtual 222, 3) := by decide +kernel
theorem dX3_contentOf_80 : decode cX3_contentOf 80 = .ok (.ireturn, 1) := by decide +kernel
theorem dX4_init_0 : decode cX4_init 0 = .ok (.aload_n 0, 1) := by decide +kernel
theorem dX4_init_1 : decode cX4_init 1 = .ok (.invokespecial 1, 3) := by decide +kernel
theorem dX4_init_4 : decode cX4_init 4 = .ok (.aload_n 0, 1) := by decide +kernel
theorem dX4_init_5 : decode cX4_init 5 = .ok (.bipush 20, 2) := by decide +kernel
theorem dX4_init_7 : decode cX4_init 7 = .ok (.newarray .int, 2) := by decide +kernel
theorem dX4_init_9 : decode cX4_init 9 = .ok (.putfield 9, 3) := by decide +kernel
theorem dX4_init_12 : decode cX4_init 12 = .ok (.return_, 1) := by decide +kernel
theorem dX4_clear_0 : decode cX4_clear 0 = .ok (.aload_n 0, 1) := by decide +kernel
theorem dX4_clear_1 : decode cX4_clear 1 = .ok (.iconst 0, 1) := by decide +kernel
theorem dX4_clear_2 : decode cX4_clear 2 = .ok (.putfield 13, 3) := by decide +kernel
theorem dX4_clear_5 : decode cX4_clear 5 = .ok (.return_, 1) := by decide +kernel
set_option maxRecDepth 20000 in
theorem ggX4_add_J9_floorMod_7cf53 : GoodIn wsX4_add wsJ9_floorMod_7cf53 := goodIn_r _ [6] (by decide +kernel) (by decide +kernel)
set_option maxRecDepth 20000 in
theorem gX4_add_J9_floorMod_7cf53 : GoodIn wsX4_add (va_wsS RX4 17 yJ9_floorMod_7cf53 wsJ9_floorMod_7cf53) := goodIn_app (goodIn_of _ (by decide +kernel)) ggX4_add_J9_floorMod_7cf53
theorem dX4_add_0 : decode cX4_add 0 = .ok (.aload_n 0, 1) := by decide +kernel
theorem dX4_add_1 : decode cX4_add 1 = .ok (.getfield 13, 3) := by decide +kernel
theorem dX4_add_4 : decode cX4_add 4 = .ok (.bipush 20, 2) := by decide +kernel
theorem dX4_add_6 : decode cX4_add 6 = .ok (.invokestatic 17, 3) := by decide +kernel
theorem dX4_add_9 : decode cX4_add 9 = .ok (.istore_n 2, 1) := by decide +kernel
theorem dX4_add_10 : decode cX4_add 10 = .ok (.iload_n 2, 1) := by decide +kernel
theorem dX4_add_11 : decode cX4_add 11 = .ok (.ifCond .lt 29, 3) := by decide +kernel
theorem dX4_add_14 : decode cX4_add 14 = .ok (.iload_n 2, 1) := by decide +kernel
theorem dX4_add_15 : decode cX4_add 15 = .ok (.aload_n 0, 1) := by decide +kernel
theorem dX4_add_16 : decode cX4_add 16 = .ok (.getfield 9, 3) := by decide +kernel
theorem dX4_add_19 : decode cX4_add 19 = .ok (.arraylength, 1) := by decide +kernel
theorem dX4_add_20 : decode cX4_add 20 = .ok (.if_icmp .ge 20, 3) := by decide +kernel
theorem dX4_add_23 : decode cX4_add 23 = .ok (.aload_n 0, 1) := by decide +kernel
theorem dX4_add_24 : decode cX4_add 24 = .ok (.getfield 9, 3) := by decide +kernel
theorem dX4_add_27 : decode cX4_add 27 = .ok (.iload_n 2, 1) := by decide +kernel
theorem dX4_add_28 : decode cX4_add 28 = .ok (.iload_n 1, 1) := by decide +kernel
theorem dX4_add_29 : decode cX4_add 29 = .ok (.iastore, 1) := by decide +kernel
theorem dX4_add_30 : decode cX4_add 30 = .ok (.aload_n 0, 1) := by decide +kernel
theorem dX4_add_31 : decode cX4_add 31 = .ok (.dup, 1) := by decide +kernel
theorem dX4_add_32 : decode cX4_add 32 = .ok (.getfield 13, 3) := by decide +kernel
theorem dX4_add_35 : decode cX4_add 35 = .ok (.iconst 1, 1) := by decide +kernel
theorem dX4_add_36 : decode cX4_add 36 = .ok (.iadd, 1) := by decide +kernel
theorem dX4_add_37 : decode cX4_add 37 = .ok (.putfield 13, 3) := by decide +kernel
theorem dX4_add_40 : decode cX4_add 40 = .ok (.return_, 1) := by decide +kernel
theorem dX4_kept_0 : decode cX4_kept 0 = .ok (.aload_n 0, 1) := by decide +kernel
theorem dX4_kept_1 : decode cX4_kept 1 = .ok (.getfield 13, 3) := by decide +kernel
theorem dX4_kept_4 : decode cX4_kept 4 = .ok (.bipush 20, 2) := by decide +kernel
theorem dX4_kept_6 : decode cX4_kept 6 = .ok (.invokestatic 23, 3) := by decide +kernel
theorem dX4_kept_9 : decode cX4_kept 9 = .ok (.ireturn, 1) := by decide +kernel
set_option maxRecDepth 20000 in
theorem ggX4_recall_J9_floorMod_7cf53 : GoodIn wsX4_recall wsJ9_floorMod_7cf53 := goodIn_r _ [6] (by decide +kernel) (by decide +kernel)
set_option maxRecDepth 20000 in
theorem gX4_recall_J9_floorMod_7cf53 : GoodIn wsX4_recall (va_wsS RX4 17 yJ9_floorMod_7cf53 wsJ9_floorMod_7cf53) := goodIn_app (goodIn_of _ (by decide +kernel)) ggX4_recall_J9_floorMod_7cf53
theorem dX4_recall_0 : decode cX4_recall 0 = .ok (.aload_n 0, 1) := by decide +kernel
theorem dX4_recall_1 : decode cX4_recall 1 = .ok (.getfield 13, 3) := by decide +kernel
theorem dX4_recall_4 : decode cX4_recall 4 = .ok (.iconst 1, 1) := by decide +kernel
theorem dX4_recall_5 : decode cX4_recall 5 = .ok (.isub, 1) := by decide +kernel
theorem dX4_recall_6 : decode cX4_recall 6 = .ok (.iload_n 1, 1) := by decide +kernel
theorem dX4_recall_7 : decode cX4_recall 7 = .ok (.isub, 1) := by decide +kernel
theorem dX4_recall_8 : decode cX4_recall 8 = .ok (.bipush 20, 2) := by decide +kernel
theorem dX4_recall_10 : decode cX4_recall 10 = .ok (.invokestatic 17, 3) := by decide +kernel
theorem dX4_recall_13 : decode cX4_recall 13 = .ok (.istore_n 2, 1) := by decide +kernel
theorem dX4_recall_14 : decode cX4_recall 14 = .ok (.iload_n 2, 1) := by decide +kernel
theorem dX4_recall_15 : decode cX4_recall 15 = .ok (.ifCond .lt 21, 3) := by decide +kernel
theorem dX4_recall_18 : decode cX4_recall 18 = .ok (.iload_n 2, 1) := by decide +kernel
theorem dX4_recall_19 : decode cX4_recall 19 = .ok (.aload_n 0, 1) := by decide +kernel
theorem dX4_recall_20 : decode cX4_recall 20 = .ok (.getfield 9, 3) := by decide +kernel
theorem dX4_recall_23 : decode cX4_recall 23 = .ok (.arraylength, 1) := by decide +kernel
theorem dX4_recall_24 : decode cX4_recall 24 = .ok (.if_icmp .ge 12, 3) := by decide +kernel
theorem dX4_recall_27 : decode cX4_recall 27 = .ok (.aload_n 0, 1) := by decide +kernel
theorem dX4_recall_28 : decode cX4_recall 28 = .ok (.getfield 9, 3) := by decide +kernel
theorem dX4_recall_31 : decode cX4_recall 31 = .ok (.iload_n 2, 1) := by decide +kernel
theorem dX4_recall_32 : decode cX4_recall 32 = .ok (.iaload, 1) := by decide +kernel
theorem dX4_recall_33 : decode cX4_recall 33 = .ok (.goto 4, 3) := by decide +kernel
theorem dX4_recall_36 : decode cX4_recall 36 = .ok (.iconst 0, 1) := by decide +kernel
theorem dX4_recall_37 : decode cX4_recall 37 = .ok (.ireturn, 1) := by decide +kernel
theorem dX5_withLetter_0 : decode cX5_withLetter 0 = .ok (.lload_n 0, 1) := by decide +kernel
theorem dX5_withLetter_1 : decode cX5_withLetter 1 = .ok (.ldc2_w 174, 3) := by decide +kernel
theorem dX5_withLetter_4 : decode cX5_withLetter 4 = .ok (.lmul, 1) := by decide +kernel
theorem dX5_withLetter_5 : decode cX5_withLetter 5 = .ok (.iload_n 2, 1) := by decide +kernel
theorem dX5_withLetter_6 : decode cX5_withLetter 6 = .ok (.bipush 97, 2) := by decide +kernel
theorem dX5_withLetter_8 : decode cX5_withLetter 8 = .ok (.isub, 1) := by decide +kernel
theorem dX5_withLetter_9 : decode cX5_withLetter 9 = .ok (.iconst 1, 1) := by decide +kernel
theorem dX5_withLetter_10 : decode cX5_withLetter 10 = .ok (.iadd, 1) := by decide +kernel
theorem dX5_withLetter_11 : decode cX5_withLetter 11 = .ok (.i2l, 1) := by decide +kernel
theorem dX5_withLetter_12 : decode cX5_withLetter 12 = .ok (.ladd, 1) := by decide +kernel
theorem dX5_withLetter_13 : decode cX5_withLetter 13 = .ok (.lreturn, 1) := by decide +kernel
theorem dX5_ofWord_0 : decode cX5_ofWord 0 = .ok (.getstatic 176, 3) := by decide +kernel
theorem dX5_ofWord_3 : decode cX5_ofWord 3 = .ok (.astore_n 2, 1) := by decide +kernel
theorem dX5_ofWord_4 : decode cX5_ofWord 4 = .ok (.aload_n 2, 1) := by decide +kernel
theorem dX5_ofWord_5 : decode cX5_ofWord 5 = .ok (.arraylength, 1) := by decide +kernel
theorem dX5_ofWord_6 : decode cX5_ofWord 6 = .ok (.istore_n 3, 1) := by decide +kernel
theorem dX5_ofWord_7 : decode cX5_ofWord 7 = .ok (.iconst 0, 1) := by decide +kernel
theorem dX5_ofWord_8 : decode cX5_ofWord 8 = .ok (.istore 4, 2) := by decide +kernel
theorem dX5_ofWord_10 : decode cX5_ofWord 10 = .ok (.iload 4, 2) := by decide +kernel
theorem dX5_ofWord_12 : decode cX5_ofWord 12 = .ok (.iload_n 3, 1) := by decide +kernel
theorem dX5_ofWord_13 : decode cX5_ofWord 13 = .ok (.if_icmp .ge 28, 3) := by decide +kernel
theorem dX5_ofWord_16 : decode cX5_ofWord 16 = .ok (.aload_n 2, 1) := by decide +kernel
theorem dX5_ofWord_17 : decode cX5_ofWord 17 = .ok (.iload 4, 2) := by decide +kernel
theorem dX5_ofWord_19 : decode cX5_ofWord 19 = .ok (.aaload, 1) := by decide +kernel
theorem dX5_ofWord_20 : decode cX5_ofWord 20 = .ok (.astore 5, 2) := by decide +kernel
theorem dX5_ofWord_22 : decode cX5_ofWord 22 = .ok (.aload 5, 2) := by decide +kernel
theorem dX5_ofWord_24 : decode cX5_ofWord 24 = .ok (.getfield 150, 3) := by decide +kernel
theorem dX5_ofWord_27 : decode cX5_ofWord 27 = .ok (.lload_n 0, 1) := by decide +kernel
theorem dX5_ofWord_28 : decode cX5_ofWord 28 = .ok (.lcmp, 1) := by decide +kernel
theorem dX5_ofWord_29 : decode cX5_ofWord 29 = .ok (.ifCond .ne 6, 3) := by decide +kernel
theorem dX5_ofWord_32 : decode cX5_ofWord 32 = .ok (.aload 5, 2) := by decide +kernel
theorem dX5_ofWord_34 : decode cX5_ofWord 34 = .ok (.areturn, 1) := by decide +kernel
theorem dX5_ofWord_35 : decode cX5_ofWord 35 = .ok (.iinc 4 1, 3) := by decide +kernel
theorem dX5_ofWord_38 : decode cX5_ofWord 38 = .ok (.goto (-28), 3) := by decide +kernel
theorem dX5_ofWord_41 : decode cX5_ofWord 41 = .ok (.getstatic 115, 3) := by decide +kernel
theorem dX5_ofWord_44 : decode cX5_ofWord 44 = .ok (.areturn, 1) := by decide +kernel
theorem dX5_ofSign_0 : decode cX5_ofSign 0 = .ok (.getstatic 176, 3) := by decide +kernel
theorem dX5_ofSign_3 : decode cX5_ofSign 3 = .ok (.astore_n 1, 1) := by decide +kernel
theorem dX5_ofSign_4 : decode cX5_ofSign 4 = .ok (.aload_n 1, 1) := by decide +kernel
theorem dX5_ofSign_5 : decode cX5_ofSign 5 = .ok (.arraylength, 1) := by decide +kernel
theorem dX5_ofSign_6 : decode cX5_ofSign 6 = .ok (.istore_n 2, 1) := by decide +kernel
theorem dX5_ofSign_7 : decode cX5_ofSign 7 = .ok (.iconst 0, 1) := by decide +kernel
theorem dX5_ofSign_8 : decode cX5_ofSign 8 = .ok (.istore_n 3, 1) := by decide +kernel
theorem dX5_ofSign_9 : decode cX5_ofSign 9 = .ok (.iload_n 3, 1) := by decide +kernel
theorem dX5_ofSign_10 : decode cX5_ofSign 10 = .ok (.iload_n 2, 1) := by decide +kernel
theorem dX5_ofSign_11 : decode cX5_ofSign 11 = .ok (.if_icmp .ge 26, 3) := by decide +kernel
theorem dX5_ofSign_14 : decode cX5_ofSign 14 = .ok (.aload_n 1, 1) := by decide +kernel
theorem dX5_ofSign_15 : decode cX5_ofSign 15 = .ok (.iload_n 3, 1) := by decide +kernel
theorem dX5_ofSign_16 : decode cX5_ofSign 16 = .ok (.aaload, 1) := by decide +kernel
theorem dX5_ofSign_17 : decode cX5_ofSign 17 = .ok (.astore 4, 2) := by decide +kernel
theorem dX5_ofSign_19 : decode cX5_ofSign 19 = .ok (.aload 4, 2) := by decide +kernel
theorem dX5_ofSign_21 : decode cX5_ofSign 21 = .ok (.getfield 154, 3) := by decide +kernel
theorem dX5_ofSign_24 : decode cX5_ofSign 24 = .ok (.iload_n 0, 1) := by decide +kernel
theorem dX5_ofSign_25 : decode cX5_ofSign 25 = .ok (.if_icmp .ne 6, 3) := by decide +kernel
theorem dX5_ofSign_28 : decode cX5_ofSign 28 = .ok (.aload 4, 2) := by decide +kernel
theorem dX5_ofSign_30 : decode cX5_ofSign 30 = .ok (.areturn, 1) := by decide +kernel
theorem dX5_ofSign_31 : decode cX5_ofSign 31 = .ok (.iinc 3 1, 3) := by decide +kernel
theorem dX5_ofSign_34 : decode cX5_ofSign 34 = .ok (.goto (-25), 3) := by decide +kernel
theorem dX5_ofSign_37 : decode cX5_ofSign 37 = .ok (.getstatic 124, 3) := by decide +kernel
theorem dX5_ofSign_40 : decode cX5_ofSign 40 = .ok (.areturn, 1) := by decide +kernel
theorem dX5_beginsAct_0 : decode cX5_beginsAct 0 = .ok (.aload_n 0, 1) := by decide +kernel
theorem dX5_beginsAct_1 : decode cX5_beginsAct 1 = .ok (.getstatic 13, 3) := by decide +kernel
theorem dX5_beginsAct_4 : decode cX5_beginsAct 4 = .ok (.if_acmp .eq 59, 3) := by decide +kernel
theorem dX5_beginsAct_7 : decode cX5_beginsAct 7 = .ok (.aload_n 0, 1) := by decide +kernel
theorem dX5_beginsAct_8 : decode cX5_beginsAct 8 = .ok (.getstatic 25, 3) := by decide +kernel
theorem dX5_beginsAct_11 : decode cX5_beginsAct 11 = .ok (.if_acmp .eq 52, 3) := by decide +kernel
theorem dX5_beginsAct_14 : decode cX5_beginsAct 14 = .ok (.aload_n 0, 1) := by decide +kernel
theorem dX5_beginsAct_15 : decode cX5_beginsAct 15 = .ok (.getstatic 31, 3) := by decide +kernel
theorem dX5_beginsAct_18 : decode cX5_beginsAct 18 = .ok (.if_acmp .eq 45, 3) := by decide +kernel
theorem dX5_beginsAct_21 : decode cX5_beginsAct 21 = .ok (.aload_n 0, 1) := by decide +kernel
theorem dX5_beginsAct_22 : decode cX5_beginsAct 22 = .ok (.getstatic 37, 3) := by decide +kernel
theorem dX5_beginsAct_25 : decode cX5_beginsAct 25 = .ok (.if_acmp .eq 38, 3) := by decide +kernel
theorem dX5_beginsAct_28 : decode cX5_beginsAct 28 = .ok (.aload_n 0, 1) := by decide +kernel
theorem dX5_beginsAct_29 : decode cX5_beginsAct 29 = .ok (.getstatic 40, 3) := by decide +kernel
theorem dX5_beginsAct_32 : decode cX5_beginsAct 32 = .ok (.if_acmp .eq 31, 3) := by decide +kernel
theorem dX5_beginsAct_35 : decode cX5_beginsAct 35 = .ok (.aload_n 0, 1) := by decide +kernel
theorem dX5_beginsAct_36 : decode cX5_beginsAct 36 = .ok (.getstatic 43, 3) := by decide +kernel
theorem dX5_beginsAct_39 : decode cX5_beginsAct 39 = .ok (.if_acmp .eq 24, 3) := by decide +kernel
theorem dX5_beginsAct_42 : decode cX5_beginsAct 42 = .ok (.aload_n 0, 1) := by decide +kernel
theorem dX5_beginsAct_43 : decode cX5_beginsAct 43 = .ok (.getstatic 46, 3) := by decide +kernel
theorem dX5_beginsAct_46 : decode cX5_beginsAct 46 = .ok (.if_acmp .eq 17, 3) := by decide +kernel
theorem dX5_beginsAct_49 : decode cX5_beginsAct 49 = .ok (.aload_n 0, 1) := by decide +kernel
theorem dX5_beginsAct_50 : decode cX5_beginsAct 50 = .ok (.getstatic 49, 3) := by decide +kernel
theorem dX5_beginsAct_53 : decode cX5_beginsAct 53 = .ok (.if_acmp .eq 10, 3) := by decide +kernel
theorem dX5_beginsAct_56 : decode cX5_beginsAct 56 = .ok (.aload_n 0, 1) := by decide +kernel
theorem dX5_beginsAct_57 : decode cX5_beginsAct 57 = .ok (.getstatic 52, 3) := by decide +kernel
theorem dX5_beginsAct_60 : decode cX5_beginsAct 60 = .ok (.if_acmp .ne 7, 3) := by decide +kernel
theorem dX5_beginsAct_63 : decode cX5_beginsAct 63 = .ok (.iconst 1, 1) := by decide +kernel
theorem dX5_beginsAct_64 : decode cX5_beginsAct 64 = .ok (.goto 4, 3) := by decide +kernel
theorem dX5_beginsAct_67 : decode cX5_beginsAct 67 = .ok (.iconst 0, 1) := by decide +kernel
theorem dX5_beginsAct_68 : decode cX5_beginsAct 68 = .ok (.ireturn, 1) := by decide +kernel
theorem dX5_isMeasure_0 : decode cX5_isMeasure 0 = .ok (.aload_n 0, 1) := by decide +kernel
theorem dX5_isMeasure_1 : decode cX5_isMeasure 1 = .ok (.getstatic 61, 3) := by decide +kernel
theorem dX5_isMeasure_4 : decode cX5_isMeasure 4 = .ok (.if_acmp .eq 31, 3) := by decide +kernel
theorem dX5_isMeasure_7 : decode cX5_isMeasure 7 = .ok (.aload_n 0, 1) := by decide +kernel
theorem dX5_isMeasure_8 : decode cX5_isMeasure 8 = .ok (.getstatic 64, 3) := by decide +kernel
theorem dX5_isMeasure_11 : decode cX5_isMeasure 11 = .ok (.if_acmp .eq 24, 3) := by decide +kernel
theorem dX5_isMeasure_14 : decode cX5_isMeasure 14 = .ok (.aload_n 0, 1) := by decide +kernel
theorem dX5_isMeasure_15 : decode cX5_isMeasure 15 = .ok (.getstatic 67, 3) := by decide +kernel
theorem dX5_isMeasure_18 : decode cX5_isMeasure 18 = .ok (.if_acmp .eq 17, 3) := by decide +kernel
theorem dX5_isMeasure_21 : decode cX5_isMeasure 21 = .ok (.aload_n 0, 1) := by decide +kernel
theorem dX5_isMeasure_22 : decode cX5_isMeasure 22 = .ok (.getstatic 70, 3) := by decide +kernel
theorem dX5_isMeasure_25 : decode cX5_isMeasure 25 = .ok (.if_acmp .eq 10, 3) := by decide +kernel
theorem dX5_isMeasure_28 : decode cX5_isMeasure 28 = .ok (.aload_n 0, 1) := by decide +kernel
theorem dX5_isMeasure_29 : decode cX5_isMeasure 29 = .ok (.getstatic 73, 3) := by decide +kernel
theorem dX5_isMeasure_32 : decode cX5_isMeasure 32 = .ok (.if_acmp .ne 7, 3) := by decide +kernel
theorem dX5_isMeasure_35 : decode cX5_isMeasure 35 = .ok (.iconst 1, 1) := by decide +kernel
theorem dX5_isMeasure_36 : decode cX5_isMeasure 36 = .ok (.goto 4, 3) := by decide +kernel
theorem dX5_isMeasure_39 : decode cX5_isMeasure 39 = .ok (.iconst 0, 1) := by decide +kernel
theorem dX5_isMeasure_40 : decode cX5_isMeasure 40 = .ok (.ireturn, 1) := by decide +kernel
theorem dX5_isContent_0 : decode cX5_isContent 0 = .ok (.aload_n 0, 1) := by decide +kernel
theorem dX5_isContent_1 : decode cX5_isContent 1 = .ok (.getstatic 16, 3) := by decide +kernel
theorem dX5_isContent_4 : decode cX5_isContent 4 = .ok (.if_acmp .eq 31, 3) := by decide +kernel
theorem dX5_isContent_7 : decode cX5_isContent 7 = .ok (.aload_n 0, 1) := by decide +kernel
theorem dX5_isContent_8 : decode cX5_isContent 8 = .ok (.getstatic 19, 3) := by decide +kernel
theorem dX5_isContent_11 : decode cX5_isContent 11 = .ok (.if_acmp .eq 24, 3) := by decide +kernel
theorem dX5_isContent_14 : decode cX5_isContent 14 = .ok (.aload_n 0, 1) := by decide +kernel
theorem dX5_isContent_15 : decode cX5_isContent 15 = .ok (.getstatic 25, 3) := by decide +kernel
theorem dX5_isContent_18 : decode cX5_isContent 18 = .ok (.if_acmp .eq 17, 3) := by decide +kernel
theorem dX5_isContent_21 : decode cX5_isContent 21 = .ok (.aload_n 0, 1) := by decide +kernel
theorem dX5_isContent_22 : decode cX5_isContent 22 = .ok (.getstatic 79, 3) := by decide +kernel
theorem dX5_isContent_25 : decode cX5_isContent 25 = .ok (.if_acmp .eq 10, 3) := by decide +kernel
theorem dX5_isContent_28 : decode cX5_isContent 28 = .ok (.aload_n 0, 1) := by decide +kernel
theorem dX5_isContent_29 : decode cX5_isContent 29 = .ok (.getstatic 82, 3) := by decide +kernel
theorem dX5_isContent_32 : decode cX5_isContent 32 = .ok (.if_acmp .ne 7, 3) := by decide +kernel
theorem dX5_isContent_35 : decode cX5_isContent 35 = .ok (.iconst 1, 1) := by decide +kernel
theorem dX5_isContent_36 : decode cX5_isContent 36 = .ok (.goto 4, 3) := by decide +kernel
theorem dX5_isContent_39 : decode cX5_isContent 39 = .ok (.iconst 0, 1) := by decide +kernel
theorem dX5_isContent_40 : decode cX5_isContent 40 = .ok (.ireturn, 1) := by decide +kernel
theorem dX5_isCompareSign_0 : decode cX5_isCompareSign 0 = .ok (.aload_n 0, 1) := by decide +kernel
theorem dX5_isCompareSign_1 : decode cX5_isCompareSign 1 = .ok (.getstatic 94, 3) := by decide +kernel
theorem dX5_isCompareSign_4 : decode cX5_isCompareSign 4 = .ok (.if_acmp .eq 17, 3) := by decide +kernel
theorem dX5_isCompareSign_7 : decode cX5_isCompareSign 7 = .ok (.aload_n 0, 1) := by decide +kernel
theorem dX5_isCompareSign_8 : decode cX5_isCompareSign 8 = .ok (.getstatic 97, 3) := by decide +kernel
theorem dX5_isCompareSign_11 : decode cX5_isCompareSign 11 = .ok (.if_acmp .eq 10, 3) := by decide +kernel
theorem dX5_isCompareSign_14 : decode cX5_isCompareSign 14 = .ok (.aload_n 0, 1) := by decide +kernel
theorem dX5_isCompareSign_15 : decode cX5_isCompareSign 15 = .ok (.getstatic 100, 3) := by decide +kernel
theorem dX5_isCompareSign_18 : decode cX5_isCompareSign 18 = .ok (.if_acmp .ne 7, 3) := by decide +kernel
theorem dX5_isCompareSign_21 : decode cX5_isCompareSign 21 = .ok (.iconst 1, 1) := by decide +kernel
theorem dX5_isCompareSign_22 : decode cX5_isCompareSign 22 = .ok (.goto 4, 3) := by decide +kernel
theorem dX5_isCompareSign_25 : decode cX5_isCompareSign 25 = .ok (.iconst 0, 1) := by decide +kernel
theorem dX5_isCompareSign_26 : decode cX5_isCompareSign 26 = .ok (.ireturn, 1) := by decide +kernel
theorem dX5_isValueSign_0 : decode cX5_isValueSign 0 = .ok (.aload_n 0, 1) := by decide +kernel
theorem dX5_isValueSign_1 : decode cX5_isValueSign 1 = .ok (.getstatic 103, 3) := by decide +kernel
theorem dX5_isValueSign_4 : decode cX5_isValueSign 4 = .ok (.if_acmp .eq 24, 3) := by decide +kernel
theorem dX5_isValueSign_7 : decode cX5_isValueSign 7 = .ok (.aload_n 0, 1) := by decide +kernel
theorem dX5_isValueSign_8 : decode cX5_isValueSign 8 = .ok (.getstatic 106, 3) := by decide +kernel
theorem dX5_isValueSign_11 : decode cX5_isValueSign 11 = .ok (.if_acmp .eq 17, 3) := by decide +kernel
theorem dX5_isValueSign_14 : decode cX5_isValueSign 14 = .ok (.aload_n 0, 1) := by decide +kernel
theorem dX5_isValueSign_15 : decode cX5_isValueSign 15 = .ok (.getstatic 109, 3) := by decide +kernel
theorem dX5_isValueSign_18 : decode cX5_isValueSign 18 = .ok (.if_acmp .eq 10, 3) := by decide +kernel
theorem dX5_isValueSign_21 : decode cX5_isValueSign 21 = .ok (.aload_n 0, 1) := by decide +kernel
theorem dX5_isValueSign_22 : decode cX5_isValueSign 22 = .ok (.getstatic 112, 3) := by decide +kernel
theorem dX5_isValueSign_25 : decode cX5_isValueSign 25 = .ok (.if_acmp .ne 7, 3) := by decide +kernel
theorem dX5_isValueSign_28 : decode cX5_isValueSign 28 = .ok (.iconst 1, 1) := by decide +kernel
theorem dX5_isValueSign_29 : decode cX5_isValueSign 29 = .ok (.goto 4, 3) := by decide +kernel
theorem dX5_isValueSign_32 : decode cX5_isValueSign 32 = .ok (.iconst 0, 1) := by decide +kernel
theorem dX5_isValueSign_33 : decode cX5_isValueSign 33 = .ok (.ireturn, 1) := by decide +kernel
set_option maxRecDepth 20000 in
theorem ggX6_init_X4_init : GoodIn wsX6_init wsX4_init := goodIn_r _ [22, 23, 2, 3, 11, 24, 47, 48] (by decide +kernel) (by decide +kernel)
set_option maxRecDepth 20000 in
theorem gX6_init_X4_init_n21 : GoodIn wsX6_init (wsX4_init) := ggX6_init_X4_init
set_option maxRecDepth 20000 in
theorem ggX6_init_X2_init : GoodIn wsX6_init wsX2_init := goodIn_r _ [26, 27, 2, 3, 28, 29, 11, 30, 31, 32, 33, 49, 50, 51, 52, 53, 54, 55] (by decide +kernel) (by decide +kernel)
set_option maxRecDepth 20000 in
theorem gX6_init_X2_init_n33 : GoodIn wsX6_init (wsX2_init) := ggX6_init_X2_init
set_option maxRecDepth 20000 in
theorem ggX6_init_X7_init : GoodIn wsX6_init wsX7_init := goodIn_r _ [35, 36, 2, 3, 37, 56, 57, 58, 59, 60] (by decide +kernel) (by decide +kernel)
set_option maxRecDepth 20000 in
theorem gX6_init_X7_init_n45 : GoodIn wsX6_init (wsX7_init) := ggX6_init_X7_init
theorem dX6_init_0 : decode cX6_init 0 = .ok (.aload_n 0, 1) := by decide +kernel
theorem dX6_init_1 : decode cX6_init 1 = .ok (.invokespecial 3, 3) := by decide +kernel
theorem dX6_init_4 : decode cX6_init 4 = .ok (.aload_n 0, 1) := by decide +kernel
theorem dX6_init_5 : decode cX6_init 5 = .ok (.bipush 8, 2) := by decide +kernel
theorem dX6_init_7 : decode cX6_init 7 = .ok (.anewarray 11, 3) := by decide +kernel
theorem dX6_init_10 : decode cX6_init 10 = .ok (.putfield 13, 3) := by decide +kernel
theorem dX6_init_13 : decode cX6_init 13 = .ok (.aload_n 0, 1) := by decide +kernel
theorem dX6_init_14 : decode cX6_init 14 = .ok (.new 19, 3) := by decide +kernel
theorem dX6_init_17 : decode cX6_init 17 = .ok (.dup, 1) := by decide +kernel
theorem dX6_init_18 : decode cX6_init 18 = .ok (.invokespecial 21, 3) := by decide +kernel
theorem dX6_init_21 : decode cX6_init 21 = .ok (.putfield 22, 3) := by decide +kernel
theorem dX6_init_24 : decode cX6_init 24 = .ok (.aload_n 0, 1) := by decide +kernel
theorem dX6_init_25 : decode cX6_init 25 = .ok (.new 19, 3) := by decide +kernel
theorem dX6_init_28 : decode cX6_init 28 = .ok (.dup, 1) := by decide +kernel
theorem dX6_init_29 : decode cX6_init 29 = .ok (.invokespecial 21, 3) := by decide +kernel
theorem dX6_init_32 : decode cX6_init 32 = .ok (.putfield 26, 3) := by decide +kernel
theorem dX6_init_35 : decode cX6_init 35 = .ok (.aload_n 0, 1) := by decide +kernel
theorem dX6_init_36 : decode cX6_init 36 = .ok (.bipush 6, 2) := by decide +kernel
theorem dX6_init_38 : decode cX6_init 38 = .ok (.newarray .int, 2) := by decide +kernel
theorem dX6_init_40 : decode cX6_init 40 = .ok (.putfield 29, 3) := by decide +kernel
theorem dX6_init_43 : decode cX6_init 43 = .ok (.aload_n 0, 1) := by decide +kernel
theorem dX6_init_44 : decode cX6_init 44 = .ok (.new 9, 3) := by decide +kernel
theorem dX6_init_47 : decode cX6_init 47 = .ok (.dup, 1) := by decide +kernel
theorem dX6_init_48 : decode cX6_init 48 = .ok (.invokespecial 33, 3) := by decide +kernel
theorem dX6_init_51 : decode cX6_init 51 = .ok (.putfield 34, 3) := by decide +kernel
theorem dX6_init_54 : decode cX6_init 54 = .ok (.aload_n 0, 1) := by decide +kernel
theorem dX6_init_55 : decode cX6_init 55 = .ok (.iconst 4, 1) := by decide +kernel
theorem dX6_init_56 : decode cX6_init 56 = .ok (.putfield 38, 3) := by decide +kernel
theorem dX6_init_59 : decode cX6_init 59 = .ok (.aload_n 0, 1) := by decide +kernel
theorem dX6_init_60 : decode cX6_init 60 = .ok (.iconst 1, 1) := by decide +kernel
theorem dX6_init_61 : decode cX6_init 61 = .ok (.putfield 42, 3) := by decide +kernel
theorem dX6_init_64 : decode cX6_init 64 = .ok (.iconst 0, 1) := by decide +kernel
theorem dX6_init_65 : decode cX6_init 65 = .ok (.istore_n 1, 1) := by decide +kernel
theorem dX6_init_66 : decode cX6_init 66 = .ok (.iload_n 1, 1) := by decide +kernel
theorem dX6_init_67 : decode cX6_init 67 = .ok (.aload_n 0, 1) := by decide +kernel
theorem dX6_init_68 : decode cX6_init 68 = .ok (.getfield 13, 3) := by decide +kernel
theorem dX6_init_71 : decode cX6_init 71 = .ok (.arraylength, 1) := by decide +kernel
theorem dX6_init_72 : decode cX6_init 72 = .ok (.if_icmp .ge 22, 3) := by decide +kernel
theorem dX6_init_75 : decode cX6_init 75 = .ok (.aload_n 0, 1) := by decide +kernel
theorem dX6_init_76 : decode cX6_init 76 = .ok (.getfield 13, 3) := by decide +kernel
theorem dX6_init_79 : decode cX6_init 79 = .ok (.iload_n 1, 1) := by decide +kernel
theorem dX6_init_80 : decode cX6_init 80 = .ok (.new 11, 3) := by decide +kernel
theorem dX6_init_83 : decode cX6_init 83 = .ok (.dup, 1) := by decide +kernel
theorem dX6_init_84 : decode cX6_init 84 = .ok (.invokespecial 45, 3) := by decide +kernel
theorem dX6_init_87 : decode cX6_init 87 = .ok (.aastore, 1) := by decide +kernel
theorem dX6_init_88 : decode cX6_init 88 = .ok (.iinc 1 1, 3) := by decide +kernel
theorem dX6_init_91 : decode cX6_init 91 = .ok (.goto (-25), 3) := by decide +kernel
theorem dX6_init_94 : decode cX6_init 94 = .ok (.return_, 1) := by decide +kernel
set_option maxRecDepth 20000 in
theorem ggX6_begin_X6_forget : GoodIn wsX6_begin wsX6_forget := goodIn_r _ [10, 11, 12, 13, 14, 15, 16, 17, 18, 19, 40, 41, 42, 43, 44, 45, 46, 47, 48, 61, 62] (by decide +kernel) (by decide +kernel)
set_option maxRecDepth 20000 in
theorem gX6_begin_X6_forget : GoodIn wsX6_begin (wsV RX6 52 RX6 yX6_forget wsX6_forget) := goodIn_app (goodIn_of _ (by decide +kernel)) ggX6_begin_X6_forget
set_option maxRecDepth 20000 in
theorem ggX6_begin_X6_panAt : GoodIn wsX6_begin wsX6_panAt := goodIn_r _ [23, 1, 24, 40, 41, 42, 43, 44, 45, 46, 47, 48, 49, 50, 51, 52, 53, 54, 55] (by decide +kernel) (by decide +kernel)
set_option maxRecDepth 20000 in
theorem gX6_begin_X6_panAt : GoodIn wsX6_begin (wsV RX6 58 RX6 yX6_panAt wsX6_panAt) := goodIn_app (goodIn_of _ (by decide +kernel)) ggX6_begin_X6_panAt
set_option maxRecDepth 20000 in
theorem ggX6_begin_X7_clear : GoodIn wsX6_begin wsX7_clear := goodIn_r _ [29, 30, 31, 32, 33, 56, 57, 58, 59, 60] (by decide +kernel) (by decide +kernel)
set_option maxRecDepth 20000 in
theorem gX6_begin_X7_clear : GoodIn wsX6_begin (wsV RX6 62 RX7 yX7_clear wsX7_clear) := goodIn_app (goodIn_of _ (by decide +kernel)) ggX6_begin_X7_clear
set_option maxRecDepth 20000 in
theorem ggX6_begin_X2_spoonsOf : GoodIn wsX6_begin wsX2_spoonsOf := goodIn_r _ [38, 39, 49, 50, 51, 52, 53, 54, 55] (by decide +kernel) (by decide +kernel)
set_option maxRecDepth 20000 in
theorem gX6_begin_X2_spoonsOf : GoodIn wsX6_begin (wsV RX6 65 RX2 yX2_spoonsOf wsX2_spoonsOf) := goodIn_app (goodIn_of _ (by decide +kernel)) ggX6_begin_X2_spoonsOf
theorem dX6_begin_0 : decode cX6_begin 0 = .ok (.aload_n 0, 1) := by decide +kernel
theorem dX6_begin_1 : decode cX6_begin 1 = .ok (.aload_n 1, 1) := by decide +kernel
theorem dX6_begin_2 : decode cX6_begin 2 = .ok (.putfield 34, 3) := by decide +kernel
theorem dX6_begin_5 : decode cX6_begin 5 = .ok (.aload_n 0, 1) := by decide +kernel
theorem dX6_begin_6 : decode cX6_begin 6 = .ok (.iconst 0, 1) := by decide +kernel
theorem dX6_begin_7 : decode cX6_begin 7 = .ok (.putfield 46, 3) := by decide +kernel
theorem dX6_begin_10 : decode cX6_begin 10 = .ok (.aload_n 0, 1) := by decide +kernel
