theorem dL_trim_9 : decode cL_trim 9 = .ok (.goto 6, 3) := by decide +kernel
theorem dL_trim_12 : decode cL_trim 12 = .ok (.astore_n 3, 1) := by decide +kernel
theorem dL_trim_13 : decode cL_trim 13 = .ok (.iconst 1, 1) := by decide +kernel
theorem dL_trim_14 : decode cL_trim 14 = .ok (.ireturn, 1) := by decide +kernel
theorem dL_trim_15 : decode cL_trim 15 = .ok (.iconst 0, 1) := by decide +kernel
theorem dL_trim_16 : decode cL_trim 16 = .ok (.ireturn, 1) := by decide +kernel
set_option maxRecDepth 20000 in
theorem ggL_holdsOf_X12_holdsOf : GoodIn wsL_holdsOf wsX12_holdsOf := goodIn_ca (goodIn_r _ [6, 7, 8, 9, 5, 10, 11, 12, 13, 14, 15, 16, 17, 18, 19, 20, 21, 22, 23, 24, 25, 26, 27, 28, 29, 30, 31, 32, 33, 34, 35, 36, 37, 38, 39, 40, 41, 42, 43, 44, 45, 46, 47, 48] (by decide +kernel) (by decide +kernel)) (goodIn_sub (fun _ h => List.mem_cons_of_mem _ (List.mem_append_right _ h)) (by decide +kernel))
set_option maxRecDepth 20000 in
theorem gL_holdsOf_X12_holdsOf : GoodIn wsL_holdsOf (wsV RL 21 RX12 yX12_holdsOf wsX12_holdsOf) := goodIn_app (goodIn_of _ (by decide +kernel)) ggL_holdsOf_X12_holdsOf
theorem dL_holdsOf_0 : decode cL_holdsOf 0 = .ok (.aload_n 2, 1) := by decide +kernel
theorem dL_holdsOf_1 : decode cL_holdsOf 1 = .ok (.iconst 0, 1) := by decide +kernel
theorem dL_holdsOf_2 : decode cL_holdsOf 2 = .ok (.aload_n 0, 1) := by decide +kernel
theorem dL_holdsOf_3 : decode cL_holdsOf 3 = .ok (.iload_n 1, 1) := by decide +kernel
theorem dL_holdsOf_4 : decode cL_holdsOf 4 = .ok (.invokevirtual 21, 3) := by decide +kernel
theorem dL_holdsOf_7 : decode cL_holdsOf 7 = .ok (.i2l, 1) := by decide +kernel
theorem dL_holdsOf_8 : decode cL_holdsOf 8 = .ok (.lastore, 1) := by decide +kernel
theorem dL_holdsOf_9 : decode cL_holdsOf 9 = .ok (.goto 6, 3) := by decide +kernel
theorem dL_holdsOf_12 : decode cL_holdsOf 12 = .ok (.astore_n 3, 1) := by decide +kernel
theorem dL_holdsOf_13 : decode cL_holdsOf 13 = .ok (.iconst 1, 1) := by decide +kernel
theorem dL_holdsOf_14 : decode cL_holdsOf 14 = .ok (.ireturn, 1) := by decide +kernel
theorem dL_holdsOf_15 : decode cL_holdsOf 15 = .ok (.iconst 0, 1) := by decide +kernel
theorem dL_holdsOf_16 : decode cL_holdsOf 16 = .ok (.ireturn, 1) := by decide +kernel
set_option maxRecDepth 20000 in
theorem ggL_waterIn_X12_waterIn : GoodIn wsL_waterIn wsX12_waterIn := goodIn_ca (goodIn_r _ [6, 7, 8, 9, 5, 10, 11, 12, 13, 14, 15, 16, 17, 18, 19, 20, 21, 22, 23, 24, 25, 26, 27, 28, 29, 30, 31, 32, 33, 34, 35, 36, 37, 38, 39, 40, 41, 42, 43, 44, 45, 46, 47, 48] (by decide +kernel) (by decide +kernel)) (goodIn_sub (fun _ h => List.mem_cons_of_mem _ (List.mem_append_right _ h)) (by decide +kernel))
set_option maxRecDepth 20000 in
theorem gL_waterIn_X12_waterIn : GoodIn wsL_waterIn (wsV RL 26 RX12 yX12_waterIn wsX12_waterIn) := goodIn_app (goodIn_of _ (by decide +kernel)) ggL_waterIn_X12_waterIn
theorem dL_waterIn_0 : decode cL_waterIn 0 = .ok (.aload_n 2, 1) := by decide +kernel
theorem dL_waterIn_1 : decode cL_waterIn 1 = .ok (.iconst 0, 1) := by decide +kernel
theorem dL_waterIn_2 : decode cL_waterIn 2 = .ok (.aload_n 0, 1) := by decide +kernel
theorem dL_waterIn_3 : decode cL_waterIn 3 = .ok (.iload_n 1, 1) := by decide +kernel
theorem dL_waterIn_4 : decode cL_waterIn 4 = .ok (.invokevirtual 26, 3) := by decide +kernel
theorem dL_waterIn_7 : decode cL_waterIn 7 = .ok (.i2l, 1) := by decide +kernel
theorem dL_waterIn_8 : decode cL_waterIn 8 = .ok (.lastore, 1) := by decide +kernel
theorem dL_waterIn_9 : decode cL_waterIn 9 = .ok (.goto 6, 3) := by decide +kernel
theorem dL_waterIn_12 : decode cL_waterIn 12 = .ok (.astore_n 3, 1) := by decide +kernel
theorem dL_waterIn_13 : decode cL_waterIn 13 = .ok (.iconst 1, 1) := by decide +kernel
theorem dL_waterIn_14 : decode cL_waterIn 14 = .ok (.ireturn, 1) := by decide +kernel
theorem dL_waterIn_15 : decode cL_waterIn 15 = .ok (.iconst 0, 1) := by decide +kernel
theorem dL_waterIn_16 : decode cL_waterIn 16 = .ok (.ireturn, 1) := by decide +kernel
set_option maxRecDepth 20000 in
theorem ggL_mealIn_X12_mealIn : GoodIn wsL_mealIn wsX12_mealIn := goodIn_ca (goodIn_r _ [6, 7, 8, 9, 5, 10, 11, 12, 13, 14, 15, 16, 17, 18, 19, 20, 21, 22, 23, 24, 25, 26, 27, 28, 29, 30, 31, 32, 33, 34, 35, 36, 37, 38, 39, 40, 41, 42, 43, 44, 45, 46, 47, 48] (by decide +kernel) (by decide +kernel)) (goodIn_sub (fun _ h => List.mem_cons_of_mem _ (List.mem_append_right _ h)) (by decide +kernel))
set_option maxRecDepth 20000 in
theorem gL_mealIn_X12_mealIn : GoodIn wsL_mealIn (wsV RL 29 RX12 yX12_mealIn wsX12_mealIn) := goodIn_app (goodIn_of _ (by decide +kernel)) ggL_mealIn_X12_mealIn
theorem dL_mealIn_0 : decode cL_mealIn 0 = .ok (.aload_n 2, 1) := by decide +kernel
theorem dL_mealIn_1 : decode cL_mealIn 1 = .ok (.iconst 0, 1) := by decide +kernel
theorem dL_mealIn_2 : decode cL_mealIn 2 = .ok (.aload_n 0, 1) := by decide +kernel
theorem dL_mealIn_3 : decode cL_mealIn 3 = .ok (.iload_n 1, 1) := by decide +kernel
theorem dL_mealIn_4 : decode cL_mealIn 4 = .ok (.invokevirtual 29, 3) := by decide +kernel
theorem dL_mealIn_7 : decode cL_mealIn 7 = .ok (.i2l, 1) := by decide +kernel
theorem dL_mealIn_8 : decode cL_mealIn 8 = .ok (.lastore, 1) := by decide +kernel
theorem dL_mealIn_9 : decode cL_mealIn 9 = .ok (.goto 6, 3) := by decide +kernel
theorem dL_mealIn_12 : decode cL_mealIn 12 = .ok (.astore_n 3, 1) := by decide +kernel
theorem dL_mealIn_13 : decode cL_mealIn 13 = .ok (.iconst 1, 1) := by decide +kernel
theorem dL_mealIn_14 : decode cL_mealIn 14 = .ok (.ireturn, 1) := by decide +kernel
theorem dL_mealIn_15 : decode cL_mealIn 15 = .ok (.iconst 0, 1) := by decide +kernel
theorem dL_mealIn_16 : decode cL_mealIn 16 = .ok (.ireturn, 1) := by decide +kernel
set_option maxRecDepth 20000 in
theorem ggL_heatOf_X12_heatOf : GoodIn wsL_heatOf wsX12_heatOf := goodIn_ca (goodIn_r _ [6, 7, 8, 9, 5, 10, 11, 12, 13, 14, 15, 16, 17, 18, 19, 20, 21, 22, 23, 24, 25, 26, 27, 28, 29, 30, 31, 32, 33, 34, 35, 36, 37, 38, 39, 40, 41, 42, 43, 44, 45, 46, 47, 48] (by decide +kernel) (by decide +kernel)) (goodIn_sub (fun _ h => List.mem_cons_of_mem _ (List.mem_append_right _ h)) (by decide +kernel))
set_option maxRecDepth 20000 in
theorem gL_heatOf_X12_heatOf : GoodIn wsL_heatOf (wsV RL 32 RX12 yX12_heatOf wsX12_heatOf) := goodIn_app (goodIn_of _ (by decide +kernel)) ggL_heatOf_X12_heatOf
theorem dL_heatOf_0 : decode cL_heatOf 0 = .ok (.aload_n 2, 1) := by decide +kernel
theorem dL_heatOf_1 : decode cL_heatOf 1 = .ok (.iconst 0, 1) := by decide +kernel
theorem dL_heatOf_2 : decode cL_heatOf 2 = .ok (.aload_n 0, 1) := by decide +kernel
theorem dL_heatOf_3 : decode cL_heatOf 3 = .ok (.iload_n 1, 1) := by decide +kernel
theorem dL_heatOf_4 : decode cL_heatOf 4 = .ok (.invokevirtual 32, 3) := by decide +kernel
theorem dL_heatOf_7 : decode cL_heatOf 7 = .ok (.i2l, 1) := by decide +kernel
theorem dL_heatOf_8 : decode cL_heatOf 8 = .ok (.lastore, 1) := by decide +kernel
theorem dL_heatOf_9 : decode cL_heatOf 9 = .ok (.goto 6, 3) := by decide +kernel
theorem dL_heatOf_12 : decode cL_heatOf 12 = .ok (.astore_n 3, 1) := by decide +kernel
theorem dL_heatOf_13 : decode cL_heatOf 13 = .ok (.iconst 1, 1) := by decide +kernel
theorem dL_heatOf_14 : decode cL_heatOf 14 = .ok (.ireturn, 1) := by decide +kernel
theorem dL_heatOf_15 : decode cL_heatOf 15 = .ok (.iconst 0, 1) := by decide +kernel
theorem dL_heatOf_16 : decode cL_heatOf 16 = .ok (.ireturn, 1) := by decide +kernel
set_option maxRecDepth 20000 in
theorem ggL_doneIn_X12_doneIn : GoodIn wsL_doneIn wsX12_doneIn := goodIn_ca (goodIn_r _ [6, 7, 8, 9, 5, 10, 11, 12, 13, 14, 15, 16, 17, 18, 19, 20, 21, 22, 23, 24, 25, 26, 27, 28, 29, 30, 31, 32, 33, 34, 35, 36, 37, 38, 39, 40, 41, 42, 43, 44, 45, 46, 47, 48] (by decide +kernel) (by decide +kernel)) (goodIn_sub (fun _ h => List.mem_cons_of_mem _ (List.mem_append_right _ h)) (by decide +kernel))
set_option maxRecDepth 20000 in
theorem gL_doneIn_X12_doneIn : GoodIn wsL_doneIn (wsV RL 35 RX12 yX12_doneIn wsX12_doneIn) := goodIn_app (goodIn_of _ (by decide +kernel)) ggL_doneIn_X12_doneIn
theorem dL_doneIn_0 : decode cL_doneIn 0 = .ok (.aload_n 2, 1) := by decide +kernel
theorem dL_doneIn_1 : decode cL_doneIn 1 = .ok (.iconst 0, 1) := by decide +kernel
theorem dL_doneIn_2 : decode cL_doneIn 2 = .ok (.aload_n 0, 1) := by decide +kernel
theorem dL_doneIn_3 : decode cL_doneIn 3 = .ok (.iload_n 1, 1) := by decide +kernel
theorem dL_doneIn_4 : decode cL_doneIn 4 = .ok (.invokevirtual 35, 3) := by decide +kernel
theorem dL_doneIn_7 : decode cL_doneIn 7 = .ok (.i2l, 1) := by decide +kernel
theorem dL_doneIn_8 : decode cL_doneIn 8 = .ok (.lastore, 1) := by decide +kernel
theorem dL_doneIn_9 : decode cL_doneIn 9 = .ok (.goto 6, 3) := by decide +kernel
theorem dL_doneIn_12 : decode cL_doneIn 12 = .ok (.astore_n 3, 1) := by decide +kernel
theorem dL_doneIn_13 : decode cL_doneIn 13 = .ok (.iconst 1, 1) := by decide +kernel
theorem dL_doneIn_14 : decode cL_doneIn 14 = .ok (.ireturn, 1) := by decide +kernel
theorem dL_doneIn_15 : decode cL_doneIn 15 = .ok (.iconst 0, 1) := by decide +kernel
theorem dL_doneIn_16 : decode cL_doneIn 16 = .ok (.ireturn, 1) := by decide +kernel
set_option maxRecDepth 20000 in
theorem ggL_roomIn_X12_roomIn : GoodIn wsL_roomIn wsX12_roomIn := goodIn_ca (goodIn_r _ [6, 7, 8, 9, 5, 10, 11, 12, 13, 14, 15, 16, 17, 18, 19, 20, 21, 22, 23, 24, 25, 26, 27, 28, 29, 30, 31, 32, 33, 34, 35, 36, 37, 38, 39, 40, 41, 42, 43, 44, 45, 46, 47, 48, 49, 50, 51, 52, 53, 54, 55, 56] (by decide +kernel) (by decide +kernel)) (goodIn_sub (fun _ h => List.mem_cons_of_mem _ (List.mem_append_right _ h)) (by decide +kernel))
set_option maxRecDepth 20000 in
theorem gL_roomIn_X12_roomIn : GoodIn wsL_roomIn (wsV RL 38 RX12 yX12_roomIn wsX12_roomIn) := goodIn_app (goodIn_of _ (by decide +kernel)) ggL_roomIn_X12_roomIn
theorem dL_roomIn_0 : decode cL_roomIn 0 = .ok (.aload_n 2, 1) := by decide +kernel
theorem dL_roomIn_1 : decode cL_roomIn 1 = .ok (.iconst 0, 1) := by decide +kernel
theorem dL_roomIn_2 : decode cL_roomIn 2 = .ok (.aload_n 0, 1) := by decide +kernel
theorem dL_roomIn_3 : decode cL_roomIn 3 = .ok (.iload_n 1, 1) := by decide +kernel
theorem dL_roomIn_4 : decode cL_roomIn 4 = .ok (.invokevirtual 38, 3) := by decide +kernel
theorem dL_roomIn_7 : decode cL_roomIn 7 = .ok (.i2l, 1) := by decide +kernel
theorem dL_roomIn_8 : decode cL_roomIn 8 = .ok (.lastore, 1) := by decide +kernel
theorem dL_roomIn_9 : decode cL_roomIn 9 = .ok (.goto 6, 3) := by decide +kernel
theorem dL_roomIn_12 : decode cL_roomIn 12 = .ok (.astore_n 3, 1) := by decide +kernel
theorem dL_roomIn_13 : decode cL_roomIn 13 = .ok (.iconst 1, 1) := by decide +kernel
theorem dL_roomIn_14 : decode cL_roomIn 14 = .ok (.ireturn, 1) := by decide +kernel
theorem dL_roomIn_15 : decode cL_roomIn 15 = .ok (.iconst 0, 1) := by decide +kernel
theorem dL_roomIn_16 : decode cL_roomIn 16 = .ok (.ireturn, 1) := by decide +kernel
set_option maxRecDepth 20000 in
theorem ggL_boilingAt_X12_boilingAt : GoodIn wsL_boilingAt wsX12_boilingAt := goodIn_ca (goodIn_r _ [6, 7, 8, 5, 9, 10, 11, 12, 13, 14, 15] (by decide +kernel) (by decide +kernel)) (goodIn_sub (fun _ h => List.mem_cons_of_mem _ (List.mem_append_right _ h)) (by decide +kernel))
set_option maxRecDepth 20000 in
theorem gL_boilingAt_X12_boilingAt : GoodIn wsL_boilingAt (wsV RL 41 RX12 yX12_boilingAt wsX12_boilingAt) := goodIn_app (goodIn_of _ (by decide +kernel)) ggL_boilingAt_X12_boilingAt
theorem dL_boilingAt_0 : decode cL_boilingAt 0 = .ok (.aload_n 2, 1) := by decide +kernel
theorem dL_boilingAt_1 : decode cL_boilingAt 1 = .ok (.iconst 0, 1) := by decide +kernel
theorem dL_boilingAt_2 : decode cL_boilingAt 2 = .ok (.aload_n 0, 1) := by decide +kernel
theorem dL_boilingAt_3 : decode cL_boilingAt 3 = .ok (.iload_n 1, 1) := by decide +kernel
theorem dL_boilingAt_4 : decode cL_boilingAt 4 = .ok (.invokevirtual 41, 3) := by decide +kernel
theorem dL_boilingAt_7 : decode cL_boilingAt 7 = .ok (.i2l, 1) := by decide +kernel
theorem dL_boilingAt_8 : decode cL_boilingAt 8 = .ok (.lastore, 1) := by decide +kernel
theorem dL_boilingAt_9 : decode cL_boilingAt 9 = .ok (.goto 6, 3) := by decide +kernel
theorem dL_boilingAt_12 : decode cL_boilingAt 12 = .ok (.astore_n 3, 1) := by decide +kernel
theorem dL_boilingAt_13 : decode cL_boilingAt 13 = .ok (.iconst 1, 1) := by decide +kernel
theorem dL_boilingAt_14 : decode cL_boilingAt 14 = .ok (.ireturn, 1) := by decide +kernel
theorem dL_boilingAt_15 : decode cL_boilingAt 15 = .ok (.iconst 0, 1) := by decide +kernel
theorem dL_boilingAt_16 : decode cL_boilingAt 16 = .ok (.ireturn, 1) := by decide +kernel
set_option maxRecDepth 20000 in
theorem ggL_minutesAt_X12_minutesAt : GoodIn wsL_minutesAt wsX12_minutesAt := goodIn_ca (goodIn_r _ [6, 7, 8, 5, 9, 10, 11, 12, 13, 14, 15, 16, 17, 18, 19, 20, 21] (by decide +kernel) (by decide +kernel)) (goodIn_sub (fun _ h => List.mem_cons_of_mem _ (List.mem_append_right _ h)) (by decide +kernel))
set_option maxRecDepth 20000 in
theorem gL_minutesAt_X12_minutesAt : GoodIn wsL_minutesAt (wsV RL 44 RX12 yX12_minutesAt wsX12_minutesAt) := goodIn_app (goodIn_of _ (by decide +kernel)) ggL_minutesAt_X12_minutesAt
theorem dL_minutesAt_0 : decode cL_minutesAt 0 = .ok (.aload_n 3, 1) := by decide +kernel
theorem dL_minutesAt_1 : decode cL_minutesAt 1 = .ok (.iconst 0, 1) := by decide +kernel
theorem dL_minutesAt_2 : decode cL_minutesAt 2 = .ok (.aload_n 0, 1) := by decide +kernel
theorem dL_minutesAt_3 : decode cL_minutesAt 3 = .ok (.iload_n 1, 1) := by decide +kernel
theorem dL_minutesAt_4 : decode cL_minutesAt 4 = .ok (.iload_n 2, 1) := by decide +kernel
theorem dL_minutesAt_5 : decode cL_minutesAt 5 = .ok (.invokevirtual 44, 3) := by decide +kernel
theorem dL_minutesAt_8 : decode cL_minutesAt 8 = .ok (.i2l, 1) := by decide +kernel
theorem dL_minutesAt_9 : decode cL_minutesAt 9 = .ok (.lastore, 1) := by decide +kernel
theorem dL_minutesAt_10 : decode cL_minutesAt 10 = .ok (.goto 7, 3) := by decide +kernel
theorem dL_minutesAt_13 : decode cL_minutesAt 13 = .ok (.astore 4, 2) := by decide +kernel
theorem dL_minutesAt_15 : decode cL_minutesAt 15 = .ok (.iconst 1, 1) := by decide +kernel
theorem dL_minutesAt_16 : decode cL_minutesAt 16 = .ok (.ireturn, 1) := by decide +kernel
theorem dL_minutesAt_17 : decode cL_minutesAt 17 = .ok (.iconst 0, 1) := by decide +kernel
theorem dL_minutesAt_18 : decode cL_minutesAt 18 = .ok (.ireturn, 1) := by decide +kernel
set_option maxRecDepth 20000 in
theorem ggL_amountFor_X12_amountFor : GoodIn wsL_amountFor wsX12_amountFor := goodIn_ca (goodIn_r _ [6, 7, 8, 9, 5, 10, 11, 12, 13, 14, 15, 16, 17, 18, 19, 20, 21, 22, 23, 24, 25, 26, 27, 28, 29, 30, 31, 32, 33, 34, 35, 36, 37, 38, 39, 40, 41, 42, 43, 44, 45, 46] (by decide +kernel) (by decide +kernel)) (goodIn_sub (fun _ h => List.mem_cons_of_mem _ (List.mem_append_right _ h)) (by decide +kernel))
set_option maxRecDepth 20000 in
theorem gL_amountFor_X12_amountFor : GoodIn wsL_amountFor (wsV RL 48 RX12 yX12_amountFor wsX12_amountFor) := goodIn_app (goodIn_of _ (by decide +kernel)) ggL_amountFor_X12_amountFor
theorem dL_amountFor_0 : decode cL_amountFor 0 = .ok (.aload_n 2, 1) := by decide +kernel
theorem dL_amountFor_1 : decode cL_amountFor 1 = .ok (.iconst 0, 1) := by decide +kernel
theorem dL_amountFor_2 : decode cL_amountFor 2 = .ok (.aload_n 0, 1) := by decide +kernel
theorem dL_amountFor_3 : decode cL_amountFor 3 = .ok (.iload_n 1, 1) := by decide +kernel
theorem dL_amountFor_4 : decode cL_amountFor 4 = .ok (.invokevirtual 48, 3) := by decide +kernel
theorem dL_amountFor_7 : decode cL_amountFor 7 = .ok (.i2l, 1) := by decide +kernel
theorem dL_amountFor_8 : decode cL_amountFor 8 = .ok (.lastore, 1) := by decide +kernel
theorem dL_amountFor_9 : decode cL_amountFor 9 = .ok (.goto 6, 3) := by decide +kernel
theorem dL_amountFor_12 : decode cL_amountFor 12 = .ok (.astore_n 3, 1) := by decide +kernel
theorem dL_amountFor_13 : decode cL_amountFor 13 = .ok (.iconst 1, 1) := by decide +kernel
theorem dL_amountFor_14 : decode cL_amountFor 14 = .ok (.ireturn, 1) := by decide +kernel
theorem dL_amountFor_15 : decode cL_amountFor 15 = .ok (.iconst 0, 1) := by decide +kernel
theorem dL_amountFor_16 : decode cL_amountFor 16 = .ok (.ireturn, 1) := by decide +kernel
set_option maxRecDepth 20000 in
theorem ggL_warningsOf_X12_warningsOf : GoodIn wsL_warningsOf wsX12_warningsOf := goodIn_ca (goodIn_r _ [6, 7, 8, 9, 5, 10, 11, 12, 13, 14, 15, 16, 17, 18, 19, 20, 21, 22, 23, 24, 25, 26, 27, 28, 29, 30, 31, 32, 33, 34] (by decide +kernel) (by decide +kernel)) (goodIn_sub (fun _ h => List.mem_cons_of_mem _ (List.mem_append_right _ h)) (by decide +kernel))
set_option maxRecDepth 20000 in
theorem gL_warningsOf_X12_warningsOf : GoodIn wsL_warningsOf (wsV RL 51 RX12 yX12_warningsOf wsX12_warningsOf) := goodIn_app (goodIn_of _ (by decide +kernel)) ggL_warningsOf_X12_warningsOf
theorem dL_warningsOf_0 : decode cL_warningsOf 0 = .ok (.aload_n 2, 1) := by decide +kernel
theorem dL_warningsOf_1 : decode cL_warningsOf 1 = .ok (.iconst 0, 1) := by decide +kernel
theorem dL_warningsOf_2 : decode cL_warningsOf 2 = .ok (.aload_n 0, 1) := by decide +kernel
theorem dL_warningsOf_3 : decode cL_warningsOf 3 = .ok (.iload_n 1, 1) := by decide +kernel
theorem dL_warningsOf_4 : decode cL_warningsOf 4 = .ok (.invokevirtual 51, 3) := by decide +kernel
theorem dL_warningsOf_7 : decode cL_warningsOf 7 = .ok (.i2l, 1) := by decide +kernel
theorem dL_warningsOf_8 : decode cL_warningsOf 8 = .ok (.lastore, 1) := by decide +kernel
theorem dL_warningsOf_9 : decode cL_warningsOf 9 = .ok (.goto 6, 3) := by decide +kernel
theorem dL_warningsOf_12 : decode cL_warningsOf 12 = .ok (.astore_n 3, 1) := by decide +kernel
theorem dL_warningsOf_13 : decode cL_warningsOf 13 = .ok (.iconst 1, 1) := by decide +kernel
theorem dL_warningsOf_14 : decode cL_warningsOf 14 = .ok (.ireturn, 1) := by decide +kernel
theorem dL_warningsOf_15 : decode cL_warningsOf 15 = .ok (.iconst 0, 1) := by decide +kernel
theorem dL_warningsOf_16 : decode cL_warningsOf 16 = .ok (.ireturn, 1) := by decide +kernel
set_option maxRecDepth 20000 in
theorem ggL_warningAt_X12_warningAt : GoodIn wsL_warningAt wsX12_warningAt := goodIn_ca (goodIn_r _ [6, 7, 8, 9, 10, 11, 12, 13, 14, 15, 16, 17, 18, 19, 5, 20, 21, 22, 23, 24, 25, 26, 27, 28, 29, 30, 31, 32, 33, 34, 35, 36, 37, 38, 39, 40, 41, 42, 43, 44, 45, 46, 47, 48, 49] (by decide +kernel) (by decide +kernel)) (goodIn_sub (fun _ h => List.mem_cons_of_mem _ (List.mem_append_right _ h)) (by decide +kernel))
set_option maxRecDepth 20000 in
theorem gL_warningAt_X12_warningAt : GoodIn wsL_warningAt (wsV RL 54 RX12 yX12_warningAt wsX12_warningAt) := goodIn_app (goodIn_of _ (by decide +kernel)) ggL_warningAt_X12_warningAt
theorem dL_warningAt_0 : decode cL_warningAt 0 = .ok (.aload_n 2, 1) := by decide +kernel
theorem dL_warningAt_1 : decode cL_warningAt 1 = .ok (.iconst 0, 1) := by decide +kernel
theorem dL_warningAt_2 : decode cL_warningAt 2 = .ok (.aload_n 0, 1) := by decide +kernel
theorem dL_warningAt_3 : decode cL_warningAt 3 = .ok (.iload_n 1, 1) := by decide +kernel
theorem dL_warningAt_4 : decode cL_warningAt 4 = .ok (.invokevirtual 54, 3) := by decide +kernel
theorem dL_warningAt_7 : decode cL_warningAt 7 = .ok (.i2l, 1) := by decide +kernel
theorem dL_warningAt_8 : decode cL_warningAt 8 = .ok (.lastore, 1) := by decide +kernel
theorem dL_warningAt_9 : decode cL_warningAt 9 = .ok (.goto 6, 3) := by decide +kernel
theorem dL_warningAt_12 : decode cL_warningAt 12 = .ok (.astore_n 3, 1) := by decide +kernel
theorem dL_warningAt_13 : decode cL_warningAt 13 = .ok (.iconst 1, 1) := by decide +kernel
theorem dL_warningAt_14 : decode cL_warningAt 14 = .ok (.ireturn, 1) := by decide +kernel
theorem dL_warningAt_15 : decode cL_warningAt 15 = .ok (.iconst 0, 1) := by decide +kernel
theorem dL_warningAt_16 : decode cL_warningAt 16 = .ok (.ireturn, 1) := by decide +kernel
set_option maxRecDepth 20000 in
theorem ggL_noteAt_X12_noteAt : GoodIn wsL_noteAt wsX12_noteAt := goodIn_ca (goodIn_r _ [6, 7, 8, 9, 10, 11, 12, 13, 14, 15, 16, 17, 18, 19, 5, 20, 21, 22, 23, 24, 25, 26, 27, 28, 29, 30, 31, 32, 33, 34, 35, 36, 37, 38, 39, 40, 41, 42, 43, 44, 45, 46, 47, 48, 49] (by decide +kernel) (by decide +kernel)) (goodIn_sub (fun _ h => List.mem_cons_of_mem _ (List.mem_append_right _ h)) (by decide +kernel))
set_option maxRecDepth 20000 in
theorem gL_noteAt_X12_noteAt : GoodIn wsL_noteAt (wsV RL 57 RX12 yX12_noteAt wsX12_noteAt) := goodIn_app (goodIn_of _ (by decide +kernel)) ggL_noteAt_X12_noteAt
theorem dL_noteAt_0 : decode cL_noteAt 0 = .ok (.aload_n 2, 1) := by decide +kernel
theorem dL_noteAt_1 : decode cL_noteAt 1 = .ok (.iconst 0, 1) := by decide +kernel
theorem dL_noteAt_2 : decode cL_noteAt 2 = .ok (.aload_n 0, 1) := by decide +kernel
theorem dL_noteAt_3 : decode cL_noteAt 3 = .ok (.iload_n 1, 1) := by decide +kernel
theorem dL_noteAt_4 : decode cL_noteAt 4 = .ok (.invokevirtual 57, 3) := by decide +kernel
theorem dL_noteAt_7 : decode cL_noteAt 7 = .ok (.i2l, 1) := by decide +kernel
theorem dL_noteAt_8 : decode cL_noteAt 8 = .ok (.lastore, 1) := by decide +kernel
theorem dL_noteAt_9 : decode cL_noteAt 9 = .ok (.goto 6, 3) := by decide +kernel
theorem dL_noteAt_12 : decode cL_noteAt 12 = .ok (.astore_n 3, 1) := by decide +kernel
theorem dL_noteAt_13 : decode cL_noteAt 13 = .ok (.iconst 1, 1) := by decide +kernel
theorem dL_noteAt_14 : decode cL_noteAt 14 = .ok (.ireturn, 1) := by decide +kernel
theorem dL_noteAt_15 : decode cL_noteAt 15 = .ok (.iconst 0, 1) := by decide +kernel
theorem dL_noteAt_16 : decode cL_noteAt 16 = .ok (.ireturn, 1) := by decide +kernel
set_option maxRecDepth 20000 in
theorem ggL_setAltitude_X12_setAltitude : GoodIn wsL_setAltitude wsX12_setAltitude := goodIn_ca (goodIn_r _ [6, 7, 8, 9, 5, 10, 11, 12, 13, 14, 15, 16, 17, 18, 19, 20, 21, 22, 23, 24, 25, 26, 27, 28, 29, 30, 31, 32, 33, 34, 35, 36, 37, 38, 39, 40, 41, 42, 43, 44, 45, 46, 47, 48, 49, 50, 51, 52, 53, 54, 55, 56, 57, 58, 59, 60, 61, 62, 63] (by decide +kernel) (by decide +kernel)) (goodIn_sub (fun _ h => List.mem_cons_of_mem _ (List.mem_append_right _ h)) (by decide +kernel))
set_option maxRecDepth 20000 in
theorem gL_setAltitude_X12_setAltitude : GoodIn wsL_setAltitude (wsV RL 60 RX12 yX12_setAltitude wsX12_setAltitude) := goodIn_app (goodIn_of _ (by decide +kernel)) ggL_setAltitude_X12_setAltitude
theorem dL_setAltitude_0 : decode cL_setAltitude 0 = .ok (.aload_n 2, 1) := by decide +kernel
theorem dL_setAltitude_1 : decode cL_setAltitude 1 = .ok (.iconst 0, 1) := by decide +kernel
theorem dL_setAltitude_2 : decode cL_setAltitude 2 = .ok (.aload_n 0, 1) := by decide +kernel
theorem dL_setAltitude_3 : decode cL_setAltitude 3 = .ok (.iload_n 1, 1) := by decide +kernel
theorem dL_setAltitude_4 : decode cL_setAltitude 4 = .ok (.invokevirtual 60, 3) := by decide +kernel
theorem dL_setAltitude_7 : decode cL_setAltitude 7 = .ok (.i2l, 1) := by decide +kernel
theorem dL_setAltitude_8 : decode cL_setAltitude 8 = .ok (.lastore, 1) := by decide +kernel
theorem dL_setAltitude_9 : decode cL_setAltitude 9 = .ok (.goto 6, 3) := by decide +kernel
theorem dL_setAltitude_12 : decode cL_setAltitude 12 = .ok (.astore_n 3, 1) := by decide +kernel
theorem dL_setAltitude_13 : decode cL_setAltitude 13 = .ok (.iconst 1, 1) := by decide +kernel
theorem dL_setAltitude_14 : decode cL_setAltitude 14 = .ok (.ireturn, 1) := by decide +kernel
theorem dL_setAltitude_15 : decode cL_setAltitude 15 = .ok (.iconst 0, 1) := by decide +kernel
theorem dL_setAltitude_16 : decode cL_setAltitude 16 = .ok (.ireturn, 1) := by decide +kernel
set_option maxRecDepth 20000 in
theorem ggL_setServings_X12_setServings : GoodIn wsL_setServings wsX12_setServings := goodIn_ca (goodIn_r _ [6, 7, 8, 9, 5, 10, 11, 12, 13, 14, 15, 16, 17, 18, 19, 20, 21, 22, 23, 24, 25, 26, 27, 28] (by decide +kernel) (by decide +kernel)) (goodIn_sub (fun _ h => List.mem_cons_of_mem _ (List.mem_append_right _ h)) (by decide +kernel))
set_option maxRecDepth 20000 in
theorem gL_setServings_X12_setServings : GoodIn wsL_setServings (wsV RL 63 RX12 yX12_setServings wsX12_setServings) := goodIn_app (goodIn_of _ (by decide +kernel)) ggL_setServings_X12_setServings
theorem dL_setServings_0 : decode cL_setServings 0 = .ok (.aload_n 2, 1) := by decide +kernel
theorem dL_setServings_1 : decode cL_setServings 1 = .ok (.iconst 0, 1) := by decide +kernel
theorem dL_setServings_2 : decode cL_setServings 2 = .ok (.aload_n 0, 1) := by decide +kernel
theorem dL_setServings_3 : decode cL_setServings 3 = .ok (.iload_n 1, 1) := by decide +kernel
theorem dL_setServings_4 : decode cL_setServings 4 = .ok (.invokevirtual 63, 3) := by decide +kernel
theorem dL_setServings_7 : decode cL_setServings 7 = .ok (.i2l, 1) := by decide +kernel
theorem dL_setServings_8 : decode cL_setServings 8 = .ok (.lastore, 1) := by decide +kernel
theorem dL_setServings_9 : decode cL_setServings 9 = .ok (.goto 6, 3) := by decide +kernel
theorem dL_setServings_12 : decode cL_setServings 12 = .ok (.astore_n 3, 1) := by decide +kernel
theorem dL_setServings_13 : decode cL_setServings 13 = .ok (.iconst 1, 1) := by decide +kernel
theorem dL_setServings_14 : decode cL_setServings 14 = .ok (.ireturn, 1) := by decide +kernel
theorem dL_setServings_15 : decode cL_setServings 15 = .ok (.iconst 0, 1) := by decide +kernel
theorem dL_setServings_16 : decode cL_setServings 16 = .ok (.ireturn, 1) := by decide +kernel
set_option maxRecDepth 20000 in
theorem ggL_setSpoon_X12_setSpoon : GoodIn wsL_setSpoon wsX12_setSpoon := goodIn_ca (goodIn_r _ [6, 7, 8, 9, 5, 10, 11, 12, 13, 14, 15, 16, 17, 18, 19, 20, 21, 22, 23, 24, 25, 26, 27, 28] (by decide +kernel) (by decide +kernel)) (goodIn_sub (fun _ h => List.mem_cons_of_mem _ (List.mem_append_right _ h)) (by decide +kernel))
set_option maxRecDepth 20000 in
theorem gL_setSpoon_X12_setSpoon : GoodIn wsL_setSpoon (wsV RL 66 RX12 yX12_setSpoon wsX12_setSpoon) := goodIn_app (goodIn_of _ (by decide +kernel)) ggL_setSpoon_X12_setSpoon
theorem dL_setSpoon_0 : decode cL_setSpoon 0 = .ok (.aload_n 2, 1) := by decide +kernel
theorem dL_setSpoon_1 : decode cL_setSpoon 1 = .ok (.iconst 0, 1) := by decide +kernel
theorem dL_setSpoon_2 : decode cL_setSpoon 2 = .ok (.aload_n 0, 1) := by decide +kernel
theorem dL_setSpoon_3 : decode cL_setSpoon 3 = .ok (.iload_n 1, 1) := by decide +kernel
theorem dL_setSpoon_4 : decode cL_setSpoon 4 = .ok (.invokevirtual 66, 3) := by decide +kernel
theorem dL_setSpoon_7 : decode cL_setSpoon 7 = .ok (.i2l, 1) := by decide +kernel
theorem dL_setSpoon_8 : decode cL_setSpoon 8 = .ok (.lastore, 1) := by decide +kernel
theorem dL_setSpoon_9 : decode cL_setSpoon 9 = .ok (.goto 6, 3) := by decide +kernel
theorem dL_setSpoon_12 : decode cL_setSpoon 12 = .ok (.astore_n 3, 1) := by decide +kernel
theorem dL_setSpoon_13 : decode cL_setSpoon 13 = .ok (.iconst 1, 1) := by decide +kernel
theorem dL_setSpoon_14 : decode cL_setSpoon 14 = .ok (.ireturn, 1) := by decide +kernel
theorem dL_setSpoon_15 : decode cL_setSpoon 15 = .ok (.iconst 0, 1) := by decide +kernel
theorem dL_setSpoon_16 : decode cL_setSpoon 16 = .ok (.ireturn, 1) := by decide +kernel
set_option maxRecDepth 20000 in
theorem ggL_pourWater_X12_pourWater : GoodIn wsL_pourWater wsX12_pourWater := goodIn_ca (goodIn_ca (goodIn_r _ [7, 8, 9, 10, 6, 11, 12, 13, 14, 15, 16, 17, 18, 19, 20, 21, 22, 23, 24, 25, 26, 27, 28, 29, 30, 31, 32, 33, 34, 35, 36, 37, 38, 39, 40, 41, 42, 43, 44, 45, 46, 47, 48, 49, 50, 51, 52, 53, 54, 55, 56, 57, 58, 59, 60, 61, 62, 63, 64, 65, 66, 67, 68, 69, 70, 71, 72, 73, 74, 75, 76, 77, 78] (by decide +kernel) (by decide +kernel)) (goodIn_sub (fun _ h => List.mem_cons_of_mem _ (List.mem_append_left _ (List.mem_append_right _ h))) (by decide +kernel))) (goodIn_sub (fun _ h => List.mem_cons_of_mem _ (List.mem_append_right _ h)) (by decide +kernel))
set_option maxRecDepth 20000 in
theorem gL_pourWater_X12_pourWater : GoodIn wsL_pourWater (wsV RL 69 RX12 yX12_pourWater wsX12_pourWater) := goodIn_app (goodIn_of _ (by decide +kernel)) ggL_pourWater_X12_pourWater
theorem dL_pourWater_0 : decode cL_pourWater 0 = .ok (.aload_n 3, 1) := by decide +kernel
theorem dL_pourWater_1 : decode cL_pourWater 1 = .ok (.iconst 0, 1) := by decide +kernel
theorem dL_pourWater_2 : decode cL_pourWater 2 = .ok (.aload_n 0, 1) := by decide +kernel
theorem dL_pourWater_3 : decode cL_pourWater 3 = .ok (.iload_n 1, 1) := by decide +kernel
theorem dL_pourWater_4 : decode cL_pourWater 4 = .ok (.iload_n 2, 1) := by decide +kernel
theorem dL_pourWater_5 : decode cL_pourWater 5 = .ok (.invokevirtual 69, 3) := by decide +kernel
theorem dL_pourWater_8 : decode cL_pourWater 8 = .ok (.i2l, 1) := by decide +kernel
theorem dL_pourWater_9 : decode cL_pourWater 9 = .ok (.lastore, 1) := by decide +kernel
theorem dL_pourWater_10 : decode cL_pourWater 10 = .ok (.goto 11, 3) := by decide +kernel
theorem dL_pourWater_13 : decode cL_pourWater 13 = .ok (.astore 4, 2) := by decide +kernel
theorem dL_pourWater_15 : decode cL_pourWater 15 = .ok (.iconst 1, 1) := by decide +kernel
theorem dL_pourWater_16 : decode cL_pourWater 16 = .ok (.ireturn, 1) := by decide +kernel
theorem dL_pourWater_17 : decode cL_pourWater 17 = .ok (.astore 4, 2) := by decide +kernel
theorem dL_pourWater_19 : decode cL_pourWater 19 = .ok (.iconst 2, 1) := by decide +kernel
theorem dL_pourWater_20 : decode cL_pourWater 20 = .ok (.ireturn, 1) := by decide +kernel
theorem dL_pourWater_21 : decode cL_pourWater 21 = .ok (.iconst 0, 1) := by decide +kernel
theorem dL_pourWater_22 : decode cL_pourWater 22 = .ok (.ireturn, 1) := by decide +kernel
set_option maxRecDepth 20000 in
theorem ggL_pourMeal_X12_pourMeal : GoodIn wsL_pourMeal wsX12_pourMeal := goodIn_ca (goodIn_ca (goodIn_r _ [7, 8, 9, 10, 6, 11, 12, 13, 14, 15, 16, 17, 18, 19, 20, 21, 22, 23, 24, 25, 26, 27, 28, 29, 30, 31, 32, 33, 34, 35, 36, 37, 38, 39, 40, 41, 42, 43, 44, 45, 46, 47, 48, 49, 50, 51, 52, 53, 54, 55, 56, 57, 58, 59, 60, 61, 62, 63, 64, 65, 66, 67, 68, 69, 70, 71, 72, 73, 74, 75, 76, 77, 78] (by decide +kernel) (by decide +kernel)) (goodIn_sub (fun _ h => List.mem_cons_of_mem _ (List.mem_append_left _ (List.mem_append_right _ h))) (by decide +kernel))) (goodIn_sub (fun _ h => List.mem_cons_of_mem _ (List.mem_append_right _ h)) (by decide +kernel))
set_option maxRecDepth 20000 in
theorem gL_pourMeal_X12_pourMeal : GoodIn wsL_pourMeal (wsV RL 72 RX12 yX12_pourMeal wsX12_pourMeal) := goodIn_app (goodIn_of _ (by decide +kernel)) ggL_pourMeal_X12_pourMeal
theorem dL_pourMeal_0 : decode cL_pourMeal 0 = .ok (.aload_n 3, 1) := by decide +kernel
theorem dL_pourMeal_1 : decode cL_pourMeal 1 = .ok (.iconst 0, 1) := by decide +kernel
theorem dL_pourMeal_2 : decode cL_pourMeal 2 = .ok (.aload_n 0, 1) := by decide +kernel
theorem dL_pourMeal_3 : decode cL_pourMeal 3 = .ok (.iload_n 1, 1) := by decide +kernel
theorem dL_pourMeal_4 : decode cL_pourMeal 4 = .ok (.iload_n 2, 1) := by decide +kernel
theorem dL_pourMeal_5 : decode cL_pourMeal 5 = .ok (.invokevirtual 72, 3) := by decide +kernel
theorem dL_pourMeal_8 : decode cL_pourMeal 8 = .ok (.i2l, 1) := by decide +kernel
theorem dL_pourMeal_9 : decode cL_pourMeal 9 = .ok (.lastore, 1) := by decide +kernel
theorem dL_pourMeal_10 : decode cL_pourMeal 10 = .ok (.goto 11, 3) := by decide +kernel
theorem dL_pourMeal_13 : decode cL_pourMeal 13 = .ok (.astore 4, 2) := by decide +kernel
theorem dL_pourMeal_15 : decode cL_pourMeal 15 = .ok (.iconst 1, 1) := by decide +kernel
theorem dL_pourMeal_16 : decode cL_pourMeal 16 = .ok (.ireturn, 1) := by decide +kernel
theorem dL_pourMeal_17 : decode cL_pourMeal 17 = .ok (.astore 4, 2) := by decide +kernel
theorem dL_pourMeal_19 : decode cL_pourMeal 19 = .ok (.iconst 2, 1) := by decide +kernel
theorem dL_pourMeal_20 : decode cL_pourMeal 20 = .ok (.ireturn, 1) := by decide +kernel
theorem dL_pourMeal_21 : decode cL_pourMeal 21 = .ok (.iconst 0, 1) := by decide +kernel
theorem dL_pourMeal_22 : decode cL_pourMeal 22 = .ok (.ireturn, 1) := by decide +kernel
set_option maxRecDepth 20000 in
theorem ggL_wash_X12_wash : GoodIn wsL_wash wsX12_wash := goodIn_ca (goodIn_r _ [6, 7, 8, 9, 5, 10, 11, 12, 13, 14, 15, 16, 17, 18, 19, 20, 21, 22, 23, 24, 25, 26, 27, 28, 29, 30, 31, 32, 33, 34, 35, 36, 37, 38, 39, 40, 41, 42, 43, 44, 45, 46, 47, 48, 49, 50, 51, 52, 53, 54, 55, 56, 57, 58, 59, 60, 61] (by decide +kernel) (by decide +kernel)) (goodIn_sub (fun _ h => List.mem_cons_of_mem _ (List.mem_append_right _ h)) (by decide +kernel))
set_option maxRecDepth 20000 in
theorem gL_wash_X12_wash : GoodIn wsL_wash (wsV RL 75 RX12 yX12_wash wsX12_wash) := goodIn_app (goodIn_of _ (by decide +kernel)) ggL_wash_X12_wash
theorem dL_wash_0 : decode cL_wash 0 = .ok (.aload_n 2, 1) := by decide +kernel
theorem dL_wash_1 : decode cL_wash 1 = .ok (.iconst 0, 1) := by decide +kernel
theorem dL_wash_2 : decode cL_wash 2 = .ok (.aload_n 0, 1) := by decide +kernel
theorem dL_wash_3 : decode cL_wash 3 = .ok (.iload_n 1, 1) := by decide +kernel
theorem dL_wash_4 : decode cL_wash 4 = .ok (.invokevirtual 75, 3) := by decide +kernel
theorem dL_wash_7 : decode cL_wash 7 = .ok (.i2l, 1) := by decide +kernel
theorem dL_wash_8 : decode cL_wash 8 = .ok (.lastore, 1) := by decide +kernel
theorem dL_wash_9 : decode cL_wash 9 = .ok (.goto 6, 3) := by decide +kernel
theorem dL_wash_12 : decode cL_wash 12 = .ok (.astore_n 3, 1) := by decide +kernel
theorem dL_wash_13 : decode cL_wash 13 = .ok (.iconst 1, 1) := by decide +kernel
theorem dL_wash_14 : decode cL_wash 14 = .ok (.ireturn, 1) := by decide +kernel
theorem dL_wash_15 : decode cL_wash 15 = .ok (.iconst 0, 1) := by decide +kernel
theorem dL_wash_16 : decode cL_wash 16 = .ok (.ireturn, 1) := by decide +kernel
set_option maxRecDepth 20000 in
theorem ggL_rest_X12_rest : GoodIn wsL_rest wsX12_rest := goodIn_ca (goodIn_r _ [6, 7, 8, 9, 5, 10, 11, 12, 13, 14, 15, 16, 17, 18, 19, 20, 21, 22, 23, 24, 25, 26, 27, 28, 29, 30, 31, 32, 33, 34, 35, 36, 37, 38, 39, 40, 41, 42, 43, 44, 45, 46, 47, 48, 49, 50, 51, 52, 53, 54, 55, 56, 57, 58, 59, 60, 61, 62, 63, 64, 65, 66] (by decide +kernel) (by decide +kernel)) (goodIn_sub (fun _ h => List.mem_cons_of_mem _ (List.mem_append_right _ h)) (by decide +kernel))
set_option maxRecDepth 20000 in
theorem gL_rest_X12_rest : GoodIn wsL_rest (wsV RL 78 RX12 yX12_rest wsX12_rest) := goodIn_app (goodIn_of _ (by decide +kernel)) ggL_rest_X12_rest
theorem dL_rest_0 : decode cL_rest 0 = .ok (.aload_n 2, 1) := by decide +kernel
theorem dL_rest_1 : decode cL_rest 1 = .ok (.iconst 0, 1) := by decide +kernel
theorem dL_rest_2 : decode cL_rest 2 = .ok (.aload_n 0, 1) := by decide +kernel
theorem dL_rest_3 : decode cL_rest 3 = .ok (.iload_n 1, 1) := by decide +kernel
theorem dL_rest_4 : decode cL_rest 4 = .ok (.invokevirtual 78, 3) := by decide +kernel
theorem dL_rest_7 : decode cL_rest 7 = .ok (.i2l, 1) := by decide +kernel
theorem dL_rest_8 : decode cL_rest 8 = .ok (.lastore, 1) := by decide +kernel
theorem dL_rest_9 : decode cL_rest 9 = .ok (.goto 6, 3) := by decide +kernel
theorem dL_rest_12 : decode cL_rest 12 = .ok (.astore_n 3, 1) := by decide +kernel
theorem dL_rest_13 : decode cL_rest 13 = .ok (.iconst 1, 1) := by decide +kernel
theorem dL_rest_14 : decode cL_rest 14 = .ok (.ireturn, 1) := by decide +kernel
theorem dL_rest_15 : decode cL_rest 15 = .ok (.iconst 0, 1) := by decide +kernel
theorem dL_rest_16 : decode cL_rest 16 = .ok (.ireturn, 1) := by decide +kernel
set_option maxRecDepth 20000 in
theorem ggL_cook_X12_cook : GoodIn wsL_cook wsX12_cook := goodIn_ca (goodIn_r _ [6, 7, 8, 9, 10, 5, 11, 12, 13, 14, 15, 16, 17, 18, 19, 20, 21, 22, 23, 24, 25, 26, 27, 28, 29, 30, 31, 32, 33, 34, 35, 36, 37, 38, 39, 40, 41, 42, 43, 44, 45, 46, 47, 48, 49, 50, 51, 52, 53, 54, 55, 56, 57, 58, 59, 60, 61, 62, 63, 64, 65, 66, 67, 68, 69, 70, 71, 72, 73, 74, 75, 76, 77, 78, 79, 80, 81, 82, 83, 84, 85, 86, 87, 88, 89, 90, 91, 92, 93, 94, 95, 96, 97, 98, 99, 100, 101, 102, 103, 104, 105, 106, 107, 108, 109, 110, 111, 112, 113, 114, 115, 116, 117, 118, 119, 120, 121, 122, 123, 124, 125, 126, 127, 128, 129, 130, 131, 132, 133, 134, 135, 136, 137, 138, 139, 140, 141, 142, 143, 144, 145, 146, 147, 148, 149, 150, 151, 152, 153, 154, 155, 156, 157, 158, 159, 160, 161, 162, 163, 164, 165, 166, 167, 168, 169, 170, 171, 172, 173, 174, 175, 176, 177, 178, 179, 180, 181, 182, 183, 184, 185, 186, 187, 188, 189, 190, 191, 192, 193, 194, 195, 196, 197, 198, 199, 200, 201, 202, 203, 204, 205, 206, 207, 208, 209, 210, 211, 212, 213, 214, 215, 216, 217, 218, 219, 220, 221, 222, 223, 224, 225, 226] (by decide +kernel) (by decide +kernel)) (goodIn_sub (fun _ h => List.mem_cons_of_mem _ (List.mem_append_right _ h)) (by decide +kernel))
set_option maxRecDepth 20000 in
theorem gL_cook_X12_cook : GoodIn wsL_cook (wsV RL 81 RX12 yX12_cook wsX12_cook) := goodIn_app (goodIn_of _ (by decide +kernel)) ggL_cook_X12_cook
theorem dL_cook_0 : decode cL_cook 0 = .ok (.aload_n 2, 1) := by decide +kernel
theorem dL_cook_1 : decode cL_cook 1 = .ok (.iconst 0, 1) := by decide +kernel
theorem dL_cook_2 : decode cL_cook 2 = .ok (.aload_n 0, 1) := by decide +kernel
theorem dL_cook_3 : decode cL_cook 3 = .ok (.iload_n 1, 1) := by decide +kernel
theorem dL_cook_4 : decode cL_cook 4 = .ok (.invokevirtual 81, 3) := by decide +kernel
theorem dL_cook_7 : decode cL_cook 7 = .ok (.i2l, 1) := by decide +kernel
theorem dL_cook_8 : decode cL_cook 8 = .ok (.lastore, 1) := by decide +kernel
theorem dL_cook_9 : decode cL_cook 9 = .ok (.goto 6, 3) := by decide +kernel
theorem dL_cook_12 : decode cL_cook 12 = .ok (.astore_n 3, 1) := by decide +kernel
theorem dL_cook_13 : decode cL_cook 13 = .ok (.iconst 1, 1) := by decide +kernel
theorem dL_cook_14 : decode cL_cook 14 = .ok (.ireturn, 1) := by decide +kernel
theorem dL_cook_15 : decode cL_cook 15 = .ok (.iconst 0, 1) := by decide +kernel
theorem dL_cook_16 : decode cL_cook 16 = .ok (.ireturn, 1) := by decide +kernel
set_option maxRecDepth 20000 in
theorem ggL_minutesOfRecipe_X12_minutesOfRecipe : GoodIn wsL_minutesOfRecipe wsX12_minutesOfRecipe := goodIn_ca (goodIn_r _ [6, 7, 8, 9, 10, 11, 12, 5, 13, 14, 15, 16, 17, 18, 19, 20, 21, 22, 23, 24, 25, 26, 27, 28, 29, 30, 31, 32, 33, 34, 35, 36, 37, 38, 39, 40, 41, 42, 43, 44, 45, 46, 47, 48, 49, 50, 51, 52, 53, 54, 55, 56, 57, 58, 59, 60, 61, 62, 63, 64, 65, 66, 67, 68, 69, 70, 71, 72, 73, 74, 75, 76, 77, 78, 79, 80, 81, 82, 83, 84, 85, 86, 87, 88, 89, 90, 91, 92, 93, 94, 95, 96, 97, 98, 99, 100, 101, 102, 103, 104, 105, 106, 107, 108, 109, 110, 111, 112, 113, 114, 115, 116, 117, 118, 119, 120, 121, 122, 123, 124, 125, 126, 127, 128, 129, 130, 131, 132, 133, 134, 135, 136, 137, 138, 139, 140, 141, 142, 143, 144, 145, 146, 147, 148, 149, 150, 151, 152, 153, 154, 155, 156, 157, 158, 159, 160, 161, 162, 163, 164, 165, 166, 167, 168, 169, 170, 171, 172, 173, 174, 175, 176, 177, 178, 179, 180, 181, 182, 183, 184, 185, 186, 187, 188, 189, 190, 191, 192, 193, 194, 195, 196, 197, 198, 199, 200, 201, 202, 203, 204, 205, 206, 207, 208, 209, 210, 211, 212, 213, 214, 215, 216, 217, 218, 219, 220, 221, 222, 223, 224, 225, 226, 227, 228, 229, 230, 231, 232, 233, 234, 235, 236, 237, 238, 239, 240, 241, 242, 243, 244] (by decide +kernel) (by decide +kernel)) (goodIn_sub (fun _ h => List.mem_cons_of_mem _ (List.mem_append_right _ h)) (by decide +kernel))
set_option maxRecDepth 20000 in
theorem gL_minutesOfRecipe_X12_minutesOfRecipe : GoodIn wsL_minutesOfRecipe (wsV RL 84 RX12 yX12_minutesOfRecipe wsX12_minutesOfRecipe) := goodIn_app (goodIn_of _ (by decide +kernel)) ggL_minutesOfRecipe_X12_minutesOfRecipe
theorem dL_minutesOfRecipe_0 : decode cL_minutesOfRecipe 0 = .ok (.aload_n 2, 1) := by decide +kernel
theorem dL_minutesOfRecipe_1 : decode cL_minutesOfRecipe 1 = .ok (.iconst 0, 1) := by decide +kernel
theorem dL_minutesOfRecipe_2 : decode cL_minutesOfRecipe 2 = .ok (.aload_n 0, 1) := by decide +kernel
theorem dL_minutesOfRecipe_3 : decode cL_minutesOfRecipe 3 = .ok (.iload_n 1, 1) := by decide +kernel
theorem dL_minutesOfRecipe_4 : decode cL_minutesOfRecipe 4 = .ok (.invokevirtual 84, 3) := by decide +kernel
theorem dL_minutesOfRecipe_7 : decode cL_minutesOfRecipe 7 = .ok (.i2l, 1) := by decide +kernel
theorem dL_minutesOfRecipe_8 : decode cL_minutesOfRecipe 8 = .ok (.lastore, 1) := by decide +kernel
theorem dL_minutesOfRecipe_9 : decode cL_minutesOfRecipe 9 = .ok (.goto 6, 3) := by decide +kernel
theorem dL_minutesOfRecipe_12 : decode cL_minutesOfRecipe 12 = .ok (.astore_n 3, 1) := by decide +kernel
theorem dL_minutesOfRecipe_13 : decode cL_minutesOfRecipe 13 = .ok (.iconst 1, 1) := by decide +kernel
theorem dL_minutesOfRecipe_14 : decode cL_minutesOfRecipe 14 = .ok (.ireturn, 1) := by decide +kernel
theorem dL_minutesOfRecipe_15 : decode cL_minutesOfRecipe 15 = .ok (.iconst 0, 1) := by decide +kernel
theorem dL_minutesOfRecipe_16 : decode cL_minutesOfRecipe 16 = .ok (.ireturn, 1) := by decide +kernel
set_option maxRecDepth 20000 in
theorem ggL_warningsOfRecipe_X12_warningsOfRecipe : GoodIn wsL_warningsOfRecipe wsX12_warningsOfRecipe := goodIn_ca (goodIn_r _ [6, 7, 8, 9, 10, 11, 12, 5, 13, 14, 15, 16, 17, 18, 19, 20, 21, 22, 23, 24, 25, 26, 27, 28, 29, 30, 31, 32, 33, 34, 35, 36, 37, 38, 39, 40, 41, 42, 43, 44, 45, 46, 47, 48, 49, 50, 51, 52, 53, 54, 55, 56, 57, 58, 59, 60, 61, 62, 63, 64, 65, 66, 67, 68, 69, 70, 71, 72, 73, 74, 75, 76, 77, 78, 79, 80, 81, 82, 83, 84, 85, 86, 87, 88, 89, 90, 91, 92, 93, 94, 95, 96, 97, 98, 99, 100, 101, 102, 103, 104, 105, 106, 107, 108, 109, 110, 111, 112, 113, 114, 115, 116, 117, 118, 119, 120, 121, 122, 123, 124, 125, 126, 127, 128, 129, 130, 131, 132, 133, 134, 135, 136, 137, 138, 139, 140, 141, 142, 143, 144, 145, 146, 147, 148, 149, 150, 151, 152, 153, 154, 155, 156, 157, 158, 159, 160, 161, 162, 163, 164, 165, 166, 167, 168, 169, 170, 171, 172, 173, 174, 175, 176, 177, 178, 179, 180, 181, 182, 183, 184, 185, 186, 187, 188, 189, 190, 191, 192, 193, 194, 195, 196, 197, 198, 199, 200, 201, 202, 203, 204, 205, 206, 207, 208, 209, 210, 211, 212, 213, 214, 215, 216, 217, 218, 219, 220, 221, 222, 223, 224, 225, 226, 227, 228, 229, 230, 231, 232, 233, 234, 235, 236, 237, 238, 239, 240, 241, 242, 243, 244] (by decide +kernel) (by decide +kernel)) (goodIn_sub (fun _ h => List.mem_cons_of_mem _ (List.mem_append_right _ h)) (by decide +kernel))
set_option maxRecDepth 20000 in
theorem gL_warningsOfRecipe_X12_warningsOfRecipe : GoodIn wsL_warningsOfRecipe (wsV RL 87 RX12 yX12_warningsOfRecipe wsX12_warningsOfRecipe) := goodIn_app (goodIn_of _ (by decide +kernel)) ggL_warningsOfRecipe_X12_warningsOfRecipe
theorem dL_warningsOfRecipe_0 : decode cL_warningsOfRecipe 0 = .ok (.aload_n 2, 1) := by decide +kernel
theorem dL_warningsOfRecipe_1 : decode cL_warningsOfRecipe 1 = .ok (.iconst 0, 1) := by decide +kernel
theorem dL_warningsOfRecipe_2 : decode cL_warningsOfRecipe 2 = .ok (.aload_n 0, 1) := by decide +kernel
theorem dL_warningsOfRecipe_3 : decode cL_warningsOfRecipe 3 = .ok (.iload_n 1, 1) := by decide +kernel
theorem dL_warningsOfRecipe_4 : decode cL_warningsOfRecipe 4 = .ok (.invokevirtual 87, 3) := by decide +kernel
theorem dL_warningsOfRecipe_7 : decode cL_warningsOfRecipe 7 = .ok (.i2l, 1) := by decide +kernel
theorem dL_warningsOfRecipe_8 : decode cL_warningsOfRecipe 8 = .ok (.lastore, 1) := by decide +kernel
theorem dL_warningsOfRecipe_9 : decode cL_warningsOfRecipe 9 = .ok (.goto 6, 3) := by decide +kernel
theorem dL_warningsOfRecipe_12 : decode cL_warningsOfRecipe 12 = .ok (.astore_n 3, 1) := by decide +kernel
theorem dL_warningsOfRecipe_13 : decode cL_warningsOfRecipe 13 = .ok (.iconst 1, 1) := by decide +kernel
theorem dL_warningsOfRecipe_14 : decode cL_warningsOfRecipe 14 = .ok (.ireturn, 1) := by decide +kernel
theorem dL_warningsOfRecipe_15 : decode cL_warningsOfRecipe 15 = .ok (.iconst 0, 1) := by decide +kernel
theorem dL_warningsOfRecipe_16 : decode cL_warningsOfRecipe 16 = .ok (.ireturn, 1) := by decide +kernel
set_option maxRecDepth 20000 in
theorem ggL_firstWarning_X12_firstWarning : GoodIn wsL_firstWarning wsX12_firstWarning := goodIn_ca (goodIn_r _ [6, 7, 8, 9, 10, 11, 12, 5, 13, 14, 15, 16, 17, 18, 19, 20, 21, 22, 23, 24, 25, 26, 27, 28, 29, 30, 31, 32, 33, 34, 35, 36, 37, 38, 39, 40, 41, 42, 43, 44, 45, 46, 47, 48, 49, 50, 51, 52, 53, 54, 55, 56, 57, 58, 59, 60, 61, 62, 63, 64, 65, 66, 67, 68, 69, 70, 71, 72, 73, 74, 75, 76, 77, 78, 79, 80, 81, 82, 83, 84, 85, 86, 87, 88, 89, 90, 91, 92, 93, 94, 95, 96, 97, 98, 99, 100, 101, 102, 103, 104, 105, 106, 107, 108, 109, 110, 111, 112, 113, 114, 115, 116, 117, 118, 119, 120, 121, 122, 123, 124, 125, 126, 127, 128, 129, 130, 131, 132, 133, 134, 135, 136, 137, 138, 139, 140, 141, 142, 143, 144, 145, 146, 147, 148, 149, 150, 151, 152, 153, 154, 155, 156, 157, 158, 159, 160, 161, 162, 163, 164, 165, 166, 167, 168, 169, 170, 171, 172, 173, 174, 175, 176, 177, 178, 179, 180, 181, 182, 183, 184, 185, 186, 187, 188, 189, 190, 191, 192, 193, 194, 195, 196, 197, 198, 199, 200, 201, 202, 203, 204, 205, 206, 207, 208, 209, 210, 211, 212, 213, 214, 215, 216, 217, 218, 219, 220, 221, 222, 223, 224, 225, 226, 227, 228, 229, 230, 231, 232, 233, 234, 235, 236, 237, 238, 239, 240, 241, 242, 243, 244] (by decide +kernel) (by decide +kernel)) (goodIn_sub (fun _ h => List.mem_cons_of_mem _ (List.mem_append_right _ h)) (by decide +kernel))
set_option maxRecDepth 20000 in
theorem gL_firstWarning_X12_firstWarning : GoodIn wsL_firstWarning (wsV RL 90 RX12 yX12_firstWarning wsX12_firstWarning) := goodIn_app (goodIn_of _ (by decide +kernel)) ggL_firstWarning_X12_firstWarning
theorem dL_firstWarning_0 : decode cL_firstWarning 0 = .ok (.aload_n 2, 1) := by decide +kernel
theorem dL_firstWarning_1 : decode cL_firstWarning 1 = .ok (.iconst 0, 1) := by decide +kernel
theorem dL_firstWarning_2 : decode cL_firstWarning 2 = .ok (.aload_n 0, 1) := by decide +kernel
theorem dL_firstWarning_3 : decode cL_firstWarning 3 = .ok (.iload_n 1, 1) := by decide +kernel
theorem dL_firstWarning_4 : decode cL_firstWarning 4 = .ok (.invokevirtual 90, 3) := by decide +kernel
theorem dL_firstWarning_7 : decode cL_firstWarning 7 = .ok (.i2l, 1) := by decide +kernel
theorem dL_firstWarning_8 : decode cL_firstWarning 8 = .ok (.lastore, 1) := by decide +kernel
theorem dL_firstWarning_9 : decode cL_firstWarning 9 = .ok (.goto 6, 3) := by decide +kernel
theorem dL_firstWarning_12 : decode cL_firstWarning 12 = .ok (.astore_n 3, 1) := by decide +kernel
theorem dL_firstWarning_13 : decode cL_firstWarning 13 = .ok (.iconst 1, 1) := by decide +kernel
theorem dL_firstWarning_14 : decode cL_firstWarning 14 = .ok (.ireturn, 1) := by decide +kernel
theorem dL_firstWarning_15 : decode cL_firstWarning 15 = .ok (.iconst 0, 1) := by decide +kernel
theorem dL_firstWarning_16 : decode cL_firstWarning 16 = .ok (.ireturn, 1) := by decide +kernel
set_option maxRecDepth 20000 in
theorem ggL_doneBehind_X12_doneBehind : GoodIn wsL_doneBehind wsX12_doneBehind := goodIn_ca (goodIn_r _ [6, 7, 8, 9, 10, 11, 12, 5, 13, 14, 15, 16, 17, 18, 19, 20, 21, 22, 23, 24, 25, 26, 27, 28, 29, 30, 31, 32, 33, 34, 35, 36, 37, 38, 39, 40, 41, 42, 43, 44, 45, 46, 47, 48, 49, 50, 51, 52, 53, 54, 55, 56, 57, 58, 59, 60, 61, 62, 63, 64, 65, 66, 67, 68, 69, 70, 71, 72, 73, 74, 75, 76, 77, 78, 79, 80, 81, 82, 83, 84, 85, 86, 87, 88, 89, 90, 91, 92, 93, 94, 95, 96, 97, 98, 99, 100, 101, 102, 103, 104, 105, 106, 107, 108, 109, 110, 111, 112, 113, 114, 115, 116, 117, 118, 119, 120, 121, 122, 123, 124, 125, 126, 127, 128, 129, 130, 131, 132, 133, 134, 135, 136, 137, 138, 139, 140, 141, 142, 143, 144, 145, 146, 147, 148, 149, 150, 151, 152, 153, 154, 155, 156, 157, 158, 159, 160, 161, 162, 163, 164, 165, 166, 167, 168, 169, 170, 171, 172, 173, 174, 175, 176, 177, 178, 179, 180, 181, 182, 183, 184, 185, 186, 187, 188, 189, 190, 191, 192, 193, 194, 195, 196, 197, 198, 199, 200, 201, 202, 203, 204, 205, 206, 207, 208, 209, 210, 211, 212, 213, 214, 215, 216, 217, 218, 219, 220, 221, 222, 223, 224, 225, 226, 227, 228, 229, 230, 231, 232, 233, 234, 235, 236, 237, 238, 239, 240, 241, 242, 243, 244, 245] (by decide +kernel) (by decide +kernel)) (goodIn_sub (fun _ h => List.mem_cons_of_mem _ (List.mem_append_right _ h)) (by decide +kernel))
set_option maxRecDepth 20000 in
theorem gL_doneBehind_X12_doneBehind : GoodIn wsL_doneBehind (wsV RL 93 RX12 yX12_doneBehind wsX12_doneBehind) := goodIn_app (goodIn_of _ (by decide +kernel)) ggL_doneBehind_X12_doneBehind
theorem dL_doneBehind_0 : decode cL_doneBehind 0 = .ok (.aload_n 3, 1) := by decide +kernel
theorem dL_doneBehind_1 : decode cL_doneBehind 1 = .ok (.iconst 0, 1) := by decide +kernel
theorem dL_doneBehind_2 : decode cL_doneBehind 2 = .ok (.aload_n 0, 1) := by decide +kernel
theorem dL_doneBehind_3 : decode cL_doneBehind 3 = .ok (.iload_n 1, 1) := by decide +kernel
theorem dL_doneBehind_4 : decode cL_doneBehind 4 = .ok (.iload_n 2, 1) := by decide +kernel
theorem dL_doneBehind_5 : decode cL_doneBehind 5 = .ok (.invokevirtual 93, 3) := by decide +kernel
theorem dL_doneBehind_8 : decode cL_doneBehind 8 = .ok (.i2l, 1) := by decide +kernel
theorem dL_doneBehind_9 : decode cL_doneBehind 9 = .ok (.lastore, 1) := by decide +kernel
theorem dL_doneBehind_10 : decode cL_doneBehind 10 = .ok (.goto 7, 3) := by decide +kernel
theorem dL_doneBehind_13 : decode cL_doneBehind 13 = .ok (.astore 4, 2) := by decide +kernel
theorem dL_doneBehind_15 : decode cL_doneBehind 15 = .ok (.iconst 1, 1) := by decide +kernel
theorem dL_doneBehind_16 : decode cL_doneBehind 16 = .ok (.ireturn, 1) := by decide +kernel
theorem dL_doneBehind_17 : decode cL_doneBehind 17 = .ok (.iconst 0, 1) := by decide +kernel
theorem dL_doneBehind_18 : decode cL_doneBehind 18 = .ok (.ireturn, 1) := by decide +kernel
set_option maxRecDepth 20000 in
theorem ggL_highestSafe_X12_highestSafe : GoodIn wsL_highestSafe wsX12_highestSafe := goodIn_ca (goodIn_r _ [6, 7, 8, 9, 10, 11, 12, 5, 13, 14, 15, 16, 17, 18, 19, 20, 21, 22, 23, 24, 25, 26, 27, 28, 29, 30, 31, 32, 33, 34, 35, 36, 37, 38, 39, 40, 41, 42, 43, 44, 45, 46, 47, 48, 49, 50, 51, 52, 53, 54, 55, 56, 57, 58, 59, 60, 61, 62, 63, 64, 65, 66, 67, 68, 69, 70, 71, 72, 73, 74, 75, 76, 77, 78, 79, 80, 81, 82, 83, 84, 85, 86, 87, 88, 89, 90, 91, 92, 93, 94, 95, 96, 97, 98, 99, 100, 101, 102, 103, 104, 105, 106, 107, 108, 109, 110, 111, 112, 113, 114, 115, 116, 117, 118, 119, 120, 121, 122, 123, 124, 125, 126, 127, 128, 129, 130, 131, 132, 133, 134, 135, 136, 137, 138, 139, 140, 141, 142, 143, 144, 145, 146, 147, 148, 149, 150, 151, 152, 153, 154, 155, 156, 157, 158, 159, 160, 161, 162, 163, 164, 165, 166, 167, 168, 169, 170, 171, 172, 173, 174, 175, 176, 177, 178, 179, 180, 181, 182, 183, 184, 185, 186, 187, 188, 189, 190, 191, 192, 193, 194, 195, 196, 197, 198, 199, 200, 201, 202, 203, 204, 205, 206, 207, 208, 209, 210, 211, 212, 213, 214, 215, 216, 217, 218, 219, 220, 221, 222, 223, 224, 225, 226, 227, 228, 229, 230, 231, 232, 233, 234, 235, 236, 237, 238, 239, 240, 241, 242, 243, 244, 245, 246, 247, 248, 249, 250] (by decide +kernel) (by decide +kernel)) (goodIn_sub (fun _ h => List.mem_cons_of_mem _ (List.mem_append_right _ h)) (by decide +kernel))
set_option maxRecDepth 20000 in
theorem gL_highestSafe_X12_highestSafe : GoodIn wsL_highestSafe (wsV RL 96 RX12 yX12_highestSafe wsX12_highestSafe) := goodIn_app (goodIn_of _ (by decide +kernel)) ggL_highestSafe_X12_highestSafe
theorem dL_highestSafe_0 : decode cL_highestSafe 0 = .ok (.aload_n 2, 1) := by decide +kernel
theorem dL_highestSafe_1 : decode cL_highestSafe 1 = .ok (.iconst 0, 1) := by decide +kernel
theorem dL_highestSafe_2 : decode cL_highestSafe 2 = .ok (.aload_n 0, 1) := by decide +kernel
theorem dL_highestSafe_3 : decode cL_highestSafe 3 = .ok (.iload_n 1, 1) := by decide +kernel
theorem dL_highestSafe_4 : decode cL_highestSafe 4 = .ok (.invokevirtual 96, 3) := by decide +kernel
theorem dL_highestSafe_7 : decode cL_highestSafe 7 = .ok (.i2l, 1) := by decide +kernel
theorem dL_highestSafe_8 : decode cL_highestSafe 8 = .ok (.lastore, 1) := by decide +kernel
theorem dL_highestSafe_9 : decode cL_highestSafe 9 = .ok (.goto 6, 3) := by decide +kernel
theorem dL_highestSafe_12 : decode cL_highestSafe 12 = .ok (.astore_n 3, 1) := by decide +kernel
theorem dL_highestSafe_13 : decode cL_highestSafe 13 = .ok (.iconst 1, 1) := by decide +kernel
theorem dL_highestSafe_14 : decode cL_highestSafe 14 = .ok (.ireturn, 1) := by decide +kernel
theorem dL_highestSafe_15 : decode cL_highestSafe 15 = .ok (.iconst 0, 1) := by decide +kernel
theorem dL_highestSafe_16 : decode cL_highestSafe 16 = .ok (.ireturn, 1) := by decide +kernel
set_option maxRecDepth 20000 in
theorem ggL_mostServings_X12_mostServings : GoodIn wsL_mostServings wsX12_mostServings := goodIn_ca (goodIn_r _ [6, 7, 8, 9, 10, 11, 12, 5, 13, 14, 15, 16, 17, 18, 19, 20, 21, 22, 23, 24, 25, 26, 27, 28, 29, 30, 31, 32, 33, 34, 35, 36, 37, 38, 39, 40, 41, 42, 43, 44, 45, 46, 47, 48, 49, 50, 51, 52, 53, 54, 55, 56, 57, 58, 59, 60, 61, 62, 63, 64, 65, 66, 67, 68, 69, 70, 71, 72, 73, 74, 75, 76, 77, 78, 79, 80, 81, 82, 83, 84, 85, 86, 87, 88, 89, 90, 91, 92, 93, 94, 95, 96, 97, 98, 99, 100, 101, 102, 103, 104, 105, 106, 107, 108, 109, 110, 111, 112, 113, 114, 115, 116, 117, 118, 119, 120, 121, 122, 123, 124, 125, 126, 127, 128, 129, 130, 131, 132, 133, 134, 135, 136, 137, 138, 139, 140, 141, 142, 143, 144, 145, 146, 147, 148, 149, 150, 151, 152, 153, 154, 155, 156, 157, 158, 159, 160, 161, 162, 163, 164, 165, 166, 167, 168, 169, 170, 171, 172, 173, 174, 175, 176, 177, 178, 179, 180, 181, 182, 183, 184, 185, 186, 187, 188, 189, 190, 191, 192, 193, 194, 195, 196, 197, 198, 199, 200, 201, 202, 203, 204, 205, 206, 207, 208, 209, 210, 211, 212, 213, 214, 215, 216, 217, 218, 219, 220, 221, 222, 223, 224, 225, 226, 227, 228, 229, 230, 231, 232, 233, 234, 235, 236, 237, 238, 239, 240, 241, 242, 243, 244, 245, 246, 247, 248] (by decide +kernel) (by decide +kernel)) (goodIn_sub (fun _ h => List.mem_cons_of_mem _ (List.mem_append_right _ h)) (by decide +kernel))
set_option maxRecDepth 20000 in
theorem gL_mostServings_X12_mostServings : GoodIn wsL_mostServings (wsV RL 99 RX12 yX12_mostServings wsX12_mostServings) := goodIn_app (goodIn_of _ (by decide +kernel)) ggL_mostServings_X12_mostServings
theorem dL_mostServings_0 : decode cL_mostServings 0 = .ok (.aload_n 2, 1) := by decide +kernel
theorem dL_mostServings_1 : decode cL_mostServings 1 = .ok (.iconst 0, 1) := by decide +kernel
theorem dL_mostServings_2 : decode cL_mostServings 2 = .ok (.aload_n 0, 1) := by decide +kernel
theorem dL_mostServings_3 : decode cL_mostServings 3 = .ok (.iload_n 1, 1) := by decide +kernel
theorem dL_mostServings_4 : decode cL_mostServings 4 = .ok (.invokevirtual 99, 3) := by decide +kernel
theorem dL_mostServings_7 : decode cL_mostServings 7 = .ok (.i2l, 1) := by decide +kernel
theorem dL_mostServings_8 : decode cL_mostServings 8 = .ok (.lastore, 1) := by decide +kernel
theorem dL_mostServings_9 : decode cL_mostServings 9 = .ok (.goto 6, 3) := by decide +kernel
theorem dL_mostServings_12 : decode cL_mostServings 12 = .ok (.astore_n 3, 1) := by decide +kernel
theorem dL_mostServings_13 : decode cL_mostServings 13 = .ok (.iconst 1, 1) := by decide +kernel
theorem dL_mostServings_14 : decode cL_mostServings 14 = .ok (.ireturn, 1) := by decide +kernel
theorem dL_mostServings_15 : decode cL_mostServings 15 = .ok (.iconst 0, 1) := by decide +kernel
theorem dL_mostServings_16 : decode cL_mostServings 16 = .ok (.ireturn, 1) := by decide +kernel
abbrev vwCl : List vw_C := [(RX1, TX1, 9), (RX2, TX2, 7), (RX3, TX3, 3), (RX4, TX4, 2), (RX6, TX6, 9), (RX7, TX7, 5), (RX8, TX8, 4), (RX9, TX9, 2), (RX10, TX10, 6), (RX11, TX11, 5), (RX12, TX12, 7), (RX13, TX13, 21), (RX14, TX14, 23)]
