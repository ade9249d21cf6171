theorem dX14_roomIn_23 : decode cX14_roomIn 23 = .ok (.invokevirtual 266, 3) := by decide +kernel
theorem dX14_roomIn_26 : decode cX14_roomIn 26 = .ok (.ireturn, 1) := by decide +kernel
set_option maxRecDepth 20000 in
theorem ggX14_isAltitude_X14_isIn : GoodIn wsX14_isAltitude wsX14_isIn := goodIn_r _ [4] (by decide +kernel) (by decide +kernel)
set_option maxRecDepth 20000 in
theorem gX14_isAltitude_X14_isIn : GoodIn wsX14_isAltitude (va_wsS RX14 69 yX14_isIn wsX14_isIn) := goodIn_app (goodIn_of _ (by decide +kernel)) ggX14_isAltitude_X14_isIn
theorem dX14_isAltitude_0 : decode cX14_isAltitude 0 = .ok (.iload_n 0, 1) := by decide +kernel
theorem dX14_isAltitude_1 : decode cX14_isAltitude 1 = .ok (.iconst 0, 1) := by decide +kernel
theorem dX14_isAltitude_2 : decode cX14_isAltitude 2 = .ok (.bipush 60, 2) := by decide +kernel
theorem dX14_isAltitude_4 : decode cX14_isAltitude 4 = .ok (.invokestatic 69, 3) := by decide +kernel
theorem dX14_isAltitude_7 : decode cX14_isAltitude 7 = .ok (.ireturn, 1) := by decide +kernel
set_option maxRecDepth 20000 in
theorem ggX14_boilingAt_X14_isAltitude : GoodIn wsX14_boilingAt wsX14_isAltitude := goodIn_r _ [5, 6, 7, 4, 8] (by decide +kernel) (by decide +kernel)
set_option maxRecDepth 20000 in
theorem gX14_boilingAt_X14_isAltitude : GoodIn wsX14_boilingAt (va_wsS RX14 365 yX14_isAltitude wsX14_isAltitude) := goodIn_app (goodIn_of _ (by decide +kernel)) ggX14_boilingAt_X14_isAltitude
set_option maxRecDepth 20000 in
theorem ggX14_boilingAt_X14_boils : GoodIn wsX14_boilingAt wsX14_boils := goodIn_r _ [11] (by decide +kernel) (by decide +kernel)
set_option maxRecDepth 20000 in
theorem gX14_boilingAt_X14_boils : GoodIn wsX14_boilingAt (va_wsS RX14 285 yX14_boils wsX14_boils) := goodIn_app (goodIn_of _ (by decide +kernel)) ggX14_boilingAt_X14_boils
set_option maxRecDepth 20000 in
theorem ggX14_boilingAt_X14_no : GoodIn wsX14_boilingAt wsX14_no := goodIn_r _ [15, 1, 16, 17, 18, 19, 20, 21, 22, 23, 24, 25, 26, 27, 28, 29, 30, 31, 32, 33, 34, 35, 36, 37, 38] (by decide +kernel) (by decide +kernel)
set_option maxRecDepth 20000 in
theorem gX14_boilingAt_X14_no : GoodIn wsX14_boilingAt (wsV RX14 266 RX14 yX14_no wsX14_no) := goodIn_app (goodIn_of _ (by decide +kernel)) ggX14_boilingAt_X14_no
theorem dX14_boilingAt_0 : decode cX14_boilingAt 0 = .ok (.aload_n 0, 1) := by decide +kernel
theorem dX14_boilingAt_1 : decode cX14_boilingAt 1 = .ok (.iconst 0, 1) := by decide +kernel
theorem dX14_boilingAt_2 : decode cX14_boilingAt 2 = .ok (.putfield 54, 3) := by decide +kernel
theorem dX14_boilingAt_5 : decode cX14_boilingAt 5 = .ok (.iload_n 1, 1) := by decide +kernel
theorem dX14_boilingAt_6 : decode cX14_boilingAt 6 = .ok (.invokestatic 365, 3) := by decide +kernel
theorem dX14_boilingAt_9 : decode cX14_boilingAt 9 = .ok (.ifCond .eq 10, 3) := by decide +kernel
theorem dX14_boilingAt_12 : decode cX14_boilingAt 12 = .ok (.iload_n 1, 1) := by decide +kernel
theorem dX14_boilingAt_13 : decode cX14_boilingAt 13 = .ok (.invokestatic 285, 3) := by decide +kernel
theorem dX14_boilingAt_16 : decode cX14_boilingAt 16 = .ok (.goto 8, 3) := by decide +kernel
theorem dX14_boilingAt_19 : decode cX14_boilingAt 19 = .ok (.aload_n 0, 1) := by decide +kernel
theorem dX14_boilingAt_20 : decode cX14_boilingAt 20 = .ok (.iconst 1, 1) := by decide +kernel
theorem dX14_boilingAt_21 : decode cX14_boilingAt 21 = .ok (.invokevirtual 266, 3) := by decide +kernel
theorem dX14_boilingAt_24 : decode cX14_boilingAt 24 = .ok (.ireturn, 1) := by decide +kernel
set_option maxRecDepth 20000 in
theorem ggX14_minutesAt_X14_isIn : GoodIn wsX14_minutesAt wsX14_isIn := goodIn_r _ [5] (by decide +kernel) (by decide +kernel)
set_option maxRecDepth 20000 in
theorem gX14_minutesAt_X14_isIn : GoodIn wsX14_minutesAt (va_wsS RX14 69 yX14_isIn wsX14_isIn) := goodIn_app (goodIn_of _ (by decide +kernel)) ggX14_minutesAt_X14_isIn
set_option maxRecDepth 20000 in
theorem ggX14_minutesAt_X14_isAltitude : GoodIn wsX14_minutesAt wsX14_isAltitude := goodIn_r _ [8, 2, 3, 4, 5] (by decide +kernel) (by decide +kernel)
set_option maxRecDepth 20000 in
theorem gX14_minutesAt_X14_isAltitude : GoodIn wsX14_minutesAt (va_wsS RX14 365 yX14_isAltitude wsX14_isAltitude) := goodIn_app (goodIn_of _ (by decide +kernel)) ggX14_minutesAt_X14_isAltitude
set_option maxRecDepth 20000 in
theorem ggX14_minutesAt_X14_longer : GoodIn wsX14_minutesAt wsX14_longer := goodIn_r _ [11, 12, 13, 4, 14, 15, 16, 17] (by decide +kernel) (by decide +kernel)
set_option maxRecDepth 20000 in
theorem gX14_minutesAt_X14_longer : GoodIn wsX14_minutesAt (va_wsS RX14 350 yX14_longer wsX14_longer) := goodIn_app (goodIn_of _ (by decide +kernel)) ggX14_minutesAt_X14_longer
set_option maxRecDepth 20000 in
theorem ggX14_minutesAt_X14_no : GoodIn wsX14_minutesAt wsX14_no := goodIn_r _ [21, 1, 22, 23, 24, 25, 26, 27, 28, 29, 30, 31, 32, 33, 34, 35, 36, 37, 38, 39, 40, 41, 42, 43, 44] (by decide +kernel) (by decide +kernel)
set_option maxRecDepth 20000 in
theorem gX14_minutesAt_X14_no : GoodIn wsX14_minutesAt (wsV RX14 266 RX14 yX14_no wsX14_no) := goodIn_app (goodIn_of _ (by decide +kernel)) ggX14_minutesAt_X14_no
theorem dX14_minutesAt_0 : decode cX14_minutesAt 0 = .ok (.aload_n 0, 1) := by decide +kernel
theorem dX14_minutesAt_1 : decode cX14_minutesAt 1 = .ok (.iconst 0, 1) := by decide +kernel
theorem dX14_minutesAt_2 : decode cX14_minutesAt 2 = .ok (.putfield 54, 3) := by decide +kernel
theorem dX14_minutesAt_5 : decode cX14_minutesAt 5 = .ok (.iload_n 1, 1) := by decide +kernel
theorem dX14_minutesAt_6 : decode cX14_minutesAt 6 = .ok (.iconst 0, 1) := by decide +kernel
theorem dX14_minutesAt_7 : decode cX14_minutesAt 7 = .ok (.sipush 999, 3) := by decide +kernel
theorem dX14_minutesAt_10 : decode cX14_minutesAt 10 = .ok (.invokestatic 69, 3) := by decide +kernel
theorem dX14_minutesAt_13 : decode cX14_minutesAt 13 = .ok (.ifCond .eq 18, 3) := by decide +kernel
theorem dX14_minutesAt_16 : decode cX14_minutesAt 16 = .ok (.iload_n 2, 1) := by decide +kernel
theorem dX14_minutesAt_17 : decode cX14_minutesAt 17 = .ok (.invokestatic 365, 3) := by decide +kernel
theorem dX14_minutesAt_20 : decode cX14_minutesAt 20 = .ok (.ifCond .eq 11, 3) := by decide +kernel
theorem dX14_minutesAt_23 : decode cX14_minutesAt 23 = .ok (.iload_n 1, 1) := by decide +kernel
theorem dX14_minutesAt_24 : decode cX14_minutesAt 24 = .ok (.iload_n 2, 1) := by decide +kernel
theorem dX14_minutesAt_25 : decode cX14_minutesAt 25 = .ok (.invokestatic 350, 3) := by decide +kernel
theorem dX14_minutesAt_28 : decode cX14_minutesAt 28 = .ok (.goto 8, 3) := by decide +kernel
theorem dX14_minutesAt_31 : decode cX14_minutesAt 31 = .ok (.aload_n 0, 1) := by decide +kernel
theorem dX14_minutesAt_32 : decode cX14_minutesAt 32 = .ok (.iconst 1, 1) := by decide +kernel
theorem dX14_minutesAt_33 : decode cX14_minutesAt 33 = .ok (.invokevirtual 266, 3) := by decide +kernel
theorem dX14_minutesAt_36 : decode cX14_minutesAt 36 = .ok (.ireturn, 1) := by decide +kernel
set_option maxRecDepth 20000 in
theorem ggX14_amountFor_X14_isIn : GoodIn wsX14_amountFor wsX14_isIn := goodIn_r _ [5] (by decide +kernel) (by decide +kernel)
set_option maxRecDepth 20000 in
theorem gX14_amountFor_X14_isIn : GoodIn wsX14_amountFor (va_wsS RX14 69 yX14_isIn wsX14_isIn) := goodIn_app (goodIn_of _ (by decide +kernel)) ggX14_amountFor_X14_isIn
set_option maxRecDepth 20000 in
theorem ggX14_amountFor_X14_translated : GoodIn wsX14_amountFor wsX14_translated := goodIn_r _ [9, 10, 11, 12, 4, 13, 14, 15, 16, 17, 18, 19, 20, 25, 26, 27, 28, 29, 30, 31, 32, 33, 34, 35, 36, 37, 38, 39, 40, 41, 42, 43, 44, 45, 46, 47] (by decide +kernel) (by decide +kernel)
set_option maxRecDepth 20000 in
theorem gX14_amountFor_X14_translated : GoodIn wsX14_amountFor (wsV RX14 341 RX14 yX14_translated wsX14_translated) := goodIn_app (goodIn_of _ (by decide +kernel)) ggX14_amountFor_X14_translated
set_option maxRecDepth 20000 in
theorem ggX14_amountFor_X14_no : GoodIn wsX14_amountFor wsX14_no := goodIn_r _ [24, 1, 25, 26, 27, 28, 29, 30, 31, 32, 33, 34, 35, 36, 37, 38, 39, 40, 41, 42, 43, 44, 45, 46, 47] (by decide +kernel) (by decide +kernel)
set_option maxRecDepth 20000 in
theorem gX14_amountFor_X14_no : GoodIn wsX14_amountFor (wsV RX14 266 RX14 yX14_no wsX14_no) := goodIn_app (goodIn_of _ (by decide +kernel)) ggX14_amountFor_X14_no
theorem dX14_amountFor_0 : decode cX14_amountFor 0 = .ok (.aload_n 0, 1) := by decide +kernel
theorem dX14_amountFor_1 : decode cX14_amountFor 1 = .ok (.iconst 0, 1) := by decide +kernel
theorem dX14_amountFor_2 : decode cX14_amountFor 2 = .ok (.putfield 54, 3) := by decide +kernel
theorem dX14_amountFor_5 : decode cX14_amountFor 5 = .ok (.iload_n 1, 1) := by decide +kernel
theorem dX14_amountFor_6 : decode cX14_amountFor 6 = .ok (.iconst 0, 1) := by decide +kernel
theorem dX14_amountFor_7 : decode cX14_amountFor 7 = .ok (.sipush 999, 3) := by decide +kernel
theorem dX14_amountFor_10 : decode cX14_amountFor 10 = .ok (.invokestatic 69, 3) := by decide +kernel
theorem dX14_amountFor_13 : decode cX14_amountFor 13 = .ok (.ifCond .eq 11, 3) := by decide +kernel
theorem dX14_amountFor_16 : decode cX14_amountFor 16 = .ok (.aload_n 0, 1) := by decide +kernel
theorem dX14_amountFor_17 : decode cX14_amountFor 17 = .ok (.iload_n 1, 1) := by decide +kernel
theorem dX14_amountFor_18 : decode cX14_amountFor 18 = .ok (.invokevirtual 341, 3) := by decide +kernel
theorem dX14_amountFor_21 : decode cX14_amountFor 21 = .ok (.goto 8, 3) := by decide +kernel
theorem dX14_amountFor_24 : decode cX14_amountFor 24 = .ok (.aload_n 0, 1) := by decide +kernel
theorem dX14_amountFor_25 : decode cX14_amountFor 25 = .ok (.iconst 1, 1) := by decide +kernel
theorem dX14_amountFor_26 : decode cX14_amountFor 26 = .ok (.invokevirtual 266, 3) := by decide +kernel
theorem dX14_amountFor_29 : decode cX14_amountFor 29 = .ok (.ireturn, 1) := by decide +kernel
set_option maxRecDepth 20000 in
theorem ggX14_warnings_X14_ok : GoodIn wsX14_warnings wsX14_ok := goodIn_r _ [6, 7, 8, 9, 10, 11, 12, 13, 14, 15, 16, 17, 18, 19, 20, 21, 22, 23, 24, 25, 26, 27, 28, 29, 30] (by decide +kernel) (by decide +kernel)
set_option maxRecDepth 20000 in
theorem gX14_warnings_X14_ok : GoodIn wsX14_warnings (wsV RX14 282 RX14 yX14_ok wsX14_ok) := goodIn_app (goodIn_of _ (by decide +kernel)) ggX14_warnings_X14_ok
theorem dX14_warnings_0 : decode cX14_warnings 0 = .ok (.aload_n 0, 1) := by decide +kernel
theorem dX14_warnings_1 : decode cX14_warnings 1 = .ok (.aload_n 0, 1) := by decide +kernel
theorem dX14_warnings_2 : decode cX14_warnings 2 = .ok (.getfield 45, 3) := by decide +kernel
theorem dX14_warnings_5 : decode cX14_warnings 5 = .ok (.iconst 4, 1) := by decide +kernel
theorem dX14_warnings_6 : decode cX14_warnings 6 = .ok (.iaload, 1) := by decide +kernel
theorem dX14_warnings_7 : decode cX14_warnings 7 = .ok (.invokevirtual 282, 3) := by decide +kernel
theorem dX14_warnings_10 : decode cX14_warnings 10 = .ok (.ireturn, 1) := by decide +kernel
set_option maxRecDepth 20000 in
theorem ggX14_warningsOf_X14_isIn : GoodIn wsX14_warningsOf wsX14_isIn := goodIn_r _ [6] (by decide +kernel) (by decide +kernel)
set_option maxRecDepth 20000 in
theorem gX14_warningsOf_X14_isIn : GoodIn wsX14_warningsOf (va_wsS RX14 69 yX14_isIn wsX14_isIn) := goodIn_app (goodIn_of _ (by decide +kernel)) ggX14_warningsOf_X14_isIn
set_option maxRecDepth 20000 in
theorem ggX14_warningsOf_X14_no : GoodIn wsX14_warningsOf wsX14_no := goodIn_r _ [10, 1, 11, 12, 13, 14, 15, 16, 17, 18, 19, 20, 21, 22, 23, 24, 25, 26, 27, 28, 29, 30, 31, 32, 33] (by decide +kernel) (by decide +kernel)
set_option maxRecDepth 20000 in
theorem gX14_warningsOf_X14_no : GoodIn wsX14_warningsOf (wsV RX14 266 RX14 yX14_no wsX14_no) := goodIn_app (goodIn_of _ (by decide +kernel)) ggX14_warningsOf_X14_no
theorem dX14_warningsOf_0 : decode cX14_warningsOf 0 = .ok (.aload_n 0, 1) := by decide +kernel
theorem dX14_warningsOf_1 : decode cX14_warningsOf 1 = .ok (.iconst 0, 1) := by decide +kernel
theorem dX14_warningsOf_2 : decode cX14_warningsOf 2 = .ok (.putfield 54, 3) := by decide +kernel
theorem dX14_warningsOf_5 : decode cX14_warningsOf 5 = .ok (.iload_n 1, 1) := by decide +kernel
theorem dX14_warningsOf_6 : decode cX14_warningsOf 6 = .ok (.iconst 1, 1) := by decide +kernel
theorem dX14_warningsOf_7 : decode cX14_warningsOf 7 = .ok (.iconst 5, 1) := by decide +kernel
theorem dX14_warningsOf_8 : decode cX14_warningsOf 8 = .ok (.invokestatic 69, 3) := by decide +kernel
theorem dX14_warningsOf_11 : decode cX14_warningsOf 11 = .ok (.ifCond .eq 15, 3) := by decide +kernel
theorem dX14_warningsOf_14 : decode cX14_warningsOf 14 = .ok (.aload_n 0, 1) := by decide +kernel
theorem dX14_warningsOf_15 : decode cX14_warningsOf 15 = .ok (.getfield 45, 3) := by decide +kernel
theorem dX14_warningsOf_18 : decode cX14_warningsOf 18 = .ok (.bipush 6, 2) := by decide +kernel
theorem dX14_warningsOf_20 : decode cX14_warningsOf 20 = .ok (.iload_n 1, 1) := by decide +kernel
theorem dX14_warningsOf_21 : decode cX14_warningsOf 21 = .ok (.iadd, 1) := by decide +kernel
theorem dX14_warningsOf_22 : decode cX14_warningsOf 22 = .ok (.iaload, 1) := by decide +kernel
theorem dX14_warningsOf_23 : decode cX14_warningsOf 23 = .ok (.goto 8, 3) := by decide +kernel
theorem dX14_warningsOf_26 : decode cX14_warningsOf 26 = .ok (.aload_n 0, 1) := by decide +kernel
theorem dX14_warningsOf_27 : decode cX14_warningsOf 27 = .ok (.iconst 1, 1) := by decide +kernel
theorem dX14_warningsOf_28 : decode cX14_warningsOf 28 = .ok (.invokevirtual 266, 3) := by decide +kernel
theorem dX14_warningsOf_31 : decode cX14_warningsOf 31 = .ok (.ireturn, 1) := by decide +kernel
set_option maxRecDepth 20000 in
theorem ggX14_latest_X14_isIn : GoodIn wsX14_latest wsX14_isIn := goodIn_r _ [10] (by decide +kernel) (by decide +kernel)
set_option maxRecDepth 20000 in
theorem gX14_latest_X14_isIn : GoodIn wsX14_latest (va_wsS RX14 69 yX14_isIn wsX14_isIn) := goodIn_app (goodIn_of _ (by decide +kernel)) ggX14_latest_X14_isIn
set_option maxRecDepth 20000 in
theorem ggX14_latest_X14_no : GoodIn wsX14_latest wsX14_no := goodIn_r _ [14, 1, 15, 16, 17, 18, 19, 20, 21, 22, 23, 24, 25, 26, 27, 28, 29, 30, 31, 32, 33, 34, 35, 36, 37] (by decide +kernel) (by decide +kernel)
set_option maxRecDepth 20000 in
theorem gX14_latest_X14_no : GoodIn wsX14_latest (wsV RX14 266 RX14 yX14_no wsX14_no) := goodIn_app (goodIn_of _ (by decide +kernel)) ggX14_latest_X14_no
theorem dX14_latest_0 : decode cX14_latest 0 = .ok (.aload_n 0, 1) := by decide +kernel
theorem dX14_latest_1 : decode cX14_latest 1 = .ok (.iconst 0, 1) := by decide +kernel
theorem dX14_latest_2 : decode cX14_latest 2 = .ok (.putfield 54, 3) := by decide +kernel
theorem dX14_latest_5 : decode cX14_latest 5 = .ok (.iload_n 1, 1) := by decide +kernel
theorem dX14_latest_6 : decode cX14_latest 6 = .ok (.iconst 0, 1) := by decide +kernel
theorem dX14_latest_7 : decode cX14_latest 7 = .ok (.bipush 20, 2) := by decide +kernel
theorem dX14_latest_9 : decode cX14_latest 9 = .ok (.iload_n 2, 1) := by decide +kernel
theorem dX14_latest_10 : decode cX14_latest 10 = .ok (.invokestatic 57, 3) := by decide +kernel
theorem dX14_latest_13 : decode cX14_latest 13 = .ok (.iconst 1, 1) := by decide +kernel
theorem dX14_latest_14 : decode cX14_latest 14 = .ok (.isub, 1) := by decide +kernel
theorem dX14_latest_15 : decode cX14_latest 15 = .ok (.invokestatic 69, 3) := by decide +kernel
theorem dX14_latest_18 : decode cX14_latest 18 = .ok (.ifCond .eq 21, 3) := by decide +kernel
theorem dX14_latest_21 : decode cX14_latest 21 = .ok (.aload_n 0, 1) := by decide +kernel
theorem dX14_latest_22 : decode cX14_latest 22 = .ok (.getfield 45, 3) := by decide +kernel
theorem dX14_latest_25 : decode cX14_latest 25 = .ok (.iload_n 3, 1) := by decide +kernel
theorem dX14_latest_26 : decode cX14_latest 26 = .ok (.iload_n 2, 1) := by decide +kernel
theorem dX14_latest_27 : decode cX14_latest 27 = .ok (.iconst 1, 1) := by decide +kernel
theorem dX14_latest_28 : decode cX14_latest 28 = .ok (.isub, 1) := by decide +kernel
theorem dX14_latest_29 : decode cX14_latest 29 = .ok (.iload_n 1, 1) := by decide +kernel
theorem dX14_latest_30 : decode cX14_latest 30 = .ok (.isub, 1) := by decide +kernel
theorem dX14_latest_31 : decode cX14_latest 31 = .ok (.bipush 20, 2) := by decide +kernel
theorem dX14_latest_33 : decode cX14_latest 33 = .ok (.irem, 1) := by decide +kernel
theorem dX14_latest_34 : decode cX14_latest 34 = .ok (.iadd, 1) := by decide +kernel
theorem dX14_latest_35 : decode cX14_latest 35 = .ok (.iaload, 1) := by decide +kernel
theorem dX14_latest_36 : decode cX14_latest 36 = .ok (.goto 8, 3) := by decide +kernel
theorem dX14_latest_39 : decode cX14_latest 39 = .ok (.aload_n 0, 1) := by decide +kernel
theorem dX14_latest_40 : decode cX14_latest 40 = .ok (.iconst 1, 1) := by decide +kernel
theorem dX14_latest_41 : decode cX14_latest 41 = .ok (.invokevirtual 266, 3) := by decide +kernel
theorem dX14_latest_44 : decode cX14_latest 44 = .ok (.ireturn, 1) := by decide +kernel
set_option maxRecDepth 20000 in
theorem ggX14_warningAt_X14_latest : GoodIn wsX14_warningAt wsX14_latest := goodIn_r _ [6, 7, 8, 9, 10, 11, 1, 12, 13, 5, 14, 15, 16, 17, 18, 19, 20, 21, 22, 23, 24, 25, 26, 27, 28, 29, 30, 31, 32, 33, 34, 35, 36, 37, 38, 39, 40, 41] (by decide +kernel) (by decide +kernel)
set_option maxRecDepth 20000 in
theorem gX14_warningAt_X14_latest : GoodIn wsX14_warningAt (wsV RX14 368 RX14 yX14_latest wsX14_latest) := goodIn_app (goodIn_of _ (by decide +kernel)) ggX14_warningAt_X14_latest
theorem dX14_warningAt_0 : decode cX14_warningAt 0 = .ok (.aload_n 0, 1) := by decide +kernel
theorem dX14_warningAt_1 : decode cX14_warningAt 1 = .ok (.iload_n 1, 1) := by decide +kernel
theorem dX14_warningAt_2 : decode cX14_warningAt 2 = .ok (.aload_n 0, 1) := by decide +kernel
theorem dX14_warningAt_3 : decode cX14_warningAt 3 = .ok (.getfield 45, 3) := by decide +kernel
theorem dX14_warningAt_6 : decode cX14_warningAt 6 = .ok (.iconst 4, 1) := by decide +kernel
theorem dX14_warningAt_7 : decode cX14_warningAt 7 = .ok (.iaload, 1) := by decide +kernel
theorem dX14_warningAt_8 : decode cX14_warningAt 8 = .ok (.bipush 12, 2) := by decide +kernel
theorem dX14_warningAt_10 : decode cX14_warningAt 10 = .ok (.invokevirtual 368, 3) := by decide +kernel
theorem dX14_warningAt_13 : decode cX14_warningAt 13 = .ok (.ireturn, 1) := by decide +kernel
set_option maxRecDepth 20000 in
theorem ggX14_notes_X14_ok : GoodIn wsX14_notes wsX14_ok := goodIn_r _ [6, 7, 8, 9, 10, 11, 12, 13, 14, 15, 16, 17, 18, 19, 20, 21, 22, 23, 24, 25, 26, 27, 28, 29, 30] (by decide +kernel) (by decide +kernel)
set_option maxRecDepth 20000 in
theorem gX14_notes_X14_ok : GoodIn wsX14_notes (wsV RX14 282 RX14 yX14_ok wsX14_ok) := goodIn_app (goodIn_of _ (by decide +kernel)) ggX14_notes_X14_ok
theorem dX14_notes_0 : decode cX14_notes 0 = .ok (.aload_n 0, 1) := by decide +kernel
theorem dX14_notes_1 : decode cX14_notes 1 = .ok (.aload_n 0, 1) := by decide +kernel
theorem dX14_notes_2 : decode cX14_notes 2 = .ok (.getfield 45, 3) := by decide +kernel
theorem dX14_notes_5 : decode cX14_notes 5 = .ok (.iconst 5, 1) := by decide +kernel
theorem dX14_notes_6 : decode cX14_notes 6 = .ok (.iaload, 1) := by decide +kernel
theorem dX14_notes_7 : decode cX14_notes 7 = .ok (.invokevirtual 282, 3) := by decide +kernel
theorem dX14_notes_10 : decode cX14_notes 10 = .ok (.ireturn, 1) := by decide +kernel
set_option maxRecDepth 20000 in
theorem ggX14_noteAt_X14_latest : GoodIn wsX14_noteAt wsX14_latest := goodIn_r _ [6, 7, 8, 9, 10, 11, 1, 12, 13, 5, 14, 15, 16, 17, 18, 19, 20, 21, 22, 23, 24, 25, 26, 27, 28, 29, 30, 31, 32, 33, 34, 35, 36, 37, 38, 39, 40, 41] (by decide +kernel) (by decide +kernel)
set_option maxRecDepth 20000 in
theorem gX14_noteAt_X14_latest : GoodIn wsX14_noteAt (wsV RX14 368 RX14 yX14_latest wsX14_latest) := goodIn_app (goodIn_of _ (by decide +kernel)) ggX14_noteAt_X14_latest
theorem dX14_noteAt_0 : decode cX14_noteAt 0 = .ok (.aload_n 0, 1) := by decide +kernel
theorem dX14_noteAt_1 : decode cX14_noteAt 1 = .ok (.iload_n 1, 1) := by decide +kernel
theorem dX14_noteAt_2 : decode cX14_noteAt 2 = .ok (.aload_n 0, 1) := by decide +kernel
theorem dX14_noteAt_3 : decode cX14_noteAt 3 = .ok (.getfield 45, 3) := by decide +kernel
theorem dX14_noteAt_6 : decode cX14_noteAt 6 = .ok (.iconst 5, 1) := by decide +kernel
theorem dX14_noteAt_7 : decode cX14_noteAt 7 = .ok (.iaload, 1) := by decide +kernel
theorem dX14_noteAt_8 : decode cX14_noteAt 8 = .ok (.bipush 32, 2) := by decide +kernel
theorem dX14_noteAt_10 : decode cX14_noteAt 10 = .ok (.invokevirtual 368, 3) := by decide +kernel
theorem dX14_noteAt_13 : decode cX14_noteAt 13 = .ok (.ireturn, 1) := by decide +kernel
set_option maxRecDepth 20000 in
theorem ggX14_setAltitude_X14_isAltitude : GoodIn wsX14_setAltitude wsX14_isAltitude := goodIn_r _ [6, 7, 8, 5, 9] (by decide +kernel) (by decide +kernel)
set_option maxRecDepth 20000 in
theorem gX14_setAltitude_X14_isAltitude : GoodIn wsX14_setAltitude (va_wsS RX14 365 yX14_isAltitude wsX14_isAltitude) := goodIn_app (goodIn_of _ (by decide +kernel)) ggX14_setAltitude_X14_isAltitude
set_option maxRecDepth 20000 in
theorem ggX14_setAltitude_X14_no : GoodIn wsX14_setAltitude wsX14_no := goodIn_r _ [13, 1, 33, 34, 35, 36, 37, 38, 39, 40, 41, 42, 43, 44, 45, 46, 47, 48, 49, 50, 51, 52, 53, 54, 55] (by decide +kernel) (by decide +kernel)
set_option maxRecDepth 20000 in
theorem gX14_setAltitude_X14_no : GoodIn wsX14_setAltitude (wsV RX14 266 RX14 yX14_no wsX14_no) := goodIn_app (goodIn_of _ (by decide +kernel)) ggX14_setAltitude_X14_no
set_option maxRecDepth 20000 in
theorem ggX14_setAltitude_X14_climb : GoodIn wsX14_setAltitude wsX14_climb := goodIn_r _ [17, 2, 18, 19, 20, 21, 22, 23, 24, 5, 25, 26, 27, 28, 29, 30, 31, 32, 33, 34, 35, 36, 37, 38, 39, 40, 41, 42, 43, 44, 45, 46, 47, 48, 49, 50, 51, 52, 53, 54, 55, 56, 57, 58, 59, 60, 61, 62, 63, 64, 65, 66, 67, 68, 69, 70, 71, 72, 73, 74, 75, 76] (by decide +kernel) (by decide +kernel)
set_option maxRecDepth 20000 in
theorem gX14_setAltitude_X14_climb : GoodIn wsX14_setAltitude (wsV RX14 371 RX14 yX14_climb wsX14_climb) := goodIn_app (goodIn_of _ (by decide +kernel)) ggX14_setAltitude_X14_climb
theorem dX14_setAltitude_0 : decode cX14_setAltitude 0 = .ok (.aload_n 0, 1) := by decide +kernel
theorem dX14_setAltitude_1 : decode cX14_setAltitude 1 = .ok (.iconst 0, 1) := by decide +kernel
theorem dX14_setAltitude_2 : decode cX14_setAltitude 2 = .ok (.putfield 54, 3) := by decide +kernel
theorem dX14_setAltitude_5 : decode cX14_setAltitude 5 = .ok (.iload_n 1, 1) := by decide +kernel
theorem dX14_setAltitude_6 : decode cX14_setAltitude 6 = .ok (.invokestatic 365, 3) := by decide +kernel
theorem dX14_setAltitude_9 : decode cX14_setAltitude 9 = .ok (.ifCond .ne 9, 3) := by decide +kernel
theorem dX14_setAltitude_12 : decode cX14_setAltitude 12 = .ok (.aload_n 0, 1) := by decide +kernel
theorem dX14_setAltitude_13 : decode cX14_setAltitude 13 = .ok (.iconst 1, 1) := by decide +kernel
theorem dX14_setAltitude_14 : decode cX14_setAltitude 14 = .ok (.invokevirtual 266, 3) := by decide +kernel
theorem dX14_setAltitude_17 : decode cX14_setAltitude 17 = .ok (.ireturn, 1) := by decide +kernel
theorem dX14_setAltitude_18 : decode cX14_setAltitude 18 = .ok (.aload_n 0, 1) := by decide +kernel
theorem dX14_setAltitude_19 : decode cX14_setAltitude 19 = .ok (.getfield 45, 3) := by decide +kernel
theorem dX14_setAltitude_22 : decode cX14_setAltitude 22 = .ok (.iconst 0, 1) := by decide +kernel
theorem dX14_setAltitude_23 : decode cX14_setAltitude 23 = .ok (.iaload, 1) := by decide +kernel
theorem dX14_setAltitude_24 : decode cX14_setAltitude 24 = .ok (.istore_n 2, 1) := by decide +kernel
theorem dX14_setAltitude_25 : decode cX14_setAltitude 25 = .ok (.aload_n 0, 1) := by decide +kernel
theorem dX14_setAltitude_26 : decode cX14_setAltitude 26 = .ok (.iload_n 1, 1) := by decide +kernel
theorem dX14_setAltitude_27 : decode cX14_setAltitude 27 = .ok (.invokevirtual 371, 3) := by decide +kernel
theorem dX14_setAltitude_30 : decode cX14_setAltitude 30 = .ok (.iload_n 2, 1) := by decide +kernel
theorem dX14_setAltitude_31 : decode cX14_setAltitude 31 = .ok (.ireturn, 1) := by decide +kernel
set_option maxRecDepth 20000 in
theorem ggX14_setServings_X14_isIn : GoodIn wsX14_setServings wsX14_isIn := goodIn_r _ [6] (by decide +kernel) (by decide +kernel)
set_option maxRecDepth 20000 in
theorem gX14_setServings_X14_isIn : GoodIn wsX14_setServings (va_wsS RX14 69 yX14_isIn wsX14_isIn) := goodIn_app (goodIn_of _ (by decide +kernel)) ggX14_setServings_X14_isIn
set_option maxRecDepth 20000 in
theorem ggX14_setServings_X14_no : GoodIn wsX14_setServings wsX14_no := goodIn_r _ [10, 1, 11, 12, 13, 14, 15, 16, 17, 18, 19, 20, 21, 22, 23, 24, 25, 26, 27, 28, 29, 30, 31, 32, 33] (by decide +kernel) (by decide +kernel)
set_option maxRecDepth 20000 in
theorem gX14_setServings_X14_no : GoodIn wsX14_setServings (wsV RX14 266 RX14 yX14_no wsX14_no) := goodIn_app (goodIn_of _ (by decide +kernel)) ggX14_setServings_X14_no
theorem dX14_setServings_0 : decode cX14_setServings 0 = .ok (.aload_n 0, 1) := by decide +kernel
theorem dX14_setServings_1 : decode cX14_setServings 1 = .ok (.iconst 0, 1) := by decide +kernel
theorem dX14_setServings_2 : decode cX14_setServings 2 = .ok (.putfield 54, 3) := by decide +kernel
theorem dX14_setServings_5 : decode cX14_setServings 5 = .ok (.iload_n 1, 1) := by decide +kernel
theorem dX14_setServings_6 : decode cX14_setServings 6 = .ok (.iconst 1, 1) := by decide +kernel
theorem dX14_setServings_7 : decode cX14_setServings 7 = .ok (.bipush 12, 2) := by decide +kernel
theorem dX14_setServings_9 : decode cX14_setServings 9 = .ok (.invokestatic 69, 3) := by decide +kernel
theorem dX14_setServings_12 : decode cX14_setServings 12 = .ok (.ifCond .ne 9, 3) := by decide +kernel
theorem dX14_setServings_15 : decode cX14_setServings 15 = .ok (.aload_n 0, 1) := by decide +kernel
theorem dX14_setServings_16 : decode cX14_setServings 16 = .ok (.iconst 1, 1) := by decide +kernel
theorem dX14_setServings_17 : decode cX14_setServings 17 = .ok (.invokevirtual 266, 3) := by decide +kernel
theorem dX14_setServings_20 : decode cX14_setServings 20 = .ok (.ireturn, 1) := by decide +kernel
theorem dX14_setServings_21 : decode cX14_setServings 21 = .ok (.aload_n 0, 1) := by decide +kernel
theorem dX14_setServings_22 : decode cX14_setServings 22 = .ok (.getfield 45, 3) := by decide +kernel
theorem dX14_setServings_25 : decode cX14_setServings 25 = .ok (.iconst 1, 1) := by decide +kernel
theorem dX14_setServings_26 : decode cX14_setServings 26 = .ok (.iaload, 1) := by decide +kernel
theorem dX14_setServings_27 : decode cX14_setServings 27 = .ok (.istore_n 2, 1) := by decide +kernel
theorem dX14_setServings_28 : decode cX14_setServings 28 = .ok (.aload_n 0, 1) := by decide +kernel
theorem dX14_setServings_29 : decode cX14_setServings 29 = .ok (.getfield 45, 3) := by decide +kernel
theorem dX14_setServings_32 : decode cX14_setServings 32 = .ok (.iconst 1, 1) := by decide +kernel
theorem dX14_setServings_33 : decode cX14_setServings 33 = .ok (.iload_n 1, 1) := by decide +kernel
theorem dX14_setServings_34 : decode cX14_setServings 34 = .ok (.iastore, 1) := by decide +kernel
theorem dX14_setServings_35 : decode cX14_setServings 35 = .ok (.iload_n 2, 1) := by decide +kernel
theorem dX14_setServings_36 : decode cX14_setServings 36 = .ok (.ireturn, 1) := by decide +kernel
set_option maxRecDepth 20000 in
theorem ggX14_setSpoon_X14_isIn : GoodIn wsX14_setSpoon wsX14_isIn := goodIn_r _ [6] (by decide +kernel) (by decide +kernel)
set_option maxRecDepth 20000 in
theorem gX14_setSpoon_X14_isIn : GoodIn wsX14_setSpoon (va_wsS RX14 69 yX14_isIn wsX14_isIn) := goodIn_app (goodIn_of _ (by decide +kernel)) ggX14_setSpoon_X14_isIn
set_option maxRecDepth 20000 in
theorem ggX14_setSpoon_X14_no : GoodIn wsX14_setSpoon wsX14_no := goodIn_r _ [10, 1, 11, 12, 13, 14, 15, 16, 17, 18, 19, 20, 21, 22, 23, 24, 25, 26, 27, 28, 29, 30, 31, 32, 33] (by decide +kernel) (by decide +kernel)
set_option maxRecDepth 20000 in
theorem gX14_setSpoon_X14_no : GoodIn wsX14_setSpoon (wsV RX14 266 RX14 yX14_no wsX14_no) := goodIn_app (goodIn_of _ (by decide +kernel)) ggX14_setSpoon_X14_no
theorem dX14_setSpoon_0 : decode cX14_setSpoon 0 = .ok (.aload_n 0, 1) := by decide +kernel
theorem dX14_setSpoon_1 : decode cX14_setSpoon 1 = .ok (.iconst 0, 1) := by decide +kernel
theorem dX14_setSpoon_2 : decode cX14_setSpoon 2 = .ok (.putfield 54, 3) := by decide +kernel
theorem dX14_setSpoon_5 : decode cX14_setSpoon 5 = .ok (.iload_n 1, 1) := by decide +kernel
theorem dX14_setSpoon_6 : decode cX14_setSpoon 6 = .ok (.iconst 1, 1) := by decide +kernel
theorem dX14_setSpoon_7 : decode cX14_setSpoon 7 = .ok (.bipush 10, 2) := by decide +kernel
theorem dX14_setSpoon_9 : decode cX14_setSpoon 9 = .ok (.invokestatic 69, 3) := by decide +kernel
theorem dX14_setSpoon_12 : decode cX14_setSpoon 12 = .ok (.ifCond .ne 9, 3) := by decide +kernel
theorem dX14_setSpoon_15 : decode cX14_setSpoon 15 = .ok (.aload_n 0, 1) := by decide +kernel
theorem dX14_setSpoon_16 : decode cX14_setSpoon 16 = .ok (.iconst 1, 1) := by decide +kernel
theorem dX14_setSpoon_17 : decode cX14_setSpoon 17 = .ok (.invokevirtual 266, 3) := by decide +kernel
theorem dX14_setSpoon_20 : decode cX14_setSpoon 20 = .ok (.ireturn, 1) := by decide +kernel
theorem dX14_setSpoon_21 : decode cX14_setSpoon 21 = .ok (.aload_n 0, 1) := by decide +kernel
theorem dX14_setSpoon_22 : decode cX14_setSpoon 22 = .ok (.getfield 45, 3) := by decide +kernel
theorem dX14_setSpoon_25 : decode cX14_setSpoon 25 = .ok (.iconst 2, 1) := by decide +kernel
theorem dX14_setSpoon_26 : decode cX14_setSpoon 26 = .ok (.iaload, 1) := by decide +kernel
theorem dX14_setSpoon_27 : decode cX14_setSpoon 27 = .ok (.istore_n 2, 1) := by decide +kernel
theorem dX14_setSpoon_28 : decode cX14_setSpoon 28 = .ok (.aload_n 0, 1) := by decide +kernel
theorem dX14_setSpoon_29 : decode cX14_setSpoon 29 = .ok (.getfield 45, 3) := by decide +kernel
theorem dX14_setSpoon_32 : decode cX14_setSpoon 32 = .ok (.iconst 2, 1) := by decide +kernel
theorem dX14_setSpoon_33 : decode cX14_setSpoon 33 = .ok (.iload_n 1, 1) := by decide +kernel
theorem dX14_setSpoon_34 : decode cX14_setSpoon 34 = .ok (.iastore, 1) := by decide +kernel
theorem dX14_setSpoon_35 : decode cX14_setSpoon 35 = .ok (.iload_n 2, 1) := by decide +kernel
theorem dX14_setSpoon_36 : decode cX14_setSpoon 36 = .ok (.ireturn, 1) := by decide +kernel
set_option maxRecDepth 20000 in
theorem ggX14_pourHand_X14_isPan : GoodIn wsX14_pourHand wsX14_isPan := goodIn_r _ [6, 7, 8, 9, 5, 10, 35, 36, 37, 38, 39, 40, 41, 42, 43, 44, 45, 46, 47, 48, 49, 50, 51, 52, 53, 54, 55, 56, 57, 58, 59, 60, 61, 62, 63, 64, 65, 66, 67, 68, 69, 70, 71, 72, 73, 74, 75, 76, 77, 78] (by decide +kernel) (by decide +kernel)
set_option maxRecDepth 20000 in
theorem gX14_pourHand_X14_isPan : GoodIn wsX14_pourHand (wsV RX14 359 RX14 yX14_isPan wsX14_isPan) := goodIn_app (goodIn_of _ (by decide +kernel)) ggX14_pourHand_X14_isPan
set_option maxRecDepth 20000 in
theorem ggX14_pourHand_X14_no : GoodIn wsX14_pourHand wsX14_no := goodIn_r _ [14, 1, 35, 36, 37, 38, 39, 40, 41, 42, 43, 44, 45, 46, 47, 48, 49, 50, 51, 52, 53, 54, 55, 56, 57] (by decide +kernel) (by decide +kernel)
set_option maxRecDepth 20000 in
theorem gX14_pourHand_X14_no : GoodIn wsX14_pourHand (wsV RX14 266 RX14 yX14_no wsX14_no) := goodIn_app (goodIn_of _ (by decide +kernel)) ggX14_pourHand_X14_no
set_option maxRecDepth 20000 in
theorem ggX14_pourHand_X14_isIn : GoodIn wsX14_pourHand wsX14_isIn := goodIn_r _ [10] (by decide +kernel) (by decide +kernel)
set_option maxRecDepth 20000 in
theorem gX14_pourHand_X14_isIn : GoodIn wsX14_pourHand (va_wsS RX14 69 yX14_isIn wsX14_isIn) := goodIn_app (goodIn_of _ (by decide +kernel)) ggX14_pourHand_X14_isIn
set_option maxRecDepth 20000 in
theorem ggX14_pourHand_X14_pour : GoodIn wsX14_pourHand wsX14_pour := goodIn_r _ [18, 19, 20, 21, 22, 23, 24, 25, 26, 5, 27, 7, 28, 29, 30, 31, 32, 33, 34, 35, 36, 37, 38, 39, 40, 41, 42, 43, 44, 45, 46, 47, 48, 49, 50, 51, 52, 53, 54, 55, 56, 57, 58, 59, 60, 61, 62, 63, 64, 65, 66, 67, 68, 69, 70, 71, 72, 73, 74, 75, 76, 77, 78] (by decide +kernel) (by decide +kernel)
set_option maxRecDepth 20000 in
theorem gX14_pourHand_X14_pour : GoodIn wsX14_pourHand (wsV RX14 344 RX14 yX14_pour wsX14_pour) := goodIn_app (goodIn_of _ (by decide +kernel)) ggX14_pourHand_X14_pour
theorem dX14_pourHand_0 : decode cX14_pourHand 0 = .ok (.aload_n 0, 1) := by decide +kernel
theorem dX14_pourHand_1 : decode cX14_pourHand 1 = .ok (.iconst 0, 1) := by decide +kernel
theorem dX14_pourHand_2 : decode cX14_pourHand 2 = .ok (.putfield 54, 3) := by decide +kernel
theorem dX14_pourHand_5 : decode cX14_pourHand 5 = .ok (.aload_n 0, 1) := by decide +kernel
theorem dX14_pourHand_6 : decode cX14_pourHand 6 = .ok (.iload_n 1, 1) := by decide +kernel
theorem dX14_pourHand_7 : decode cX14_pourHand 7 = .ok (.invokevirtual 359, 3) := by decide +kernel
theorem dX14_pourHand_10 : decode cX14_pourHand 10 = .ok (.ifCond .ne 9, 3) := by decide +kernel
theorem dX14_pourHand_13 : decode cX14_pourHand 13 = .ok (.aload_n 0, 1) := by decide +kernel
theorem dX14_pourHand_14 : decode cX14_pourHand 14 = .ok (.iconst 1, 1) := by decide +kernel
theorem dX14_pourHand_15 : decode cX14_pourHand 15 = .ok (.invokevirtual 266, 3) := by decide +kernel
theorem dX14_pourHand_18 : decode cX14_pourHand 18 = .ok (.ireturn, 1) := by decide +kernel
theorem dX14_pourHand_19 : decode cX14_pourHand 19 = .ok (.iload_n 3, 1) := by decide +kernel
theorem dX14_pourHand_20 : decode cX14_pourHand 20 = .ok (.iconst 1, 1) := by decide +kernel
theorem dX14_pourHand_21 : decode cX14_pourHand 21 = .ok (.sipush 200, 3) := by decide +kernel
theorem dX14_pourHand_24 : decode cX14_pourHand 24 = .ok (.invokestatic 69, 3) := by decide +kernel
theorem dX14_pourHand_27 : decode cX14_pourHand 27 = .ok (.ifCond .eq 13, 3) := by decide +kernel
theorem dX14_pourHand_30 : decode cX14_pourHand 30 = .ok (.aload_n 0, 1) := by decide +kernel
theorem dX14_pourHand_31 : decode cX14_pourHand 31 = .ok (.iload_n 1, 1) := by decide +kernel
theorem dX14_pourHand_32 : decode cX14_pourHand 32 = .ok (.iload_n 2, 1) := by decide +kernel
theorem dX14_pourHand_33 : decode cX14_pourHand 33 = .ok (.iload_n 3, 1) := by decide +kernel
theorem dX14_pourHand_34 : decode cX14_pourHand 34 = .ok (.invokevirtual 344, 3) := by decide +kernel
theorem dX14_pourHand_37 : decode cX14_pourHand 37 = .ok (.goto 8, 3) := by decide +kernel
theorem dX14_pourHand_40 : decode cX14_pourHand 40 = .ok (.aload_n 0, 1) := by decide +kernel
theorem dX14_pourHand_41 : decode cX14_pourHand 41 = .ok (.iconst 2, 1) := by decide +kernel
theorem dX14_pourHand_42 : decode cX14_pourHand 42 = .ok (.invokevirtual 266, 3) := by decide +kernel
theorem dX14_pourHand_45 : decode cX14_pourHand 45 = .ok (.ireturn, 1) := by decide +kernel
set_option maxRecDepth 20000 in
theorem ggX14_pourWater_X14_pourHand : GoodIn wsX14_pourWater wsX14_pourHand := goodIn_r _ [5, 6, 7, 8, 9, 4, 10, 11, 12, 13, 14, 15, 16, 17, 18, 19, 20, 21, 22, 23, 24, 25, 26, 27, 28, 29, 30, 31, 32, 33, 34, 35, 36, 37, 38, 39, 40, 41, 42, 43, 44, 45, 46, 47, 48, 49, 50, 51, 52, 53, 54, 55, 56, 57, 58, 59, 60, 61, 62, 63, 64, 65, 66, 67, 68, 69, 70, 71, 72, 73, 74, 75, 76, 77, 78, 79, 80, 81, 82] (by decide +kernel) (by decide +kernel)
set_option maxRecDepth 20000 in
theorem gX14_pourWater_X14_pourHand : GoodIn wsX14_pourWater (wsV RX14 374 RX14 yX14_pourHand wsX14_pourHand) := goodIn_app (goodIn_of _ (by decide +kernel)) ggX14_pourWater_X14_pourHand
theorem dX14_pourWater_0 : decode cX14_pourWater 0 = .ok (.aload_n 0, 1) := by decide +kernel
theorem dX14_pourWater_1 : decode cX14_pourWater 1 = .ok (.iload_n 1, 1) := by decide +kernel
theorem dX14_pourWater_2 : decode cX14_pourWater 2 = .ok (.iconst 0, 1) := by decide +kernel
theorem dX14_pourWater_3 : decode cX14_pourWater 3 = .ok (.iload_n 2, 1) := by decide +kernel
theorem dX14_pourWater_4 : decode cX14_pourWater 4 = .ok (.invokevirtual 374, 3) := by decide +kernel
theorem dX14_pourWater_7 : decode cX14_pourWater 7 = .ok (.ireturn, 1) := by decide +kernel
set_option maxRecDepth 20000 in
theorem ggX14_pourMeal_X14_pourHand : GoodIn wsX14_pourMeal wsX14_pourHand := goodIn_r _ [5, 6, 7, 8, 9, 4, 10, 11, 12, 13, 14, 15, 16, 17, 18, 19, 20, 21, 22, 23, 24, 25, 26, 27, 28, 29, 30, 31, 32, 33, 34, 35, 36, 37, 38, 39, 40, 41, 42, 43, 44, 45, 46, 47, 48, 49, 50, 51, 52, 53, 54, 55, 56, 57, 58, 59, 60, 61, 62, 63, 64, 65, 66, 67, 68, 69, 70, 71, 72, 73, 74, 75, 76, 77, 78, 79, 80, 81, 82] (by decide +kernel) (by decide +kernel)
set_option maxRecDepth 20000 in
theorem gX14_pourMeal_X14_pourHand : GoodIn wsX14_pourMeal (wsV RX14 374 RX14 yX14_pourHand wsX14_pourHand) := goodIn_app (goodIn_of _ (by decide +kernel)) ggX14_pourMeal_X14_pourHand
theorem dX14_pourMeal_0 : decode cX14_pourMeal 0 = .ok (.aload_n 0, 1) := by decide +kernel
theorem dX14_pourMeal_1 : decode cX14_pourMeal 1 = .ok (.iload_n 1, 1) := by decide +kernel
theorem dX14_pourMeal_2 : decode cX14_pourMeal 2 = .ok (.iconst 1, 1) := by decide +kernel
theorem dX14_pourMeal_3 : decode cX14_pourMeal 3 = .ok (.iload_n 2, 1) := by decide +kernel
theorem dX14_pourMeal_4 : decode cX14_pourMeal 4 = .ok (.invokevirtual 374, 3) := by decide +kernel
theorem dX14_pourMeal_7 : decode cX14_pourMeal 7 = .ok (.ireturn, 1) := by decide +kernel
set_option maxRecDepth 20000 in
theorem ggX14_wash_X14_isPan : GoodIn wsX14_wash wsX14_isPan := goodIn_r _ [6, 7, 8, 9, 5, 10, 27, 28, 29, 30, 31, 32, 33, 34, 35, 36, 37, 38, 39, 40, 41, 42, 43, 44, 45, 46, 47, 48, 49, 50, 51, 52, 53, 54, 55, 56, 57, 58, 59, 60, 61, 62, 63, 64, 65, 66, 67, 68, 69, 70] (by decide +kernel) (by decide +kernel)
set_option maxRecDepth 20000 in
theorem gX14_wash_X14_isPan : GoodIn wsX14_wash (wsV RX14 359 RX14 yX14_isPan wsX14_isPan) := goodIn_app (goodIn_of _ (by decide +kernel)) ggX14_wash_X14_isPan
set_option maxRecDepth 20000 in
theorem ggX14_wash_X14_no : GoodIn wsX14_wash wsX14_no := goodIn_r _ [14, 1, 27, 28, 29, 30, 31, 32, 33, 34, 35, 36, 37, 38, 39, 40, 41, 42, 43, 44, 45, 46, 47, 48, 49] (by decide +kernel) (by decide +kernel)
set_option maxRecDepth 20000 in
theorem gX14_wash_X14_no : GoodIn wsX14_wash (wsV RX14 266 RX14 yX14_no wsX14_no) := goodIn_app (goodIn_of _ (by decide +kernel)) ggX14_wash_X14_no
set_option maxRecDepth 20000 in
theorem ggX14_wash_X14_inside : GoodIn wsX14_wash wsX14_inside := goodIn_r _ [18, 19, 20, 21, 5, 22, 27, 28, 29, 30, 31, 32, 33, 34, 35, 36, 37, 38, 39, 40, 41, 42, 43, 44, 45, 46, 47, 48, 49] (by decide +kernel) (by decide +kernel)
set_option maxRecDepth 20000 in
theorem gX14_wash_X14_inside : GoodIn wsX14_wash (wsV RX14 294 RX14 yX14_inside wsX14_inside) := goodIn_app (goodIn_of _ (by decide +kernel)) ggX14_wash_X14_inside
set_option maxRecDepth 20000 in
theorem ggX14_wash_X14_bare : GoodIn wsX14_wash wsX14_bare := goodIn_r _ [26, 19, 20, 21, 5, 22, 27, 28, 29, 30, 31, 32, 33, 34, 35, 36, 37, 38, 39, 40, 41, 42, 43, 44, 45, 46, 47, 48, 49] (by decide +kernel) (by decide +kernel)
set_option maxRecDepth 20000 in
theorem gX14_wash_X14_bare : GoodIn wsX14_wash (wsV RX14 329 RX14 yX14_bare wsX14_bare) := goodIn_app (goodIn_of _ (by decide +kernel)) ggX14_wash_X14_bare
theorem dX14_wash_0 : decode cX14_wash 0 = .ok (.aload_n 0, 1) := by decide +kernel
theorem dX14_wash_1 : decode cX14_wash 1 = .ok (.iconst 0, 1) := by decide +kernel
theorem dX14_wash_2 : decode cX14_wash 2 = .ok (.putfield 54, 3) := by decide +kernel
theorem dX14_wash_5 : decode cX14_wash 5 = .ok (.aload_n 0, 1) := by decide +kernel
theorem dX14_wash_6 : decode cX14_wash 6 = .ok (.iload_n 1, 1) := by decide +kernel
theorem dX14_wash_7 : decode cX14_wash 7 = .ok (.invokevirtual 359, 3) := by decide +kernel
theorem dX14_wash_10 : decode cX14_wash 10 = .ok (.ifCond .ne 9, 3) := by decide +kernel
theorem dX14_wash_13 : decode cX14_wash 13 = .ok (.aload_n 0, 1) := by decide +kernel
theorem dX14_wash_14 : decode cX14_wash 14 = .ok (.iconst 1, 1) := by decide +kernel
theorem dX14_wash_15 : decode cX14_wash 15 = .ok (.invokevirtual 266, 3) := by decide +kernel
theorem dX14_wash_18 : decode cX14_wash 18 = .ok (.ireturn, 1) := by decide +kernel
theorem dX14_wash_19 : decode cX14_wash 19 = .ok (.aload_n 0, 1) := by decide +kernel
theorem dX14_wash_20 : decode cX14_wash 20 = .ok (.iload_n 1, 1) := by decide +kernel
theorem dX14_wash_21 : decode cX14_wash 21 = .ok (.invokevirtual 294, 3) := by decide +kernel
theorem dX14_wash_24 : decode cX14_wash 24 = .ok (.istore_n 2, 1) := by decide +kernel
theorem dX14_wash_25 : decode cX14_wash 25 = .ok (.aload_n 0, 1) := by decide +kernel
theorem dX14_wash_26 : decode cX14_wash 26 = .ok (.iload_n 1, 1) := by decide +kernel
theorem dX14_wash_27 : decode cX14_wash 27 = .ok (.invokevirtual 329, 3) := by decide +kernel
theorem dX14_wash_30 : decode cX14_wash 30 = .ok (.iload_n 2, 1) := by decide +kernel
theorem dX14_wash_31 : decode cX14_wash 31 = .ok (.ireturn, 1) := by decide +kernel
set_option maxRecDepth 20000 in
theorem ggX14_rest_X14_isIn : GoodIn wsX14_rest wsX14_isIn := goodIn_r _ [7] (by decide +kernel) (by decide +kernel)
set_option maxRecDepth 20000 in
theorem gX14_rest_X14_isIn : GoodIn wsX14_rest (va_wsS RX14 69 yX14_isIn wsX14_isIn) := goodIn_app (goodIn_of _ (by decide +kernel)) ggX14_rest_X14_isIn
set_option maxRecDepth 20000 in
theorem ggX14_rest_X14_no : GoodIn wsX14_rest wsX14_no := goodIn_r _ [11, 1, 23, 24, 25, 26, 27, 28, 29, 30, 31, 32, 33, 34, 35, 36, 37, 38, 39, 40, 41, 42, 43, 44, 45] (by decide +kernel) (by decide +kernel)
set_option maxRecDepth 20000 in
theorem gX14_rest_X14_no : GoodIn wsX14_rest (wsV RX14 266 RX14 yX14_no wsX14_no) := goodIn_app (goodIn_of _ (by decide +kernel)) ggX14_rest_X14_no
set_option maxRecDepth 20000 in
theorem ggX14_rest_X14_goBy : GoodIn wsX14_rest wsX14_goBy := goodIn_r _ [15, 3, 2, 16, 17, 18, 19, 20, 21, 6, 22, 23, 24, 25, 26, 27, 28, 29, 30, 31, 32, 33, 34, 35, 36, 37, 38, 39, 40, 41, 42, 43, 44, 45, 46, 47, 48, 49, 50, 51, 52, 53, 54, 55, 56, 57, 58, 59, 60, 61, 62, 63, 64, 65, 66] (by decide +kernel) (by decide +kernel)
set_option maxRecDepth 20000 in
theorem gX14_rest_X14_goBy : GoodIn wsX14_rest (wsV RX14 332 RX14 yX14_goBy wsX14_goBy) := goodIn_app (goodIn_of _ (by decide +kernel)) ggX14_rest_X14_goBy
set_option maxRecDepth 20000 in
theorem ggX14_rest_X14_of : GoodIn wsX14_rest wsX14_of := goodIn_r _ [22] (by decide +kernel) (by decide +kernel)
set_option maxRecDepth 20000 in
theorem gX14_rest_X14_of : GoodIn wsX14_rest (va_wsS RX14 66 yX14_of wsX14_of) := goodIn_app (goodIn_of _ (by decide +kernel)) ggX14_rest_X14_of
theorem dX14_rest_0 : decode cX14_rest 0 = .ok (.aload_n 0, 1) := by decide +kernel
theorem dX14_rest_1 : decode cX14_rest 1 = .ok (.iconst 0, 1) := by decide +kernel
theorem dX14_rest_2 : decode cX14_rest 2 = .ok (.putfield 54, 3) := by decide +kernel
theorem dX14_rest_5 : decode cX14_rest 5 = .ok (.iload_n 1, 1) := by decide +kernel
theorem dX14_rest_6 : decode cX14_rest 6 = .ok (.iconst 1, 1) := by decide +kernel
theorem dX14_rest_7 : decode cX14_rest 7 = .ok (.sipush 600, 3) := by decide +kernel
theorem dX14_rest_10 : decode cX14_rest 10 = .ok (.invokestatic 69, 3) := by decide +kernel
theorem dX14_rest_13 : decode cX14_rest 13 = .ok (.ifCond .ne 9, 3) := by decide +kernel
theorem dX14_rest_16 : decode cX14_rest 16 = .ok (.aload_n 0, 1) := by decide +kernel
theorem dX14_rest_17 : decode cX14_rest 17 = .ok (.iconst 1, 1) := by decide +kernel
theorem dX14_rest_18 : decode cX14_rest 18 = .ok (.invokevirtual 266, 3) := by decide +kernel
theorem dX14_rest_21 : decode cX14_rest 21 = .ok (.ireturn, 1) := by decide +kernel
theorem dX14_rest_22 : decode cX14_rest 22 = .ok (.aload_n 0, 1) := by decide +kernel
theorem dX14_rest_23 : decode cX14_rest 23 = .ok (.iload_n 1, 1) := by decide +kernel
theorem dX14_rest_24 : decode cX14_rest 24 = .ok (.iconst (-1), 1) := by decide +kernel
theorem dX14_rest_25 : decode cX14_rest 25 = .ok (.invokevirtual 332, 3) := by decide +kernel
theorem dX14_rest_28 : decode cX14_rest 28 = .ok (.iconst 0, 1) := by decide +kernel
theorem dX14_rest_29 : decode cX14_rest 29 = .ok (.istore_n 2, 1) := by decide +kernel
theorem dX14_rest_30 : decode cX14_rest 30 = .ok (.iconst 0, 1) := by decide +kernel
theorem dX14_rest_31 : decode cX14_rest 31 = .ok (.istore_n 3, 1) := by decide +kernel
theorem dX14_rest_32 : decode cX14_rest 32 = .ok (.iload_n 3, 1) := by decide +kernel
theorem dX14_rest_33 : decode cX14_rest 33 = .ok (.aload_n 0, 1) := by decide +kernel
theorem dX14_rest_34 : decode cX14_rest 34 = .ok (.getfield 38, 3) := by decide +kernel
theorem dX14_rest_37 : decode cX14_rest 37 = .ok (.getfield 150, 3) := by decide +kernel
theorem dX14_rest_40 : decode cX14_rest 40 = .ok (.if_icmp .ge 32, 3) := by decide +kernel
theorem dX14_rest_43 : decode cX14_rest 43 = .ok (.iload_n 2, 1) := by decide +kernel
theorem dX14_rest_44 : decode cX14_rest 44 = .ok (.aload_n 0, 1) := by decide +kernel
theorem dX14_rest_45 : decode cX14_rest 45 = .ok (.getfield 45, 3) := by decide +kernel
theorem dX14_rest_48 : decode cX14_rest 48 = .ok (.iload_n 3, 1) := by decide +kernel
theorem dX14_rest_49 : decode cX14_rest 49 = .ok (.iconst 2, 1) := by decide +kernel
theorem dX14_rest_50 : decode cX14_rest 50 = .ok (.invokestatic 66, 3) := by decide +kernel
theorem dX14_rest_53 : decode cX14_rest 53 = .ok (.iaload, 1) := by decide +kernel
theorem dX14_rest_54 : decode cX14_rest 54 = .ok (.bipush 20, 2) := by decide +kernel
theorem dX14_rest_56 : decode cX14_rest 56 = .ok (.if_icmp .le 7, 3) := by decide +kernel
theorem dX14_rest_59 : decode cX14_rest 59 = .ok (.iconst 1, 1) := by decide +kernel
theorem dX14_rest_60 : decode cX14_rest 60 = .ok (.goto 4, 3) := by decide +kernel
theorem dX14_rest_63 : decode cX14_rest 63 = .ok (.iconst 0, 1) := by decide +kernel
theorem dX14_rest_64 : decode cX14_rest 64 = .ok (.iadd, 1) := by decide +kernel
theorem dX14_rest_65 : decode cX14_rest 65 = .ok (.istore_n 2, 1) := by decide +kernel
theorem dX14_rest_66 : decode cX14_rest 66 = .ok (.iinc 3 1, 3) := by decide +kernel
theorem dX14_rest_69 : decode cX14_rest 69 = .ok (.goto (-37), 3) := by decide +kernel
theorem dX14_rest_72 : decode cX14_rest 72 = .ok (.iload_n 2, 1) := by decide +kernel
theorem dX14_rest_73 : decode cX14_rest 73 = .ok (.ireturn, 1) := by decide +kernel
set_option maxRecDepth 20000 in
theorem ggX14_cook_X14_isRecipe : GoodIn wsX14_cook wsX14_isRecipe := goodIn_r _ [7, 8, 9, 10, 6, 11, 111, 112, 113, 114, 115, 116, 117, 118, 119, 120, 121, 122, 123, 124, 125, 126, 127, 128, 129, 130, 131, 132, 133, 134, 135, 136, 137, 138, 139, 140, 141, 142, 143, 144, 145, 146, 147, 148, 149, 150, 151, 152, 153, 154] (by decide +kernel) (by decide +kernel)
set_option maxRecDepth 20000 in
theorem gX14_cook_X14_isRecipe : GoodIn wsX14_cook (wsV RX14 377 RX14 yX14_isRecipe wsX14_isRecipe) := goodIn_app (goodIn_of _ (by decide +kernel)) ggX14_cook_X14_isRecipe
set_option maxRecDepth 20000 in
theorem ggX14_cook_X14_no : GoodIn wsX14_cook wsX14_no := goodIn_r _ [15, 1, 111, 112, 113, 114, 115, 116, 117, 118, 119, 120, 121, 122, 123, 124, 125, 126, 127, 128, 129, 130, 131, 132, 133] (by decide +kernel) (by decide +kernel)
set_option maxRecDepth 20000 in
theorem gX14_cook_X14_no : GoodIn wsX14_cook (wsV RX14 266 RX14 yX14_no wsX14_no) := goodIn_app (goodIn_of _ (by decide +kernel)) ggX14_cook_X14_no
set_option maxRecDepth 20000 in
theorem ggX14_cook_X14_run : GoodIn wsX14_cook wsX14_run := goodIn_r _ [19, 20, 21, 8, 22, 23, 24, 6, 25, 26, 27, 28, 29, 2, 30, 31, 32, 33, 34, 35, 36, 37, 38, 39, 40, 41, 42, 43, 44, 45, 46, 47, 48, 49, 50, 51, 52, 53, 54, 55, 56, 57, 58, 59, 60, 61, 62, 63, 64, 65, 66, 67, 68, 69, 70, 71, 72, 73, 74, 75, 76, 77, 78, 79, 80, 81, 82, 83, 84, 85, 86, 87, 88, 89, 90, 91, 92, 93, 94, 95, 96, 97, 98, 99, 100, 101, 102, 103, 104, 105, 106, 107, 108, 109, 110, 111, 112, 113, 114, 115, 116, 117, 118, 119, 120, 121, 122, 123, 124, 125, 126, 127, 128, 129, 130, 131, 132, 133, 134, 135, 136, 137, 138, 139, 140, 141, 142, 143, 144, 145, 146, 147, 148, 149, 150, 151, 152, 153, 154] (by decide +kernel) (by decide +kernel)
set_option maxRecDepth 20000 in
theorem gX14_cook_X14_run : GoodIn wsX14_cook (wsV RX14 380 RX14 yX14_run wsX14_run) := goodIn_app (goodIn_of _ (by decide +kernel)) ggX14_cook_X14_run
theorem dX14_cook_0 : decode cX14_cook 0 = .ok (.aload_n 0, 1) := by decide +kernel
theorem dX14_cook_1 : decode cX14_cook 1 = .ok (.iconst 0, 1) := by decide +kernel
theorem dX14_cook_2 : decode cX14_cook 2 = .ok (.putfield 54, 3) := by decide +kernel
theorem dX14_cook_5 : decode cX14_cook 5 = .ok (.aload_n 0, 1) := by decide +kernel
theorem dX14_cook_6 : decode cX14_cook 6 = .ok (.iload_n 1, 1) := by decide +kernel
theorem dX14_cook_7 : decode cX14_cook 7 = .ok (.invokevirtual 377, 3) := by decide +kernel
theorem dX14_cook_10 : decode cX14_cook 10 = .ok (.ifCond .ne 9, 3) := by decide +kernel
theorem dX14_cook_13 : decode cX14_cook 13 = .ok (.aload_n 0, 1) := by decide +kernel
theorem dX14_cook_14 : decode cX14_cook 14 = .ok (.iconst 1, 1) := by decide +kernel
theorem dX14_cook_15 : decode cX14_cook 15 = .ok (.invokevirtual 266, 3) := by decide +kernel
theorem dX14_cook_18 : decode cX14_cook 18 = .ok (.ireturn, 1) := by decide +kernel
theorem dX14_cook_19 : decode cX14_cook 19 = .ok (.aload_n 0, 1) := by decide +kernel
theorem dX14_cook_20 : decode cX14_cook 20 = .ok (.getfield 45, 3) := by decide +kernel
theorem dX14_cook_23 : decode cX14_cook 23 = .ok (.iconst 3, 1) := by decide +kernel
theorem dX14_cook_24 : decode cX14_cook 24 = .ok (.iaload, 1) := by decide +kernel
theorem dX14_cook_25 : decode cX14_cook 25 = .ok (.istore_n 2, 1) := by decide +kernel
theorem dX14_cook_26 : decode cX14_cook 26 = .ok (.aload_n 0, 1) := by decide +kernel
theorem dX14_cook_27 : decode cX14_cook 27 = .ok (.iload_n 1, 1) := by decide +kernel
theorem dX14_cook_28 : decode cX14_cook 28 = .ok (.invokevirtual 380, 3) := by decide +kernel
theorem dX14_cook_31 : decode cX14_cook 31 = .ok (.aload_n 0, 1) := by decide +kernel
theorem dX14_cook_32 : decode cX14_cook 32 = .ok (.getfield 45, 3) := by decide +kernel
theorem dX14_cook_35 : decode cX14_cook 35 = .ok (.iconst 3, 1) := by decide +kernel
theorem dX14_cook_36 : decode cX14_cook 36 = .ok (.iaload, 1) := by decide +kernel
theorem dX14_cook_37 : decode cX14_cook 37 = .ok (.iload_n 2, 1) := by decide +kernel
theorem dX14_cook_38 : decode cX14_cook 38 = .ok (.isub, 1) := by decide +kernel
theorem dX14_cook_39 : decode cX14_cook 39 = .ok (.ireturn, 1) := by decide +kernel
set_option maxRecDepth 20000 in
theorem ggX14_more_X14_isRecipe : GoodIn wsX14_more wsX14_isRecipe := goodIn_r _ [7, 8, 9, 10, 6, 11, 124, 125, 126, 127, 128, 129, 130, 131, 132, 133, 134, 135, 136, 137, 138, 139, 140, 141, 142, 143, 144, 145, 146, 147, 148, 149, 150, 151, 152, 153, 154, 155, 156, 157, 158, 159, 160, 161, 162, 163, 164, 165, 166, 167] (by decide +kernel) (by decide +kernel)
set_option maxRecDepth 20000 in
theorem gX14_more_X14_isRecipe : GoodIn wsX14_more (wsV RX14 377 RX14 yX14_isRecipe wsX14_isRecipe) := goodIn_app (goodIn_of _ (by decide +kernel)) ggX14_more_X14_isRecipe
set_option maxRecDepth 20000 in
theorem ggX14_more_X14_no : GoodIn wsX14_more wsX14_no := goodIn_r _ [15, 1, 124, 125, 126, 127, 128, 129, 130, 131, 132, 133, 134, 135, 136, 137, 138, 139, 140, 141, 142, 143, 144, 145, 146] (by decide +kernel) (by decide +kernel)
set_option maxRecDepth 20000 in
theorem gX14_more_X14_no : GoodIn wsX14_more (wsV RX14 266 RX14 yX14_no wsX14_no) := goodIn_app (goodIn_of _ (by decide +kernel)) ggX14_more_X14_no
set_option maxRecDepth 20000 in
theorem ggX14_more_X14_keep : GoodIn wsX14_more wsX14_keep := goodIn_r _ [19, 2, 20, 21, 22, 23, 24, 124, 125, 126, 127, 128, 129, 130, 131, 132, 133, 134, 135, 136, 137, 138, 139, 140, 141, 142, 143, 144, 145, 146] (by decide +kernel) (by decide +kernel)
set_option maxRecDepth 20000 in
theorem gX14_more_X14_keep : GoodIn wsX14_more (wsV RX14 383 RX14 yX14_keep wsX14_keep) := goodIn_app (goodIn_of _ (by decide +kernel)) ggX14_more_X14_keep
set_option maxRecDepth 20000 in
theorem ggX14_more_X14_run : GoodIn wsX14_more wsX14_run := goodIn_r _ [28, 29, 30, 8, 31, 32, 33, 6, 34, 35, 36, 37, 38, 2, 39, 40, 41, 42, 43, 44, 45, 46, 47, 48, 49, 50, 51, 52, 53, 54, 55, 56, 57, 58, 59, 60, 61, 62, 63, 64, 65, 66, 67, 68, 69, 70, 71, 72, 73, 74, 75, 76, 77, 78, 79, 80, 81, 82, 83, 84, 85, 86, 87, 88, 89, 90, 91, 92, 93, 94, 95, 96, 97, 98, 99, 100, 101, 102, 103, 104, 105, 106, 107, 108, 109, 110, 111, 112, 113, 114, 115, 116, 117, 118, 119, 124, 125, 126, 127, 128, 129, 130, 131, 132, 133, 134, 135, 136, 137, 138, 139, 140, 141, 142, 143, 144, 145, 146, 147, 148, 149, 150, 151, 152, 153, 154, 155, 156, 157, 158, 159, 160, 161, 162, 163, 164, 165, 166, 167] (by decide +kernel) (by decide +kernel)
set_option maxRecDepth 20000 in
theorem gX14_more_X14_run : GoodIn wsX14_more (wsV RX14 380 RX14 yX14_run wsX14_run) := goodIn_app (goodIn_of _ (by decide +kernel)) ggX14_more_X14_run
set_option maxRecDepth 20000 in
theorem ggX14_more_X14_bringBack : GoodIn wsX14_more wsX14_bringBack := goodIn_r _ [123, 20, 2, 21, 22, 23, 24, 124, 125, 126, 127, 128, 129, 130, 131, 132, 133, 134, 135, 136, 137, 138, 139, 140, 141, 142, 143, 144, 145, 146] (by decide +kernel) (by decide +kernel)
set_option maxRecDepth 20000 in
theorem gX14_more_X14_bringBack : GoodIn wsX14_more (wsV RX14 386 RX14 yX14_bringBack wsX14_bringBack) := goodIn_app (goodIn_of _ (by decide +kernel)) ggX14_more_X14_bringBack
theorem dX14_more_0 : decode cX14_more 0 = .ok (.aload_n 0, 1) := by decide +kernel
theorem dX14_more_1 : decode cX14_more 1 = .ok (.iconst 0, 1) := by decide +kernel
theorem dX14_more_2 : decode cX14_more 2 = .ok (.putfield 54, 3) := by decide +kernel
theorem dX14_more_5 : decode cX14_more 5 = .ok (.aload_n 0, 1) := by decide +kernel
theorem dX14_more_6 : decode cX14_more 6 = .ok (.iload_n 1, 1) := by decide +kernel
theorem dX14_more_7 : decode cX14_more 7 = .ok (.invokevirtual 377, 3) := by decide +kernel
theorem dX14_more_10 : decode cX14_more 10 = .ok (.ifCond .ne 9, 3) := by decide +kernel
theorem dX14_more_13 : decode cX14_more 13 = .ok (.aload_n 0, 1) := by decide +kernel
theorem dX14_more_14 : decode cX14_more 14 = .ok (.iconst 1, 1) := by decide +kernel
theorem dX14_more_15 : decode cX14_more 15 = .ok (.invokevirtual 266, 3) := by decide +kernel
theorem dX14_more_18 : decode cX14_more 18 = .ok (.ireturn, 1) := by decide +kernel
theorem dX14_more_19 : decode cX14_more 19 = .ok (.aload_n 0, 1) := by decide +kernel
theorem dX14_more_20 : decode cX14_more 20 = .ok (.invokevirtual 383, 3) := by decide +kernel
theorem dX14_more_23 : decode cX14_more 23 = .ok (.aload_n 0, 1) := by decide +kernel
theorem dX14_more_24 : decode cX14_more 24 = .ok (.iload_n 1, 1) := by decide +kernel
theorem dX14_more_25 : decode cX14_more 25 = .ok (.invokevirtual 380, 3) := by decide +kernel
theorem dX14_more_28 : decode cX14_more 28 = .ok (.aload_n 0, 1) := by decide +kernel
theorem dX14_more_29 : decode cX14_more 29 = .ok (.getfield 45, 3) := by decide +kernel
theorem dX14_more_32 : decode cX14_more 32 = .ok (.iload_n 2, 1) := by decide +kernel
theorem dX14_more_33 : decode cX14_more 33 = .ok (.iaload, 1) := by decide +kernel
theorem dX14_more_34 : decode cX14_more 34 = .ok (.istore_n 3, 1) := by decide +kernel
theorem dX14_more_35 : decode cX14_more 35 = .ok (.aload_n 0, 1) := by decide +kernel
theorem dX14_more_36 : decode cX14_more 36 = .ok (.invokevirtual 386, 3) := by decide +kernel
theorem dX14_more_39 : decode cX14_more 39 = .ok (.iload_n 3, 1) := by decide +kernel
theorem dX14_more_40 : decode cX14_more 40 = .ok (.aload_n 0, 1) := by decide +kernel
theorem dX14_more_41 : decode cX14_more 41 = .ok (.getfield 45, 3) := by decide +kernel
theorem dX14_more_44 : decode cX14_more 44 = .ok (.iload_n 2, 1) := by decide +kernel
theorem dX14_more_45 : decode cX14_more 45 = .ok (.iaload, 1) := by decide +kernel
theorem dX14_more_46 : decode cX14_more 46 = .ok (.isub, 1) := by decide +kernel
theorem dX14_more_47 : decode cX14_more 47 = .ok (.ireturn, 1) := by decide +kernel
set_option maxRecDepth 20000 in
theorem ggX14_minutesOfRecipe_X14_more : GoodIn wsX14_minutesOfRecipe wsX14_more := goodIn_r _ [5, 6, 7, 8, 9, 10, 4, 11, 12, 13, 14, 15, 16, 17, 18, 19, 20, 21, 22, 23, 24, 25, 26, 27, 28, 29, 30, 31, 32, 33, 34, 35, 36, 37, 38, 39, 40, 41, 42, 43, 44, 45, 46, 47, 48, 49, 50, 51, 52, 53, 54, 55, 56, 57, 58, 59, 60, 61, 62, 63, 64, 65, 66, 67, 68, 69, 70, 71, 72, 73, 74, 75, 76, 77, 78, 79, 80, 81, 82, 83, 84, 85, 86, 87, 88, 89, 90, 91, 92, 93, 94, 95, 96, 97, 98, 99, 100, 101, 102, 103, 104, 105, 106, 107, 108, 109, 110, 111, 112, 113, 114, 115, 116, 117, 118, 119, 120, 121, 122, 123, 124, 125, 126, 127, 128, 129, 130, 131, 132, 133, 134, 135, 136, 137, 138, 139, 140, 141, 142, 143, 144, 145, 146, 147, 148, 149, 150, 151, 152, 153, 154, 155, 156, 157, 158, 159, 160, 161, 162, 163, 164, 165, 166, 167, 168, 169, 170, 171] (by decide +kernel) (by decide +kernel)
set_option maxRecDepth 20000 in
theorem gX14_minutesOfRecipe_X14_more : GoodIn wsX14_minutesOfRecipe (wsV RX14 389 RX14 yX14_more wsX14_more) := goodIn_app (goodIn_of _ (by decide +kernel)) ggX14_minutesOfRecipe_X14_more
theorem dX14_minutesOfRecipe_0 : decode cX14_minutesOfRecipe 0 = .ok (.aload_n 0, 1) := by decide +kernel
theorem dX14_minutesOfRecipe_1 : decode cX14_minutesOfRecipe 1 = .ok (.iload_n 1, 1) := by decide +kernel
theorem dX14_minutesOfRecipe_2 : decode cX14_minutesOfRecipe 2 = .ok (.iconst 3, 1) := by decide +kernel
theorem dX14_minutesOfRecipe_3 : decode cX14_minutesOfRecipe 3 = .ok (.invokevirtual 389, 3) := by decide +kernel
theorem dX14_minutesOfRecipe_6 : decode cX14_minutesOfRecipe 6 = .ok (.ireturn, 1) := by decide +kernel
set_option maxRecDepth 20000 in
theorem ggX14_warningsOfRecipe_X14_more : GoodIn wsX14_warningsOfRecipe wsX14_more := goodIn_r _ [5, 6, 7, 8, 9, 10, 4, 11, 12, 13, 14, 15, 16, 17, 18, 19, 20, 21, 22, 23, 24, 25, 26, 27, 28, 29, 30, 31, 32, 33, 34, 35, 36, 37, 38, 39, 40, 41, 42, 43, 44, 45, 46, 47, 48, 49, 50, 51, 52, 53, 54, 55, 56, 57, 58, 59, 60, 61, 62, 63, 64, 65, 66, 67, 68, 69, 70, 71, 72, 73, 74, 75, 76, 77, 78, 79, 80, 81, 82, 83, 84, 85, 86, 87, 88, 89, 90, 91, 92, 93, 94, 95, 96, 97, 98, 99, 100, 101, 102, 103, 104, 105, 106, 107, 108, 109, 110, 111, 112, 113, 114, 115, 116, 117, 118, 119, 120, 121, 122, 123, 124, 125, 126, 127, 128, 129, 130, 131, 132, 133, 134, 135, 136, 137, 138, 139, 140, 141, 142, 143, 144, 145, 146, 147, 148, 149, 150, 151, 152, 153, 154, 155, 156, 157, 158, 159, 160, 161, 162, 163, 164, 165, 166, 167, 168, 169, 170, 171] (by decide +kernel) (by decide +kernel)
set_option maxRecDepth 20000 in
theorem gX14_warningsOfRecipe_X14_more : GoodIn wsX14_warningsOfRecipe (wsV RX14 389 RX14 yX14_more wsX14_more) := goodIn_app (goodIn_of _ (by decide +kernel)) ggX14_warningsOfRecipe_X14_more
theorem dX14_warningsOfRecipe_0 : decode cX14_warningsOfRecipe 0 = .ok (.aload_n 0, 1) := by decide +kernel
theorem dX14_warningsOfRecipe_1 : decode cX14_warningsOfRecipe 1 = .ok (.iload_n 1, 1) := by decide +kernel
theorem dX14_warningsOfRecipe_2 : decode cX14_warningsOfRecipe 2 = .ok (.iconst 4, 1) := by decide +kernel
theorem dX14_warningsOfRecipe_3 : decode cX14_warningsOfRecipe 3 = .ok (.invokevirtual 389, 3) := by decide +kernel
theorem dX14_warningsOfRecipe_6 : decode cX14_warningsOfRecipe 6 = .ok (.ireturn, 1) := by decide +kernel
set_option maxRecDepth 20000 in
theorem ggX14_firstWarning_X14_more : GoodIn wsX14_firstWarning wsX14_more := goodIn_r _ [7, 1, 8, 9, 10, 11, 6, 12, 13, 14, 15, 16, 17, 18, 19, 20, 21, 22, 23, 24, 25, 26, 27, 28, 29, 30, 31, 32, 33, 34, 2, 35, 36, 37, 38, 39, 40, 41, 42, 43, 44, 45, 46, 47, 48, 49, 50, 51, 52, 53, 54, 55, 56, 57, 58, 59, 60, 61, 62, 63, 64, 65, 66, 67, 68, 69, 70, 71, 72, 73, 74, 75, 76, 77, 78, 79, 80, 81, 82, 83, 84, 85, 86, 87, 88, 89, 90, 91, 92, 93, 94, 95, 96, 97, 98, 99, 100, 101, 102, 103, 104, 105, 106, 107, 108, 109, 110, 111, 112, 113, 114, 115, 116, 117, 118, 119, 120, 121, 122, 123, 124, 125, 126, 127, 128, 129, 130, 131, 132, 133, 134, 135, 136, 137, 138, 139, 140, 141, 142, 143, 144, 145, 146, 147, 148, 149, 150, 151, 152, 153, 154, 155, 156, 157, 158, 159, 160, 161, 162, 163, 164, 165, 166, 167, 168, 169, 170, 171] (by decide +kernel) (by decide +kernel)
set_option maxRecDepth 20000 in
theorem gX14_firstWarning_X14_more : GoodIn wsX14_firstWarning (wsV RX14 389 RX14 yX14_more wsX14_more) := goodIn_app (goodIn_of _ (by decide +kernel)) ggX14_firstWarning_X14_more
theorem dX14_firstWarning_0 : decode cX14_firstWarning 0 = .ok (.aload_n 0, 1) := by decide +kernel
theorem dX14_firstWarning_1 : decode cX14_firstWarning 1 = .ok (.iload_n 1, 1) := by decide +kernel
theorem dX14_firstWarning_2 : decode cX14_firstWarning 2 = .ok (.iconst 4, 1) := by decide +kernel
theorem dX14_firstWarning_3 : decode cX14_firstWarning 3 = .ok (.invokevirtual 389, 3) := by decide +kernel
theorem dX14_firstWarning_6 : decode cX14_firstWarning 6 = .ok (.pop, 1) := by decide +kernel
theorem dX14_firstWarning_7 : decode cX14_firstWarning 7 = .ok (.aload_n 0, 1) := by decide +kernel
theorem dX14_firstWarning_8 : decode cX14_firstWarning 8 = .ok (.getfield 54, 3) := by decide +kernel
theorem dX14_firstWarning_11 : decode cX14_firstWarning 11 = .ok (.ifCond .ne 10, 3) := by decide +kernel
theorem dX14_firstWarning_14 : decode cX14_firstWarning 14 = .ok (.aload_n 0, 1) := by decide +kernel
theorem dX14_firstWarning_15 : decode cX14_firstWarning 15 = .ok (.getfield 303, 3) := by decide +kernel
theorem dX14_firstWarning_18 : decode cX14_firstWarning 18 = .ok (.goto 4, 3) := by decide +kernel
theorem dX14_firstWarning_21 : decode cX14_firstWarning 21 = .ok (.iconst 0, 1) := by decide +kernel
theorem dX14_firstWarning_22 : decode cX14_firstWarning 22 = .ok (.ireturn, 1) := by decide +kernel
set_option maxRecDepth 20000 in
theorem ggX14_doneBehind_X14_isRecipe : GoodIn wsX14_doneBehind wsX14_isRecipe := goodIn_r _ [7, 8, 9, 10, 6, 11, 132, 133, 134, 135, 136, 137, 138, 139, 140, 141, 142, 143, 144, 145, 146, 147, 148, 149, 150, 151, 152, 153, 154, 155, 156, 157, 158, 159, 160, 161, 162, 163, 164, 165, 166, 167, 168, 169, 170, 171, 172, 173, 174, 175] (by decide +kernel) (by decide +kernel)
set_option maxRecDepth 20000 in
theorem gX14_doneBehind_X14_isRecipe : GoodIn wsX14_doneBehind (wsV RX14 377 RX14 yX14_isRecipe wsX14_isRecipe) := goodIn_app (goodIn_of _ (by decide +kernel)) ggX14_doneBehind_X14_isRecipe
set_option maxRecDepth 20000 in
theorem ggX14_doneBehind_X14_isPan : GoodIn wsX14_doneBehind wsX14_isPan := goodIn_r _ [15, 8, 9, 10, 6, 11, 132, 133, 134, 135, 136, 137, 138, 139, 140, 141, 142, 143, 144, 145, 146, 147, 148, 149, 150, 151, 152, 153, 154, 155, 156, 157, 158, 159, 160, 161, 162, 163, 164, 165, 166, 167, 168, 169, 170, 171, 172, 173, 174, 175] (by decide +kernel) (by decide +kernel)
set_option maxRecDepth 20000 in
theorem gX14_doneBehind_X14_isPan : GoodIn wsX14_doneBehind (wsV RX14 359 RX14 yX14_isPan wsX14_isPan) := goodIn_app (goodIn_of _ (by decide +kernel)) ggX14_doneBehind_X14_isPan
set_option maxRecDepth 20000 in
theorem ggX14_doneBehind_X14_no : GoodIn wsX14_doneBehind wsX14_no := goodIn_r _ [19, 1, 132, 133, 134, 135, 136, 137, 138, 139, 140, 141, 142, 143, 144, 145, 146, 147, 148, 149, 150, 151, 152, 153, 154] (by decide +kernel) (by decide +kernel)
set_option maxRecDepth 20000 in
theorem gX14_doneBehind_X14_no : GoodIn wsX14_doneBehind (wsV RX14 266 RX14 yX14_no wsX14_no) := goodIn_app (goodIn_of _ (by decide +kernel)) ggX14_doneBehind_X14_no
set_option maxRecDepth 20000 in
theorem ggX14_doneBehind_X14_of : GoodIn wsX14_doneBehind wsX14_of := goodIn_r _ [22] (by decide +kernel) (by decide +kernel)
set_option maxRecDepth 20000 in
theorem gX14_doneBehind_X14_of : GoodIn wsX14_doneBehind (va_wsS RX14 66 yX14_of wsX14_of) := goodIn_app (goodIn_of _ (by decide +kernel)) ggX14_doneBehind_X14_of
set_option maxRecDepth 20000 in
theorem ggX14_doneBehind_X14_more : GoodIn wsX14_doneBehind wsX14_more := goodIn_r _ [26, 1, 2, 3, 4, 5, 6, 7, 8, 9, 10, 11, 16, 17, 18, 19, 27, 28, 29, 30, 31, 32, 33, 34, 35, 36, 37, 38, 39, 40, 41, 42, 43, 44, 45, 46, 47, 48, 49, 50, 51, 52, 53, 54, 55, 56, 57, 58, 59, 60, 20, 21, 22, 61, 62, 63, 64, 65, 66, 67, 68, 69, 70, 71, 72, 73, 74, 75, 76, 77, 78, 79, 80, 81, 82, 83, 84, 85, 86, 87, 88, 89, 90, 91, 92, 93, 94, 95, 96, 97, 98, 99, 100, 101, 102, 103, 104, 105, 106, 107, 108, 109, 110, 111, 112, 113, 114, 115, 116, 117, 118, 119, 120, 121, 122, 123, 124, 125, 126, 127, 128, 129, 130, 131, 132, 133, 134, 135, 136, 137, 138, 139, 140, 141, 142, 143, 144, 145, 146, 147, 148, 149, 150, 151, 152, 153, 154, 155, 156, 157, 158, 159, 160, 161, 162, 163, 164, 165, 166, 167, 168, 169, 170, 171, 172, 173, 174, 175] (by decide +kernel) (by decide +kernel)
set_option maxRecDepth 20000 in
theorem gX14_doneBehind_X14_more : GoodIn wsX14_doneBehind (wsV RX14 389 RX14 yX14_more wsX14_more) := goodIn_app (goodIn_of _ (by decide +kernel)) ggX14_doneBehind_X14_more
theorem dX14_doneBehind_0 : decode cX14_doneBehind 0 = .ok (.aload_n 0, 1) := by decide +kernel
theorem dX14_doneBehind_1 : decode cX14_doneBehind 1 = .ok (.iconst 0, 1) := by decide +kernel
theorem dX14_doneBehind_2 : decode cX14_doneBehind 2 = .ok (.putfield 54, 3) := by decide +kernel
theorem dX14_doneBehind_5 : decode cX14_doneBehind 5 = .ok (.aload_n 0, 1) := by decide +kernel
theorem dX14_doneBehind_6 : decode cX14_doneBehind 6 = .ok (.iload_n 1, 1) := by decide +kernel
theorem dX14_doneBehind_7 : decode cX14_doneBehind 7 = .ok (.invokevirtual 377, 3) := by decide +kernel
theorem dX14_doneBehind_10 : decode cX14_doneBehind 10 = .ok (.ifCond .eq 11, 3) := by decide +kernel
theorem dX14_doneBehind_13 : decode cX14_doneBehind 13 = .ok (.aload_n 0, 1) := by decide +kernel
theorem dX14_doneBehind_14 : decode cX14_doneBehind 14 = .ok (.iload_n 2, 1) := by decide +kernel
theorem dX14_doneBehind_15 : decode cX14_doneBehind 15 = .ok (.invokevirtual 359, 3) := by decide +kernel
theorem dX14_doneBehind_18 : decode cX14_doneBehind 18 = .ok (.ifCond .ne 9, 3) := by decide +kernel
theorem dX14_doneBehind_21 : decode cX14_doneBehind 21 = .ok (.aload_n 0, 1) := by decide +kernel
theorem dX14_doneBehind_22 : decode cX14_doneBehind 22 = .ok (.iconst 1, 1) := by decide +kernel
theorem dX14_doneBehind_23 : decode cX14_doneBehind 23 = .ok (.invokevirtual 266, 3) := by decide +kernel
theorem dX14_doneBehind_26 : decode cX14_doneBehind 26 = .ok (.ireturn, 1) := by decide +kernel
theorem dX14_doneBehind_27 : decode cX14_doneBehind 27 = .ok (.aload_n 0, 1) := by decide +kernel
theorem dX14_doneBehind_28 : decode cX14_doneBehind 28 = .ok (.iload_n 1, 1) := by decide +kernel
theorem dX14_doneBehind_29 : decode cX14_doneBehind 29 = .ok (.iload_n 2, 1) := by decide +kernel
theorem dX14_doneBehind_30 : decode cX14_doneBehind 30 = .ok (.iconst 3, 1) := by decide +kernel
theorem dX14_doneBehind_31 : decode cX14_doneBehind 31 = .ok (.invokestatic 66, 3) := by decide +kernel
theorem dX14_doneBehind_34 : decode cX14_doneBehind 34 = .ok (.invokevirtual 389, 3) := by decide +kernel
theorem dX14_doneBehind_37 : decode cX14_doneBehind 37 = .ok (.aload_n 0, 1) := by decide +kernel
theorem dX14_doneBehind_38 : decode cX14_doneBehind 38 = .ok (.getfield 45, 3) := by decide +kernel
theorem dX14_doneBehind_41 : decode cX14_doneBehind 41 = .ok (.iload_n 2, 1) := by decide +kernel
theorem dX14_doneBehind_42 : decode cX14_doneBehind 42 = .ok (.iconst 3, 1) := by decide +kernel
theorem dX14_doneBehind_43 : decode cX14_doneBehind 43 = .ok (.invokestatic 66, 3) := by decide +kernel
theorem dX14_doneBehind_46 : decode cX14_doneBehind 46 = .ok (.iaload, 1) := by decide +kernel
theorem dX14_doneBehind_47 : decode cX14_doneBehind 47 = .ok (.iadd, 1) := by decide +kernel
theorem dX14_doneBehind_48 : decode cX14_doneBehind 48 = .ok (.ireturn, 1) := by decide +kernel
set_option maxRecDepth 20000 in
theorem ggX14_highestSafe_X14_isRecipe : GoodIn wsX14_highestSafe wsX14_isRecipe := goodIn_r _ [8, 9, 10, 11, 7, 12, 128, 129, 130, 131, 132, 133, 134, 135, 136, 137, 138, 139, 140, 141, 142, 143, 144, 145, 146, 147, 148, 149, 150, 151, 152, 153, 154, 155, 156, 157, 158, 159, 160, 161, 162, 163, 164, 165, 166, 167, 168, 169, 170, 171] (by decide +kernel) (by decide +kernel)
set_option maxRecDepth 20000 in
theorem gX14_highestSafe_X14_isRecipe : GoodIn wsX14_highestSafe (wsV RX14 377 RX14 yX14_isRecipe wsX14_isRecipe) := goodIn_app (goodIn_of _ (by decide +kernel)) ggX14_highestSafe_X14_isRecipe
set_option maxRecDepth 20000 in
theorem ggX14_highestSafe_X14_no : GoodIn wsX14_highestSafe wsX14_no := goodIn_r _ [16, 1, 128, 129, 130, 131, 132, 133, 134, 135, 136, 137, 138, 139, 140, 141, 142, 143, 144, 145, 146, 147, 148, 149, 150] (by decide +kernel) (by decide +kernel)
set_option maxRecDepth 20000 in
theorem gX14_highestSafe_X14_no : GoodIn wsX14_highestSafe (wsV RX14 266 RX14 yX14_no wsX14_no) := goodIn_app (goodIn_of _ (by decide +kernel)) ggX14_highestSafe_X14_no
set_option maxRecDepth 20000 in
theorem ggX14_highestSafe_X14_keep : GoodIn wsX14_highestSafe wsX14_keep := goodIn_r _ [20, 2, 3, 21, 22, 23, 24, 128, 129, 130, 131, 132, 133, 134, 135, 136, 137, 138, 139, 140, 141, 142, 143, 144, 145, 146, 147, 148, 149, 150] (by decide +kernel) (by decide +kernel)
set_option maxRecDepth 20000 in
theorem gX14_highestSafe_X14_keep : GoodIn wsX14_highestSafe (wsV RX14 383 RX14 yX14_keep wsX14_keep) := goodIn_app (goodIn_of _ (by decide +kernel)) ggX14_highestSafe_X14_keep
set_option maxRecDepth 20000 in
theorem ggX14_highestSafe_X14_climb : GoodIn wsX14_highestSafe wsX14_climb := goodIn_r _ [28, 2, 9, 29, 30, 31, 32, 33, 34, 7, 35, 36, 37, 38, 39, 40, 41, 42, 128, 129, 130, 131, 132, 133, 134, 135, 136, 137, 138, 139, 140, 141, 142, 143, 144, 145, 146, 147, 148, 149, 150, 151, 152, 153, 154, 155, 156, 157, 158, 159, 160, 161, 162, 163, 164, 165, 166, 167, 168, 169, 170, 171] (by decide +kernel) (by decide +kernel)
set_option maxRecDepth 20000 in
theorem gX14_highestSafe_X14_climb : GoodIn wsX14_highestSafe (wsV RX14 371 RX14 yX14_climb wsX14_climb) := goodIn_app (goodIn_of _ (by decide +kernel)) ggX14_highestSafe_X14_climb
set_option maxRecDepth 20000 in
theorem ggX14_highestSafe_X14_run : GoodIn wsX14_highestSafe wsX14_run := goodIn_r _ [46, 47, 48, 9, 49, 50, 51, 7, 52, 53, 54, 55, 56, 2, 57, 58, 59, 60, 36, 37, 38, 39, 40, 41, 42, 33, 34, 35, 61, 62, 63, 64, 65, 66, 67, 68, 69, 70, 71, 72, 73, 74, 75, 76, 77, 78, 79, 80, 81, 82, 29, 30, 31, 32, 83, 84, 85, 86, 87, 88, 89, 90, 91, 92, 93, 94, 95, 96, 97, 98, 99, 100, 101, 102, 103, 104, 105, 106, 107, 108, 109, 110, 111, 112, 113, 114, 115, 116, 117, 118, 119, 120, 121, 122, 123, 128, 129, 130, 131, 132, 133, 134, 135, 136, 137, 138, 139, 140, 141, 142, 143, 144, 145, 146, 147, 148, 149, 150, 151, 152, 153, 154, 155, 156, 157, 158, 159, 160, 161, 162, 163, 164, 165, 166, 167, 168, 169, 170, 171] (by decide +kernel) (by decide +kernel)
set_option maxRecDepth 20000 in
theorem gX14_highestSafe_X14_run : GoodIn wsX14_highestSafe (wsV RX14 380 RX14 yX14_run wsX14_run) := goodIn_app (goodIn_of _ (by decide +kernel)) ggX14_highestSafe_X14_run
set_option maxRecDepth 20000 in
theorem ggX14_highestSafe_X14_bringBack : GoodIn wsX14_highestSafe wsX14_bringBack := goodIn_r _ [127, 3, 2, 21, 22, 23, 24, 128, 129, 130, 131, 132, 133, 134, 135, 136, 137, 138, 139, 140, 141, 142, 143, 144, 145, 146, 147, 148, 149, 150] (by decide +kernel) (by decide +kernel)
set_option maxRecDepth 20000 in
theorem gX14_highestSafe_X14_bringBack : GoodIn wsX14_highestSafe (wsV RX14 386 RX14 yX14_bringBack wsX14_bringBack) := goodIn_app (goodIn_of _ (by decide +kernel)) ggX14_highestSafe_X14_bringBack
theorem dX14_highestSafe_0 : decode cX14_highestSafe 0 = .ok (.aload_n 0, 1) := by decide +kernel
theorem dX14_highestSafe_1 : decode cX14_highestSafe 1 = .ok (.iconst 0, 1) := by decide +kernel
theorem dX14_highestSafe_2 : decode cX14_highestSafe 2 = .ok (.putfield 54, 3) := by decide +kernel
theorem dX14_highestSafe_5 : decode cX14_highestSafe 5 = .ok (.aload_n 0, 1) := by decide +kernel
theorem dX14_highestSafe_6 : decode cX14_highestSafe 6 = .ok (.iload_n 1, 1) := by decide +kernel
theorem dX14_highestSafe_7 : decode cX14_highestSafe 7 = .ok (.invokevirtual 377, 3) := by decide +kernel
theorem dX14_highestSafe_10 : decode cX14_highestSafe 10 = .ok (.ifCond .ne 9, 3) := by decide +kernel
theorem dX14_highestSafe_13 : decode cX14_highestSafe 13 = .ok (.aload_n 0, 1) := by decide +kernel
theorem dX14_highestSafe_14 : decode cX14_highestSafe 14 = .ok (.iconst 1, 1) := by decide +kernel
theorem dX14_highestSafe_15 : decode cX14_highestSafe 15 = .ok (.invokevirtual 266, 3) := by decide +kernel
theorem dX14_highestSafe_18 : decode cX14_highestSafe 18 = .ok (.ireturn, 1) := by decide +kernel
theorem dX14_highestSafe_19 : decode cX14_highestSafe 19 = .ok (.aload_n 0, 1) := by decide +kernel
theorem dX14_highestSafe_20 : decode cX14_highestSafe 20 = .ok (.invokevirtual 383, 3) := by decide +kernel
theorem dX14_highestSafe_23 : decode cX14_highestSafe 23 = .ok (.iconst (-1), 1) := by decide +kernel
theorem dX14_highestSafe_24 : decode cX14_highestSafe 24 = .ok (.istore_n 2, 1) := by decide +kernel
theorem dX14_highestSafe_25 : decode cX14_highestSafe 25 = .ok (.bipush 60, 2) := by decide +kernel
theorem dX14_highestSafe_27 : decode cX14_highestSafe 27 = .ok (.istore_n 3, 1) := by decide +kernel
theorem dX14_highestSafe_28 : decode cX14_highestSafe 28 = .ok (.iload_n 3, 1) := by decide +kernel
theorem dX14_highestSafe_29 : decode cX14_highestSafe 29 = .ok (.ifCond .lt 45, 3) := by decide +kernel
theorem dX14_highestSafe_32 : decode cX14_highestSafe 32 = .ok (.iload_n 2, 1) := by decide +kernel
theorem dX14_highestSafe_33 : decode cX14_highestSafe 33 = .ok (.iconst (-1), 1) := by decide +kernel
theorem dX14_highestSafe_34 : decode cX14_highestSafe 34 = .ok (.if_icmp .ne 40, 3) := by decide +kernel
theorem dX14_highestSafe_37 : decode cX14_highestSafe 37 = .ok (.aload_n 0, 1) := by decide +kernel
theorem dX14_highestSafe_38 : decode cX14_highestSafe 38 = .ok (.iload_n 3, 1) := by decide +kernel
theorem dX14_highestSafe_39 : decode cX14_highestSafe 39 = .ok (.invokevirtual 371, 3) := by decide +kernel
theorem dX14_highestSafe_42 : decode cX14_highestSafe 42 = .ok (.aload_n 0, 1) := by decide +kernel
theorem dX14_highestSafe_43 : decode cX14_highestSafe 43 = .ok (.iload_n 1, 1) := by decide +kernel
theorem dX14_highestSafe_44 : decode cX14_highestSafe 44 = .ok (.invokevirtual 380, 3) := by decide +kernel
theorem dX14_highestSafe_47 : decode cX14_highestSafe 47 = .ok (.aload_n 0, 1) := by decide +kernel
theorem dX14_highestSafe_48 : decode cX14_highestSafe 48 = .ok (.getfield 45, 3) := by decide +kernel
theorem dX14_highestSafe_51 : decode cX14_highestSafe 51 = .ok (.iconst 4, 1) := by decide +kernel
theorem dX14_highestSafe_52 : decode cX14_highestSafe 52 = .ok (.iaload, 1) := by decide +kernel
theorem dX14_highestSafe_53 : decode cX14_highestSafe 53 = .ok (.aload_n 0, 1) := by decide +kernel
theorem dX14_highestSafe_54 : decode cX14_highestSafe 54 = .ok (.getfield 48, 3) := by decide +kernel
theorem dX14_highestSafe_57 : decode cX14_highestSafe 57 = .ok (.iconst 4, 1) := by decide +kernel
theorem dX14_highestSafe_58 : decode cX14_highestSafe 58 = .ok (.iaload, 1) := by decide +kernel
theorem dX14_highestSafe_59 : decode cX14_highestSafe 59 = .ok (.if_icmp .ne 5, 3) := by decide +kernel
theorem dX14_highestSafe_62 : decode cX14_highestSafe 62 = .ok (.iload_n 3, 1) := by decide +kernel
theorem dX14_highestSafe_63 : decode cX14_highestSafe 63 = .ok (.istore_n 2, 1) := by decide +kernel
theorem dX14_highestSafe_64 : decode cX14_highestSafe 64 = .ok (.aload_n 0, 1) := by decide +kernel
theorem dX14_highestSafe_65 : decode cX14_highestSafe 65 = .ok (.invokevirtual 386, 3) := by decide +kernel
theorem dX14_highestSafe_68 : decode cX14_highestSafe 68 = .ok (.iinc 3 (-1), 3) := by decide +kernel
theorem dX14_highestSafe_71 : decode cX14_highestSafe 71 = .ok (.goto (-43), 3) := by decide +kernel
theorem dX14_highestSafe_74 : decode cX14_highestSafe 74 = .ok (.iload_n 2, 1) := by decide +kernel
theorem dX14_highestSafe_75 : decode cX14_highestSafe 75 = .ok (.ireturn, 1) := by decide +kernel
set_option maxRecDepth 20000 in
theorem ggX14_mostServings_X14_isRecipe : GoodIn wsX14_mostServings wsX14_isRecipe := goodIn_r _ [8, 9, 10, 11, 7, 12, 124, 125, 126, 127, 128, 129, 130, 131, 132, 133, 134, 135, 136, 137, 138, 139, 140, 141, 142, 143, 144, 145, 146, 147, 148, 149, 150, 151, 152, 153, 154, 155, 156, 157, 158, 159, 160, 161, 162, 163, 164, 165, 166, 167] (by decide +kernel) (by decide +kernel)
set_option maxRecDepth 20000 in
theorem gX14_mostServings_X14_isRecipe : GoodIn wsX14_mostServings (wsV RX14 377 RX14 yX14_isRecipe wsX14_isRecipe) := goodIn_app (goodIn_of _ (by decide +kernel)) ggX14_mostServings_X14_isRecipe
set_option maxRecDepth 20000 in
theorem ggX14_mostServings_X14_no : GoodIn wsX14_mostServings wsX14_no := goodIn_r _ [16, 1, 124, 125, 126, 127, 128, 129, 130, 131, 132, 133, 134, 135, 136, 137, 138, 139, 140, 141, 142, 143, 144, 145, 146] (by decide +kernel) (by decide +kernel)
set_option maxRecDepth 20000 in
theorem gX14_mostServings_X14_no : GoodIn wsX14_mostServings (wsV RX14 266 RX14 yX14_no wsX14_no) := goodIn_app (goodIn_of _ (by decide +kernel)) ggX14_mostServings_X14_no
set_option maxRecDepth 20000 in
theorem ggX14_mostServings_X14_keep : GoodIn wsX14_mostServings wsX14_keep := goodIn_r _ [20, 2, 3, 21, 22, 23, 24, 124, 125, 126, 127, 128, 129, 130, 131, 132, 133, 134, 135, 136, 137, 138, 139, 140, 141, 142, 143, 144, 145, 146] (by decide +kernel) (by decide +kernel)
set_option maxRecDepth 20000 in
theorem gX14_mostServings_X14_keep : GoodIn wsX14_mostServings (wsV RX14 383 RX14 yX14_keep wsX14_keep) := goodIn_app (goodIn_of _ (by decide +kernel)) ggX14_mostServings_X14_keep
set_option maxRecDepth 20000 in
theorem ggX14_mostServings_X14_run : GoodIn wsX14_mostServings wsX14_run := goodIn_r _ [28, 29, 30, 9, 31, 32, 33, 7, 34, 35, 36, 37, 38, 2, 39, 40, 41, 42, 43, 44, 45, 46, 47, 48, 49, 50, 51, 52, 53, 54, 55, 56, 57, 58, 59, 60, 61, 62, 63, 64, 65, 66, 67, 68, 69, 70, 71, 72, 73, 74, 75, 76, 77, 78, 79, 80, 81, 82, 83, 84, 85, 86, 87, 88, 89, 90, 91, 92, 93, 94, 95, 96, 97, 98, 99, 100, 101, 102, 103, 104, 105, 106, 107, 108, 109, 110, 111, 112, 113, 114, 115, 116, 117, 118, 119, 124, 125, 126, 127, 128, 129, 130, 131, 132, 133, 134, 135, 136, 137, 138, 139, 140, 141, 142, 143, 144, 145, 146, 147, 148, 149, 150, 151, 152, 153, 154, 155, 156, 157, 158, 159, 160, 161, 162, 163, 164, 165, 166, 167] (by decide +kernel) (by decide +kernel)
set_option maxRecDepth 20000 in
theorem gX14_mostServings_X14_run : GoodIn wsX14_mostServings (wsV RX14 380 RX14 yX14_run wsX14_run) := goodIn_app (goodIn_of _ (by decide +kernel)) ggX14_mostServings_X14_run
set_option maxRecDepth 20000 in
theorem ggX14_mostServings_X14_bringBack : GoodIn wsX14_mostServings wsX14_bringBack := goodIn_r _ [123, 3, 2, 21, 22, 23, 24, 124, 125, 126, 127, 128, 129, 130, 131, 132, 133, 134, 135, 136, 137, 138, 139, 140, 141, 142, 143, 144, 145, 146] (by decide +kernel) (by decide +kernel)
set_option maxRecDepth 20000 in
theorem gX14_mostServings_X14_bringBack : GoodIn wsX14_mostServings (wsV RX14 386 RX14 yX14_bringBack wsX14_bringBack) := goodIn_app (goodIn_of _ (by decide +kernel)) ggX14_mostServings_X14_bringBack
theorem dX14_mostServings_0 : decode cX14_mostServings 0 = .ok (.aload_n 0, 1) := by decide +kernel
theorem dX14_mostServings_1 : decode cX14_mostServings 1 = .ok (.iconst 0, 1) := by decide +kernel
theorem dX14_mostServings_2 : decode cX14_mostServings 2 = .ok (.putfield 54, 3) := by decide +kernel
theorem dX14_mostServings_5 : decode cX14_mostServings 5 = .ok (.aload_n 0, 1) := by decide +kernel
theorem dX14_mostServings_6 : decode cX14_mostServings 6 = .ok (.iload_n 1, 1) := by decide +kernel
theorem dX14_mostServings_7 : decode cX14_mostServings 7 = .ok (.invokevirtual 377, 3) := by decide +kernel
theorem dX14_mostServings_10 : decode cX14_mostServings 10 = .ok (.ifCond .ne 9, 3) := by decide +kernel
theorem dX14_mostServings_13 : decode cX14_mostServings 13 = .ok (.aload_n 0, 1) := by decide +kernel
theorem dX14_mostServings_14 : decode cX14_mostServings 14 = .ok (.iconst 1, 1) := by decide +kernel
theorem dX14_mostServings_15 : decode cX14_mostServings 15 = .ok (.invokevirtual 266, 3) := by decide +kernel
theorem dX14_mostServings_18 : decode cX14_mostServings 18 = .ok (.ireturn, 1) := by decide +kernel
theorem dX14_mostServings_19 : decode cX14_mostServings 19 = .ok (.aload_n 0, 1) := by decide +kernel
theorem dX14_mostServings_20 : decode cX14_mostServings 20 = .ok (.invokevirtual 383, 3) := by decide +kernel
theorem dX14_mostServings_23 : decode cX14_mostServings 23 = .ok (.iconst (-1), 1) := by decide +kernel
theorem dX14_mostServings_24 : decode cX14_mostServings 24 = .ok (.istore_n 2, 1) := by decide +kernel
theorem dX14_mostServings_25 : decode cX14_mostServings 25 = .ok (.bipush 12, 2) := by decide +kernel
theorem dX14_mostServings_27 : decode cX14_mostServings 27 = .ok (.istore_n 3, 1) := by decide +kernel
theorem dX14_mostServings_28 : decode cX14_mostServings 28 = .ok (.iload_n 3, 1) := by decide +kernel
theorem dX14_mostServings_29 : decode cX14_mostServings 29 = .ok (.ifCond .le 49, 3) := by decide +kernel
theorem dX14_mostServings_32 : decode cX14_mostServings 32 = .ok (.iload_n 2, 1) := by decide +kernel
theorem dX14_mostServings_33 : decode cX14_mostServings 33 = .ok (.iconst (-1), 1) := by decide +kernel
theorem dX14_mostServings_34 : decode cX14_mostServings 34 = .ok (.if_icmp .ne 44, 3) := by decide +kernel
theorem dX14_mostServings_37 : decode cX14_mostServings 37 = .ok (.aload_n 0, 1) := by decide +kernel
theorem dX14_mostServings_38 : decode cX14_mostServings 38 = .ok (.getfield 45, 3) := by decide +kernel
theorem dX14_mostServings_41 : decode cX14_mostServings 41 = .ok (.iconst 1, 1) := by decide +kernel
theorem dX14_mostServings_42 : decode cX14_mostServings 42 = .ok (.iload_n 3, 1) := by decide +kernel
theorem dX14_mostServings_43 : decode cX14_mostServings 43 = .ok (.iastore, 1) := by decide +kernel
theorem dX14_mostServings_44 : decode cX14_mostServings 44 = .ok (.aload_n 0, 1) := by decide +kernel
theorem dX14_mostServings_45 : decode cX14_mostServings 45 = .ok (.iload_n 1, 1) := by decide +kernel
theorem dX14_mostServings_46 : decode cX14_mostServings 46 = .ok (.invokevirtual 380, 3) := by decide +kernel
theorem dX14_mostServings_49 : decode cX14_mostServings 49 = .ok (.aload_n 0, 1) := by decide +kernel
theorem dX14_mostServings_50 : decode cX14_mostServings 50 = .ok (.getfield 45, 3) := by decide +kernel
theorem dX14_mostServings_53 : decode cX14_mostServings 53 = .ok (.bipush 7, 2) := by decide +kernel
theorem dX14_mostServings_55 : decode cX14_mostServings 55 = .ok (.iaload, 1) := by decide +kernel
theorem dX14_mostServings_56 : decode cX14_mostServings 56 = .ok (.aload_n 0, 1) := by decide +kernel
theorem dX14_mostServings_57 : decode cX14_mostServings 57 = .ok (.getfield 48, 3) := by decide +kernel
theorem dX14_mostServings_60 : decode cX14_mostServings 60 = .ok (.bipush 7, 2) := by decide +kernel
theorem dX14_mostServings_62 : decode cX14_mostServings 62 = .ok (.iaload, 1) := by decide +kernel
theorem dX14_mostServings_63 : decode cX14_mostServings 63 = .ok (.if_icmp .ne 5, 3) := by decide +kernel
theorem dX14_mostServings_66 : decode cX14_mostServings 66 = .ok (.iload_n 3, 1) := by decide +kernel
theorem dX14_mostServings_67 : decode cX14_mostServings 67 = .ok (.istore_n 2, 1) := by decide +kernel
theorem dX14_mostServings_68 : decode cX14_mostServings 68 = .ok (.aload_n 0, 1) := by decide +kernel
theorem dX14_mostServings_69 : decode cX14_mostServings 69 = .ok (.invokevirtual 386, 3) := by decide +kernel
theorem dX14_mostServings_72 : decode cX14_mostServings 72 = .ok (.iinc 3 (-1), 3) := by decide +kernel
theorem dX14_mostServings_75 : decode cX14_mostServings 75 = .ok (.goto (-47), 3) := by decide +kernel
theorem dX14_mostServings_78 : decode cX14_mostServings 78 = .ok (.iload_n 2, 1) := by decide +kernel
theorem dX14_mostServings_79 : decode cX14_mostServings 79 = .ok (.ireturn, 1) := by decide +kernel
set_option maxRecDepth 20000 in
theorem ggX14_meanHeat_X14_of : GoodIn wsX14_meanHeat wsX14_of := goodIn_r _ [7] (by decide +kernel) (by decide +kernel)
set_option maxRecDepth 20000 in
theorem gX14_meanHeat_X14_of : GoodIn wsX14_meanHeat (va_wsS RX14 66 yX14_of wsX14_of) := goodIn_app (goodIn_of _ (by decide +kernel)) ggX14_meanHeat_X14_of
theorem dX14_meanHeat_0 : decode cX14_meanHeat 0 = .ok (.aload_n 0, 1) := by decide +kernel
theorem dX14_meanHeat_1 : decode cX14_meanHeat 1 = .ok (.iconst 0, 1) := by decide +kernel
theorem dX14_meanHeat_2 : decode cX14_meanHeat 2 = .ok (.putfield 54, 3) := by decide +kernel
theorem dX14_meanHeat_5 : decode cX14_meanHeat 5 = .ok (.iconst 0, 1) := by decide +kernel
theorem dX14_meanHeat_6 : decode cX14_meanHeat 6 = .ok (.istore_n 1, 1) := by decide +kernel
theorem dX14_meanHeat_7 : decode cX14_meanHeat 7 = .ok (.iconst 0, 1) := by decide +kernel
theorem dX14_meanHeat_8 : decode cX14_meanHeat 8 = .ok (.istore_n 2, 1) := by decide +kernel
theorem dX14_meanHeat_9 : decode cX14_meanHeat 9 = .ok (.iload_n 2, 1) := by decide +kernel
theorem dX14_meanHeat_10 : decode cX14_meanHeat 10 = .ok (.aload_n 0, 1) := by decide +kernel
theorem dX14_meanHeat_11 : decode cX14_meanHeat 11 = .ok (.getfield 38, 3) := by decide +kernel
theorem dX14_meanHeat_14 : decode cX14_meanHeat 14 = .ok (.getfield 150, 3) := by decide +kernel
theorem dX14_meanHeat_17 : decode cX14_meanHeat 17 = .ok (.if_icmp .ge 22, 3) := by decide +kernel
theorem dX14_meanHeat_20 : decode cX14_meanHeat 20 = .ok (.iload_n 1, 1) := by decide +kernel
theorem dX14_meanHeat_21 : decode cX14_meanHeat 21 = .ok (.aload_n 0, 1) := by decide +kernel
theorem dX14_meanHeat_22 : decode cX14_meanHeat 22 = .ok (.getfield 45, 3) := by decide +kernel
theorem dX14_meanHeat_25 : decode cX14_meanHeat 25 = .ok (.iload_n 2, 1) := by decide +kernel
theorem dX14_meanHeat_26 : decode cX14_meanHeat 26 = .ok (.iconst 2, 1) := by decide +kernel
theorem dX14_meanHeat_27 : decode cX14_meanHeat 27 = .ok (.invokestatic 66, 3) := by decide +kernel
theorem dX14_meanHeat_30 : decode cX14_meanHeat 30 = .ok (.iaload, 1) := by decide +kernel
theorem dX14_meanHeat_31 : decode cX14_meanHeat 31 = .ok (.iadd, 1) := by decide +kernel
theorem dX14_meanHeat_32 : decode cX14_meanHeat 32 = .ok (.istore_n 1, 1) := by decide +kernel
theorem dX14_meanHeat_33 : decode cX14_meanHeat 33 = .ok (.iinc 2 1, 3) := by decide +kernel
theorem dX14_meanHeat_36 : decode cX14_meanHeat 36 = .ok (.goto (-27), 3) := by decide +kernel
theorem dX14_meanHeat_39 : decode cX14_meanHeat 39 = .ok (.aload_n 0, 1) := by decide +kernel
theorem dX14_meanHeat_40 : decode cX14_meanHeat 40 = .ok (.getfield 38, 3) := by decide +kernel
theorem dX14_meanHeat_43 : decode cX14_meanHeat 43 = .ok (.getfield 150, 3) := by decide +kernel
theorem dX14_meanHeat_46 : decode cX14_meanHeat 46 = .ok (.ifCond .ne 7, 3) := by decide +kernel
theorem dX14_meanHeat_49 : decode cX14_meanHeat 49 = .ok (.dconst 0, 1) := by decide +kernel
theorem dX14_meanHeat_50 : decode cX14_meanHeat 50 = .ok (.goto 14, 3) := by decide +kernel
theorem dX14_meanHeat_53 : decode cX14_meanHeat 53 = .ok (.iload_n 1, 1) := by decide +kernel
theorem dX14_meanHeat_54 : decode cX14_meanHeat 54 = .ok (.i2d, 1) := by decide +kernel
theorem dX14_meanHeat_55 : decode cX14_meanHeat 55 = .ok (.aload_n 0, 1) := by decide +kernel
theorem dX14_meanHeat_56 : decode cX14_meanHeat 56 = .ok (.getfield 38, 3) := by decide +kernel
theorem dX14_meanHeat_59 : decode cX14_meanHeat 59 = .ok (.getfield 150, 3) := by decide +kernel
theorem dX14_meanHeat_62 : decode cX14_meanHeat 62 = .ok (.i2d, 1) := by decide +kernel
theorem dX14_meanHeat_63 : decode cX14_meanHeat 63 = .ok (.ddiv, 1) := by decide +kernel
theorem dX14_meanHeat_64 : decode cX14_meanHeat 64 = .ok (.dreturn, 1) := by decide +kernel
set_option maxRecDepth 20000 in
theorem ggX14_digest_X14_of : GoodIn wsX14_digest wsX14_of := goodIn_r _ [14] (by decide +kernel) (by decide +kernel)
set_option maxRecDepth 20000 in
theorem gX14_digest_X14_of : GoodIn wsX14_digest (va_wsS RX14 66 yX14_of wsX14_of) := goodIn_app (goodIn_of _ (by decide +kernel)) ggX14_digest_X14_of
set_option maxRecDepth 20000 in
theorem ggX14_digest_X14_latest : GoodIn wsX14_digest wsX14_latest := goodIn_r _ [18, 10, 6, 7, 8, 9, 3, 19, 20, 13, 21, 22, 23, 24, 25, 26, 27, 28, 29, 30, 31, 32, 33, 34, 35, 36, 37, 38, 39, 40, 41, 42, 43, 44, 45, 46, 47, 48] (by decide +kernel) (by decide +kernel)
set_option maxRecDepth 20000 in
theorem gX14_digest_X14_latest : GoodIn wsX14_digest (wsV RX14 368 RX14 yX14_latest wsX14_latest) := goodIn_app (goodIn_of _ (by decide +kernel)) ggX14_digest_X14_latest
theorem dX14_digest_0 : decode cX14_digest 0 = .ok (.bipush 14, 2) := by decide +kernel
theorem dX14_digest_2 : decode cX14_digest 2 = .ok (.newarray .int, 2) := by decide +kernel
theorem dX14_digest_4 : decode cX14_digest 4 = .ok (.dup, 1) := by decide +kernel
theorem dX14_digest_5 : decode cX14_digest 5 = .ok (.iconst 0, 1) := by decide +kernel
theorem dX14_digest_6 : decode cX14_digest 6 = .ok (.aload_n 0, 1) := by decide +kernel
theorem dX14_digest_7 : decode cX14_digest 7 = .ok (.getfield 38, 3) := by decide +kernel
theorem dX14_digest_10 : decode cX14_digest 10 = .ok (.getfield 150, 3) := by decide +kernel
theorem dX14_digest_13 : decode cX14_digest 13 = .ok (.iastore, 1) := by decide +kernel
theorem dX14_digest_14 : decode cX14_digest 14 = .ok (.dup, 1) := by decide +kernel
theorem dX14_digest_15 : decode cX14_digest 15 = .ok (.iconst 1, 1) := by decide +kernel
theorem dX14_digest_16 : decode cX14_digest 16 = .ok (.aload_n 0, 1) := by decide +kernel
theorem dX14_digest_17 : decode cX14_digest 17 = .ok (.getfield 38, 3) := by decide +kernel
theorem dX14_digest_20 : decode cX14_digest 20 = .ok (.getfield 156, 3) := by decide +kernel
theorem dX14_digest_23 : decode cX14_digest 23 = .ok (.iastore, 1) := by decide +kernel
theorem dX14_digest_24 : decode cX14_digest 24 = .ok (.dup, 1) := by decide +kernel
theorem dX14_digest_25 : decode cX14_digest 25 = .ok (.iconst 2, 1) := by decide +kernel
theorem dX14_digest_26 : decode cX14_digest 26 = .ok (.aload_n 0, 1) := by decide +kernel
theorem dX14_digest_27 : decode cX14_digest 27 = .ok (.getfield 38, 3) := by decide +kernel
theorem dX14_digest_30 : decode cX14_digest 30 = .ok (.getfield 215, 3) := by decide +kernel
theorem dX14_digest_33 : decode cX14_digest 33 = .ok (.iastore, 1) := by decide +kernel
theorem dX14_digest_34 : decode cX14_digest 34 = .ok (.dup, 1) := by decide +kernel
theorem dX14_digest_35 : decode cX14_digest 35 = .ok (.iconst 3, 1) := by decide +kernel
theorem dX14_digest_36 : decode cX14_digest 36 = .ok (.aload_n 0, 1) := by decide +kernel
theorem dX14_digest_37 : decode cX14_digest 37 = .ok (.getfield 45, 3) := by decide +kernel
theorem dX14_digest_40 : decode cX14_digest 40 = .ok (.iconst 0, 1) := by decide +kernel
theorem dX14_digest_41 : decode cX14_digest 41 = .ok (.iaload, 1) := by decide +kernel
theorem dX14_digest_42 : decode cX14_digest 42 = .ok (.iastore, 1) := by decide +kernel
theorem dX14_digest_43 : decode cX14_digest 43 = .ok (.dup, 1) := by decide +kernel
theorem dX14_digest_44 : decode cX14_digest 44 = .ok (.iconst 4, 1) := by decide +kernel
theorem dX14_digest_45 : decode cX14_digest 45 = .ok (.aload_n 0, 1) := by decide +kernel
theorem dX14_digest_46 : decode cX14_digest 46 = .ok (.getfield 45, 3) := by decide +kernel
theorem dX14_digest_49 : decode cX14_digest 49 = .ok (.iconst 1, 1) := by decide +kernel
theorem dX14_digest_50 : decode cX14_digest 50 = .ok (.iaload, 1) := by decide +kernel
theorem dX14_digest_51 : decode cX14_digest 51 = .ok (.iastore, 1) := by decide +kernel
theorem dX14_digest_52 : decode cX14_digest 52 = .ok (.dup, 1) := by decide +kernel
theorem dX14_digest_53 : decode cX14_digest 53 = .ok (.iconst 5, 1) := by decide +kernel
theorem dX14_digest_54 : decode cX14_digest 54 = .ok (.aload_n 0, 1) := by decide +kernel
theorem dX14_digest_55 : decode cX14_digest 55 = .ok (.getfield 45, 3) := by decide +kernel
theorem dX14_digest_58 : decode cX14_digest 58 = .ok (.iconst 2, 1) := by decide +kernel
theorem dX14_digest_59 : decode cX14_digest 59 = .ok (.iaload, 1) := by decide +kernel
theorem dX14_digest_60 : decode cX14_digest 60 = .ok (.iastore, 1) := by decide +kernel
theorem dX14_digest_61 : decode cX14_digest 61 = .ok (.dup, 1) := by decide +kernel
theorem dX14_digest_62 : decode cX14_digest 62 = .ok (.bipush 6, 2) := by decide +kernel
theorem dX14_digest_64 : decode cX14_digest 64 = .ok (.aload_n 0, 1) := by decide +kernel
theorem dX14_digest_65 : decode cX14_digest 65 = .ok (.getfield 45, 3) := by decide +kernel
theorem dX14_digest_68 : decode cX14_digest 68 = .ok (.iconst 3, 1) := by decide +kernel
theorem dX14_digest_69 : decode cX14_digest 69 = .ok (.iaload, 1) := by decide +kernel
theorem dX14_digest_70 : decode cX14_digest 70 = .ok (.iastore, 1) := by decide +kernel
theorem dX14_digest_71 : decode cX14_digest 71 = .ok (.dup, 1) := by decide +kernel
theorem dX14_digest_72 : decode cX14_digest 72 = .ok (.bipush 7, 2) := by decide +kernel
theorem dX14_digest_74 : decode cX14_digest 74 = .ok (.aload_n 0, 1) := by decide +kernel
theorem dX14_digest_75 : decode cX14_digest 75 = .ok (.getfield 45, 3) := by decide +kernel
theorem dX14_digest_78 : decode cX14_digest 78 = .ok (.iconst 4, 1) := by decide +kernel
theorem dX14_digest_79 : decode cX14_digest 79 = .ok (.iaload, 1) := by decide +kernel
theorem dX14_digest_80 : decode cX14_digest 80 = .ok (.iastore, 1) := by decide +kernel
theorem dX14_digest_81 : decode cX14_digest 81 = .ok (.dup, 1) := by decide +kernel
theorem dX14_digest_82 : decode cX14_digest 82 = .ok (.bipush 8, 2) := by decide +kernel
theorem dX14_digest_84 : decode cX14_digest 84 = .ok (.aload_n 0, 1) := by decide +kernel
theorem dX14_digest_85 : decode cX14_digest 85 = .ok (.getfield 45, 3) := by decide +kernel
theorem dX14_digest_88 : decode cX14_digest 88 = .ok (.iconst 5, 1) := by decide +kernel
theorem dX14_digest_89 : decode cX14_digest 89 = .ok (.iaload, 1) := by decide +kernel
theorem dX14_digest_90 : decode cX14_digest 90 = .ok (.iastore, 1) := by decide +kernel
theorem dX14_digest_91 : decode cX14_digest 91 = .ok (.dup, 1) := by decide +kernel
theorem dX14_digest_92 : decode cX14_digest 92 = .ok (.bipush 9, 2) := by decide +kernel
theorem dX14_digest_94 : decode cX14_digest 94 = .ok (.aload_n 0, 1) := by decide +kernel
theorem dX14_digest_95 : decode cX14_digest 95 = .ok (.getfield 45, 3) := by decide +kernel
theorem dX14_digest_98 : decode cX14_digest 98 = .ok (.bipush 7, 2) := by decide +kernel
theorem dX14_digest_100 : decode cX14_digest 100 = .ok (.iaload, 1) := by decide +kernel
theorem dX14_digest_101 : decode cX14_digest 101 = .ok (.iastore, 1) := by decide +kernel
theorem dX14_digest_102 : decode cX14_digest 102 = .ok (.dup, 1) := by decide +kernel
theorem dX14_digest_103 : decode cX14_digest 103 = .ok (.bipush 10, 2) := by decide +kernel
theorem dX14_digest_105 : decode cX14_digest 105 = .ok (.aload_n 0, 1) := by decide +kernel
theorem dX14_digest_106 : decode cX14_digest 106 = .ok (.getfield 45, 3) := by decide +kernel
theorem dX14_digest_109 : decode cX14_digest 109 = .ok (.bipush 8, 2) := by decide +kernel
theorem dX14_digest_111 : decode cX14_digest 111 = .ok (.iaload, 1) := by decide +kernel
theorem dX14_digest_112 : decode cX14_digest 112 = .ok (.iastore, 1) := by decide +kernel
theorem dX14_digest_113 : decode cX14_digest 113 = .ok (.dup, 1) := by decide +kernel
theorem dX14_digest_114 : decode cX14_digest 114 = .ok (.bipush 11, 2) := by decide +kernel
theorem dX14_digest_116 : decode cX14_digest 116 = .ok (.aload_n 0, 1) := by decide +kernel
theorem dX14_digest_117 : decode cX14_digest 117 = .ok (.getfield 45, 3) := by decide +kernel
theorem dX14_digest_120 : decode cX14_digest 120 = .ok (.bipush 9, 2) := by decide +kernel
theorem dX14_digest_122 : decode cX14_digest 122 = .ok (.iaload, 1) := by decide +kernel
theorem dX14_digest_123 : decode cX14_digest 123 = .ok (.iastore, 1) := by decide +kernel
theorem dX14_digest_124 : decode cX14_digest 124 = .ok (.dup, 1) := by decide +kernel
theorem dX14_digest_125 : decode cX14_digest 125 = .ok (.bipush 12, 2) := by decide +kernel
theorem dX14_digest_127 : decode cX14_digest 127 = .ok (.aload_n 0, 1) := by decide +kernel
theorem dX14_digest_128 : decode cX14_digest 128 = .ok (.getfield 45, 3) := by decide +kernel
theorem dX14_digest_131 : decode cX14_digest 131 = .ok (.bipush 10, 2) := by decide +kernel
theorem dX14_digest_133 : decode cX14_digest 133 = .ok (.iaload, 1) := by decide +kernel
theorem dX14_digest_134 : decode cX14_digest 134 = .ok (.iastore, 1) := by decide +kernel
theorem dX14_digest_135 : decode cX14_digest 135 = .ok (.dup, 1) := by decide +kernel
theorem dX14_digest_136 : decode cX14_digest 136 = .ok (.bipush 13, 2) := by decide +kernel
theorem dX14_digest_138 : decode cX14_digest 138 = .ok (.aload_n 0, 1) := by decide +kernel
theorem dX14_digest_139 : decode cX14_digest 139 = .ok (.getfield 45, 3) := by decide +kernel
theorem dX14_digest_142 : decode cX14_digest 142 = .ok (.bipush 11, 2) := by decide +kernel
theorem dX14_digest_144 : decode cX14_digest 144 = .ok (.iaload, 1) := by decide +kernel
theorem dX14_digest_145 : decode cX14_digest 145 = .ok (.iastore, 1) := by decide +kernel
theorem dX14_digest_146 : decode cX14_digest 146 = .ok (.astore_n 1, 1) := by decide +kernel
theorem dX14_digest_147 : decode cX14_digest 147 = .ok (.ldc2_w 392, 3) := by decide +kernel
theorem dX14_digest_150 : decode cX14_digest 150 = .ok (.lstore_n 2, 1) := by decide +kernel
theorem dX14_digest_151 : decode cX14_digest 151 = .ok (.aload_n 1, 1) := by decide +kernel
theorem dX14_digest_152 : decode cX14_digest 152 = .ok (.astore 4, 2) := by decide +kernel
theorem dX14_digest_154 : decode cX14_digest 154 = .ok (.aload 4, 2) := by decide +kernel
theorem dX14_digest_156 : decode cX14_digest 156 = .ok (.arraylength, 1) := by decide +kernel
theorem dX14_digest_157 : decode cX14_digest 157 = .ok (.istore 5, 2) := by decide +kernel
theorem dX14_digest_159 : decode cX14_digest 159 = .ok (.iconst 0, 1) := by decide +kernel
theorem dX14_digest_160 : decode cX14_digest 160 = .ok (.istore 6, 2) := by decide +kernel
theorem dX14_digest_162 : decode cX14_digest 162 = .ok (.iload 6, 2) := by decide +kernel
theorem dX14_digest_164 : decode cX14_digest 164 = .ok (.iload 5, 2) := by decide +kernel
theorem dX14_digest_166 : decode cX14_digest 166 = .ok (.if_icmp .ge 26, 3) := by decide +kernel
theorem dX14_digest_169 : decode cX14_digest 169 = .ok (.aload 4, 2) := by decide +kernel
theorem dX14_digest_171 : decode cX14_digest 171 = .ok (.iload 6, 2) := by decide +kernel
theorem dX14_digest_173 : decode cX14_digest 173 = .ok (.iaload, 1) := by decide +kernel
theorem dX14_digest_174 : decode cX14_digest 174 = .ok (.istore 7, 2) := by decide +kernel
theorem dX14_digest_176 : decode cX14_digest 176 = .ok (.lload_n 2, 1) := by decide +kernel
theorem dX14_digest_177 : decode cX14_digest 177 = .ok (.ldc2_w 394, 3) := by decide +kernel
theorem dX14_digest_180 : decode cX14_digest 180 = .ok (.lmul, 1) := by decide +kernel
theorem dX14_digest_181 : decode cX14_digest 181 = .ok (.iload 7, 2) := by decide +kernel
theorem dX14_digest_183 : decode cX14_digest 183 = .ok (.i2l, 1) := by decide +kernel
theorem dX14_digest_184 : decode cX14_digest 184 = .ok (.ladd, 1) := by decide +kernel
theorem dX14_digest_185 : decode cX14_digest 185 = .ok (.lstore_n 2, 1) := by decide +kernel
theorem dX14_digest_186 : decode cX14_digest 186 = .ok (.iinc 6 1, 3) := by decide +kernel
theorem dX14_digest_189 : decode cX14_digest 189 = .ok (.goto (-27), 3) := by decide +kernel
theorem dX14_digest_192 : decode cX14_digest 192 = .ok (.iconst 0, 1) := by decide +kernel
theorem dX14_digest_193 : decode cX14_digest 193 = .ok (.istore 4, 2) := by decide +kernel
theorem dX14_digest_195 : decode cX14_digest 195 = .ok (.iload 4, 2) := by decide +kernel
theorem dX14_digest_197 : decode cX14_digest 197 = .ok (.aload_n 0, 1) := by decide +kernel
theorem dX14_digest_198 : decode cX14_digest 198 = .ok (.getfield 38, 3) := by decide +kernel
theorem dX14_digest_201 : decode cX14_digest 201 = .ok (.getfield 150, 3) := by decide +kernel
theorem dX14_digest_204 : decode cX14_digest 204 = .ok (.if_icmp .ge 62, 3) := by decide +kernel
theorem dX14_digest_207 : decode cX14_digest 207 = .ok (.lload_n 2, 1) := by decide +kernel
theorem dX14_digest_208 : decode cX14_digest 208 = .ok (.ldc2_w 394, 3) := by decide +kernel
theorem dX14_digest_211 : decode cX14_digest 211 = .ok (.lmul, 1) := by decide +kernel
theorem dX14_digest_212 : decode cX14_digest 212 = .ok (.aload_n 0, 1) := by decide +kernel
theorem dX14_digest_213 : decode cX14_digest 213 = .ok (.getfield 38, 3) := by decide +kernel
theorem dX14_digest_216 : decode cX14_digest 216 = .ok (.getfield 260, 3) := by decide +kernel
theorem dX14_digest_219 : decode cX14_digest 219 = .ok (.iload 4, 2) := by decide +kernel
theorem dX14_digest_221 : decode cX14_digest 221 = .ok (.iaload, 1) := by decide +kernel
theorem dX14_digest_222 : decode cX14_digest 222 = .ok (.i2l, 1) := by decide +kernel
theorem dX14_digest_223 : decode cX14_digest 223 = .ok (.ladd, 1) := by decide +kernel
theorem dX14_digest_224 : decode cX14_digest 224 = .ok (.lstore_n 2, 1) := by decide +kernel
theorem dX14_digest_225 : decode cX14_digest 225 = .ok (.iconst 0, 1) := by decide +kernel
theorem dX14_digest_226 : decode cX14_digest 226 = .ok (.istore 5, 2) := by decide +kernel
theorem dX14_digest_228 : decode cX14_digest 228 = .ok (.iload 5, 2) := by decide +kernel
theorem dX14_digest_230 : decode cX14_digest 230 = .ok (.iconst 4, 1) := by decide +kernel
theorem dX14_digest_231 : decode cX14_digest 231 = .ok (.if_icmp .ge 29, 3) := by decide +kernel
theorem dX14_digest_234 : decode cX14_digest 234 = .ok (.lload_n 2, 1) := by decide +kernel
theorem dX14_digest_235 : decode cX14_digest 235 = .ok (.ldc2_w 394, 3) := by decide +kernel
theorem dX14_digest_238 : decode cX14_digest 238 = .ok (.lmul, 1) := by decide +kernel
theorem dX14_digest_239 : decode cX14_digest 239 = .ok (.aload_n 0, 1) := by decide +kernel
theorem dX14_digest_240 : decode cX14_digest 240 = .ok (.getfield 45, 3) := by decide +kernel
theorem dX14_digest_243 : decode cX14_digest 243 = .ok (.iload 4, 2) := by decide +kernel
theorem dX14_digest_245 : decode cX14_digest 245 = .ok (.iload 5, 2) := by decide +kernel
theorem dX14_digest_247 : decode cX14_digest 247 = .ok (.invokestatic 66, 3) := by decide +kernel
theorem dX14_digest_250 : decode cX14_digest 250 = .ok (.iaload, 1) := by decide +kernel
theorem dX14_digest_251 : decode cX14_digest 251 = .ok (.i2l, 1) := by decide +kernel
theorem dX14_digest_252 : decode cX14_digest 252 = .ok (.ladd, 1) := by decide +kernel
theorem dX14_digest_253 : decode cX14_digest 253 = .ok (.lstore_n 2, 1) := by decide +kernel
theorem dX14_digest_254 : decode cX14_digest 254 = .ok (.iinc 5 1, 3) := by decide +kernel
theorem dX14_digest_257 : decode cX14_digest 257 = .ok (.goto (-29), 3) := by decide +kernel
theorem dX14_digest_260 : decode cX14_digest 260 = .ok (.iinc 4 1, 3) := by decide +kernel
theorem dX14_digest_263 : decode cX14_digest 263 = .ok (.goto (-68), 3) := by decide +kernel
theorem dX14_digest_266 : decode cX14_digest 266 = .ok (.iconst 0, 1) := by decide +kernel
theorem dX14_digest_267 : decode cX14_digest 267 = .ok (.istore 4, 2) := by decide +kernel
theorem dX14_digest_269 : decode cX14_digest 269 = .ok (.iload 4, 2) := by decide +kernel
theorem dX14_digest_271 : decode cX14_digest 271 = .ok (.bipush 20, 2) := by decide +kernel
theorem dX14_digest_273 : decode cX14_digest 273 = .ok (.aload_n 0, 1) := by decide +kernel
theorem dX14_digest_274 : decode cX14_digest 274 = .ok (.getfield 45, 3) := by decide +kernel
theorem dX14_digest_277 : decode cX14_digest 277 = .ok (.iconst 4, 1) := by decide +kernel
theorem dX14_digest_278 : decode cX14_digest 278 = .ok (.iaload, 1) := by decide +kernel
theorem dX14_digest_279 : decode cX14_digest 279 = .ok (.invokestatic 57, 3) := by decide +kernel
theorem dX14_digest_282 : decode cX14_digest 282 = .ok (.if_icmp .ge 31, 3) := by decide +kernel
theorem dX14_digest_285 : decode cX14_digest 285 = .ok (.lload_n 2, 1) := by decide +kernel
theorem dX14_digest_286 : decode cX14_digest 286 = .ok (.ldc2_w 394, 3) := by decide +kernel
theorem dX14_digest_289 : decode cX14_digest 289 = .ok (.lmul, 1) := by decide +kernel
theorem dX14_digest_290 : decode cX14_digest 290 = .ok (.aload_n 0, 1) := by decide +kernel
theorem dX14_digest_291 : decode cX14_digest 291 = .ok (.iload 4, 2) := by decide +kernel
theorem dX14_digest_293 : decode cX14_digest 293 = .ok (.aload_n 0, 1) := by decide +kernel
theorem dX14_digest_294 : decode cX14_digest 294 = .ok (.getfield 45, 3) := by decide +kernel
theorem dX14_digest_297 : decode cX14_digest 297 = .ok (.iconst 4, 1) := by decide +kernel
theorem dX14_digest_298 : decode cX14_digest 298 = .ok (.iaload, 1) := by decide +kernel
theorem dX14_digest_299 : decode cX14_digest 299 = .ok (.bipush 12, 2) := by decide +kernel
theorem dX14_digest_301 : decode cX14_digest 301 = .ok (.invokevirtual 368, 3) := by decide +kernel
theorem dX14_digest_304 : decode cX14_digest 304 = .ok (.i2l, 1) := by decide +kernel
theorem dX14_digest_305 : decode cX14_digest 305 = .ok (.ladd, 1) := by decide +kernel
theorem dX14_digest_306 : decode cX14_digest 306 = .ok (.lstore_n 2, 1) := by decide +kernel
theorem dX14_digest_307 : decode cX14_digest 307 = .ok (.iinc 4 1, 3) := by decide +kernel
theorem dX14_digest_310 : decode cX14_digest 310 = .ok (.goto (-41), 3) := by decide +kernel
theorem dX14_digest_313 : decode cX14_digest 313 = .ok (.iconst 0, 1) := by decide +kernel
theorem dX14_digest_314 : decode cX14_digest 314 = .ok (.istore 4, 2) := by decide +kernel
theorem dX14_digest_316 : decode cX14_digest 316 = .ok (.iload 4, 2) := by decide +kernel
theorem dX14_digest_318 : decode cX14_digest 318 = .ok (.bipush 20, 2) := by decide +kernel
theorem dX14_digest_320 : decode cX14_digest 320 = .ok (.aload_n 0, 1) := by decide +kernel
theorem dX14_digest_321 : decode cX14_digest 321 = .ok (.getfield 45, 3) := by decide +kernel
theorem dX14_digest_324 : decode cX14_digest 324 = .ok (.iconst 5, 1) := by decide +kernel
theorem dX14_digest_325 : decode cX14_digest 325 = .ok (.iaload, 1) := by decide +kernel
theorem dX14_digest_326 : decode cX14_digest 326 = .ok (.invokestatic 57, 3) := by decide +kernel
theorem dX14_digest_329 : decode cX14_digest 329 = .ok (.if_icmp .ge 31, 3) := by decide +kernel
theorem dX14_digest_332 : decode cX14_digest 332 = .ok (.lload_n 2, 1) := by decide +kernel
theorem dX14_digest_333 : decode cX14_digest 333 = .ok (.ldc2_w 394, 3) := by decide +kernel
theorem dX14_digest_336 : decode cX14_digest 336 = .ok (.lmul, 1) := by decide +kernel
theorem dX14_digest_337 : decode cX14_digest 337 = .ok (.aload_n 0, 1) := by decide +kernel
theorem dX14_digest_338 : decode cX14_digest 338 = .ok (.iload 4, 2) := by decide +kernel
theorem dX14_digest_340 : decode cX14_digest 340 = .ok (.aload_n 0, 1) := by decide +kernel
theorem dX14_digest_341 : decode cX14_digest 341 = .ok (.getfield 45, 3) := by decide +kernel
theorem dX14_digest_344 : decode cX14_digest 344 = .ok (.iconst 5, 1) := by decide +kernel
theorem dX14_digest_345 : decode cX14_digest 345 = .ok (.iaload, 1) := by decide +kernel
theorem dX14_digest_346 : decode cX14_digest 346 = .ok (.bipush 32, 2) := by decide +kernel
theorem dX14_digest_348 : decode cX14_digest 348 = .ok (.invokevirtual 368, 3) := by decide +kernel
theorem dX14_digest_351 : decode cX14_digest 351 = .ok (.i2l, 1) := by decide +kernel
theorem dX14_digest_352 : decode cX14_digest 352 = .ok (.ladd, 1) := by decide +kernel
theorem dX14_digest_353 : decode cX14_digest 353 = .ok (.lstore_n 2, 1) := by decide +kernel
theorem dX14_digest_354 : decode cX14_digest 354 = .ok (.iinc 4 1, 3) := by decide +kernel
theorem dX14_digest_357 : decode cX14_digest 357 = .ok (.goto (-41), 3) := by decide +kernel
theorem dX14_digest_360 : decode cX14_digest 360 = .ok (.aload_n 0, 1) := by decide +kernel
theorem dX14_digest_361 : decode cX14_digest 361 = .ok (.iconst 0, 1) := by decide +kernel
theorem dX14_digest_362 : decode cX14_digest 362 = .ok (.putfield 54, 3) := by decide +kernel
theorem dX14_digest_365 : decode cX14_digest 365 = .ok (.lload_n 2, 1) := by decide +kernel
theorem dX14_digest_366 : decode cX14_digest 366 = .ok (.lreturn, 1) := by decide +kernel
theorem dJx29ce0_ordinal_8abf5_0 : decode cJx29ce0_ordinal_8abf5 0 = .ok (.aload_n 0, 1) := by decide +kernel
theorem dJx29ce0_ordinal_8abf5_1 : decode cJx29ce0_ordinal_8abf5 1 = .ok (.getfield 7, 3) := by decide +kernel
theorem dJx29ce0_ordinal_8abf5_4 : decode cJx29ce0_ordinal_8abf5 4 = .ok (.ireturn, 1) := by decide +kernel
theorem dJ9_floorMod_7cf53_0 : decode cJ9_floorMod_7cf53 0 = .ok (.iload_n 0, 1) := by decide +kernel
theorem dJ9_floorMod_7cf53_1 : decode cJ9_floorMod_7cf53 1 = .ok (.iload_n 1, 1) := by decide +kernel
theorem dJ9_floorMod_7cf53_2 : decode cJ9_floorMod_7cf53 2 = .ok (.irem, 1) := by decide +kernel
theorem dJ9_floorMod_7cf53_3 : decode cJ9_floorMod_7cf53 3 = .ok (.istore_n 2, 1) := by decide +kernel
theorem dJ9_floorMod_7cf53_4 : decode cJ9_floorMod_7cf53 4 = .ok (.iload_n 0, 1) := by decide +kernel
theorem dJ9_floorMod_7cf53_5 : decode cJ9_floorMod_7cf53 5 = .ok (.iload_n 1, 1) := by decide +kernel
theorem dJ9_floorMod_7cf53_6 : decode cJ9_floorMod_7cf53 6 = .ok (.ixor, 1) := by decide +kernel
theorem dJ9_floorMod_7cf53_7 : decode cJ9_floorMod_7cf53 7 = .ok (.ifCond .ge 11, 3) := by decide +kernel
theorem dJ9_floorMod_7cf53_10 : decode cJ9_floorMod_7cf53 10 = .ok (.iload_n 2, 1) := by decide +kernel
theorem dJ9_floorMod_7cf53_11 : decode cJ9_floorMod_7cf53 11 = .ok (.ifCond .eq 7, 3) := by decide +kernel
theorem dJ9_floorMod_7cf53_14 : decode cJ9_floorMod_7cf53 14 = .ok (.iload_n 2, 1) := by decide +kernel
theorem dJ9_floorMod_7cf53_15 : decode cJ9_floorMod_7cf53 15 = .ok (.iload_n 1, 1) := by decide +kernel
theorem dJ9_floorMod_7cf53_16 : decode cJ9_floorMod_7cf53 16 = .ok (.iadd, 1) := by decide +kernel
theorem dJ9_floorMod_7cf53_17 : decode cJ9_floorMod_7cf53 17 = .ok (.ireturn, 1) := by decide +kernel
theorem dJ9_floorMod_7cf53_18 : decode cJ9_floorMod_7cf53 18 = .ok (.iload_n 2, 1) := by decide +kernel
theorem dJ9_floorMod_7cf53_19 : decode cJ9_floorMod_7cf53 19 = .ok (.ireturn, 1) := by decide +kernel
theorem dJ9_max_7cf53_0 : decode cJ9_max_7cf53 0 = .ok (.iload_n 0, 1) := by decide +kernel
theorem dJ9_max_7cf53_1 : decode cJ9_max_7cf53 1 = .ok (.iload_n 1, 1) := by decide +kernel
theorem dJ9_max_7cf53_2 : decode cJ9_max_7cf53 2 = .ok (.if_icmp .lt 7, 3) := by decide +kernel
theorem dJ9_max_7cf53_5 : decode cJ9_max_7cf53 5 = .ok (.iload_n 0, 1) := by decide +kernel
theorem dJ9_max_7cf53_6 : decode cJ9_max_7cf53 6 = .ok (.goto 4, 3) := by decide +kernel
theorem dJ9_max_7cf53_9 : decode cJ9_max_7cf53 9 = .ok (.iload_n 1, 1) := by decide +kernel
theorem dJ9_max_7cf53_10 : decode cJ9_max_7cf53 10 = .ok (.ireturn, 1) := by decide +kernel
theorem dJ9_min_7cf53_0 : decode cJ9_min_7cf53 0 = .ok (.iload_n 0, 1) := by decide +kernel
theorem dJ9_min_7cf53_1 : decode cJ9_min_7cf53 1 = .ok (.iload_n 1, 1) := by decide +kernel
theorem dJ9_min_7cf53_2 : decode cJ9_min_7cf53 2 = .ok (.if_icmp .gt 7, 3) := by decide +kernel
theorem dJ9_min_7cf53_5 : decode cJ9_min_7cf53 5 = .ok (.iload_n 0, 1) := by decide +kernel
theorem dJ9_min_7cf53_6 : decode cJ9_min_7cf53 6 = .ok (.goto 4, 3) := by decide +kernel
theorem dJ9_min_7cf53_9 : decode cJ9_min_7cf53 9 = .ok (.iload_n 1, 1) := by decide +kernel
theorem dJ9_min_7cf53_10 : decode cJ9_min_7cf53 10 = .ok (.ireturn, 1) := by decide +kernel
set_option maxRecDepth 20000 in
theorem ggJ0_length_8abf5_J0_coder_7d493 : GoodIn wsJ0_length_8abf5 wsJ0_coder_7d493 := goodIn_r _ [6, 7, 8] (by decide +kernel) (by decide +kernel)
set_option maxRecDepth 20000 in
theorem gJ0_length_8abf5_J0_coder_7d493 : GoodIn wsJ0_length_8abf5 (wsV RJ0 335 RJ0 yJ0_coder_7d493 wsJ0_coder_7d493) := goodIn_app (goodIn_of _ (by decide +kernel)) ggJ0_length_8abf5_J0_coder_7d493
theorem dJ0_length_8abf5_0 : decode cJ0_length_8abf5 0 = .ok (.aload_n 0, 1) := by decide +kernel
theorem dJ0_length_8abf5_1 : decode cJ0_length_8abf5 1 = .ok (.getfield 9, 3) := by decide +kernel
theorem dJ0_length_8abf5_4 : decode cJ0_length_8abf5 4 = .ok (.arraylength, 1) := by decide +kernel
theorem dJ0_length_8abf5_5 : decode cJ0_length_8abf5 5 = .ok (.aload_n 0, 1) := by decide +kernel
theorem dJ0_length_8abf5_6 : decode cJ0_length_8abf5 6 = .ok (.invokevirtual 335, 3) := by decide +kernel
theorem dJ0_length_8abf5_9 : decode cJ0_length_8abf5 9 = .ok (.ishr, 1) := by decide +kernel
theorem dJ0_length_8abf5_10 : decode cJ0_length_8abf5 10 = .ok (.ireturn, 1) := by decide +kernel
set_option maxRecDepth 20000 in
theorem ggJ0_charAt_5068e_J0_isLatin1_aae02 : GoodIn wsJ0_charAt_5068e wsJ0_isLatin1_aae02 := goodIn_r _ [6, 7, 8] (by decide +kernel) (by decide +kernel)
set_option maxRecDepth 20000 in
theorem gJ0_charAt_5068e_J0_isLatin1_aae02 : GoodIn wsJ0_charAt_5068e (wsV RJ0 492 RJ0 yJ0_isLatin1_aae02 wsJ0_isLatin1_aae02) := goodIn_app (goodIn_of _ (by decide +kernel)) ggJ0_charAt_5068e_J0_isLatin1_aae02
set_option maxRecDepth 20000 in
theorem ggJ0_charAt_5068e_J1_charAt_3b067 : GoodIn wsJ0_charAt_5068e wsJ1_charAt_3b067 := goodIn_r _ [12, 13, 14, 5, 15, 16, 17, 18, 19, 20] (by decide +kernel) (by decide +kernel)
set_option maxRecDepth 20000 in
theorem gJ0_charAt_5068e_J1_charAt_3b067 : GoodIn wsJ0_charAt_5068e (va_wsS RJ0 495 yJ1_charAt_3b067 wsJ1_charAt_3b067) := goodIn_app (goodIn_of _ (by decide +kernel)) ggJ0_charAt_5068e_J1_charAt_3b067
set_option maxRecDepth 20000 in
theorem ggJ0_charAt_5068e_J2_charAt_3b067 : GoodIn wsJ0_charAt_5068e wsJ2_charAt_3b067 := goodIn_r _ [24, 25, 26, 23, 27, 28, 29, 30, 31, 14, 5, 15, 16, 17, 18, 19, 20, 32, 33, 34, 35, 36, 37] (by decide +kernel) (by decide +kernel)
set_option maxRecDepth 20000 in
theorem gJ0_charAt_5068e_J2_charAt_3b067 : GoodIn wsJ0_charAt_5068e (va_wsS RJ0 498 yJ2_charAt_3b067 wsJ2_charAt_3b067) := goodIn_app (goodIn_of _ (by decide +kernel)) ggJ0_charAt_5068e_J2_charAt_3b067
theorem dJ0_charAt_5068e_0 : decode cJ0_charAt_5068e 0 = .ok (.aload_n 0, 1) := by decide +kernel
theorem dJ0_charAt_5068e_1 : decode cJ0_charAt_5068e 1 = .ok (.invokevirtual 492, 3) := by decide +kernel
theorem dJ0_charAt_5068e_4 : decode cJ0_charAt_5068e 4 = .ok (.ifCond .eq 12, 3) := by decide +kernel
theorem dJ0_charAt_5068e_7 : decode cJ0_charAt_5068e 7 = .ok (.aload_n 0, 1) := by decide +kernel
theorem dJ0_charAt_5068e_8 : decode cJ0_charAt_5068e 8 = .ok (.getfield 9, 3) := by decide +kernel
theorem dJ0_charAt_5068e_11 : decode cJ0_charAt_5068e 11 = .ok (.iload_n 1, 1) := by decide +kernel
theorem dJ0_charAt_5068e_12 : decode cJ0_charAt_5068e 12 = .ok (.invokestatic 495, 3) := by decide +kernel
theorem dJ0_charAt_5068e_15 : decode cJ0_charAt_5068e 15 = .ok (.ireturn, 1) := by decide +kernel
theorem dJ0_charAt_5068e_16 : decode cJ0_charAt_5068e 16 = .ok (.aload_n 0, 1) := by decide +kernel
theorem dJ0_charAt_5068e_17 : decode cJ0_charAt_5068e 17 = .ok (.getfield 9, 3) := by decide +kernel
theorem dJ0_charAt_5068e_20 : decode cJ0_charAt_5068e 20 = .ok (.iload_n 1, 1) := by decide +kernel
theorem dJ0_charAt_5068e_21 : decode cJ0_charAt_5068e 21 = .ok (.invokestatic 498, 3) := by decide +kernel
theorem dJ0_charAt_5068e_24 : decode cJ0_charAt_5068e 24 = .ok (.ireturn, 1) := by decide +kernel
theorem dJ0_coder_7d493_0 : decode cJ0_coder_7d493 0 = .ok (.getstatic 38, 3) := by decide +kernel
theorem dJ0_coder_7d493_3 : decode cJ0_coder_7d493 3 = .ok (.ifCond .eq 10, 3) := by decide +kernel
theorem dJ0_coder_7d493_6 : decode cJ0_coder_7d493 6 = .ok (.aload_n 0, 1) := by decide +kernel
theorem dJ0_coder_7d493_7 : decode cJ0_coder_7d493 7 = .ok (.getfield 15, 3) := by decide +kernel
theorem dJ0_coder_7d493_10 : decode cJ0_coder_7d493 10 = .ok (.goto 4, 3) := by decide +kernel
theorem dJ0_coder_7d493_13 : decode cJ0_coder_7d493 13 = .ok (.iconst 1, 1) := by decide +kernel
theorem dJ0_coder_7d493_14 : decode cJ0_coder_7d493 14 = .ok (.ireturn, 1) := by decide +kernel
theorem dJ0_isLatin1_aae02_0 : decode cJ0_isLatin1_aae02 0 = .ok (.getstatic 38, 3) := by decide +kernel
theorem dJ0_isLatin1_aae02_3 : decode cJ0_isLatin1_aae02 3 = .ok (.ifCond .eq 14, 3) := by decide +kernel
theorem dJ0_isLatin1_aae02_6 : decode cJ0_isLatin1_aae02 6 = .ok (.aload_n 0, 1) := by decide +kernel
theorem dJ0_isLatin1_aae02_7 : decode cJ0_isLatin1_aae02 7 = .ok (.getfield 15, 3) := by decide +kernel
theorem dJ0_isLatin1_aae02_10 : decode cJ0_isLatin1_aae02 10 = .ok (.ifCond .ne 7, 3) := by decide +kernel
theorem dJ0_isLatin1_aae02_13 : decode cJ0_isLatin1_aae02 13 = .ok (.iconst 1, 1) := by decide +kernel
theorem dJ0_isLatin1_aae02_14 : decode cJ0_isLatin1_aae02 14 = .ok (.goto 4, 3) := by decide +kernel
theorem dJ0_isLatin1_aae02_17 : decode cJ0_isLatin1_aae02 17 = .ok (.iconst 0, 1) := by decide +kernel
theorem dJ0_isLatin1_aae02_18 : decode cJ0_isLatin1_aae02 18 = .ok (.ireturn, 1) := by decide +kernel
set_option maxRecDepth 20000 in
theorem ggJ0_checkIndex_df160_J3_checkIndex_8e157 : GoodIn wsJ0_checkIndex_df160 wsJ3_checkIndex_8e157 := goodIn_r _ [5] (by decide +kernel) (by decide +kernel)
set_option maxRecDepth 20000 in
theorem gJ0_checkIndex_df160_J3_checkIndex_8e157 : GoodIn wsJ0_checkIndex_df160 (va_wsS RJ0 1059 yJ3_checkIndex_8e157 wsJ3_checkIndex_8e157) := goodIn_app (goodIn_of _ (by decide +kernel)) ggJ0_checkIndex_df160_J3_checkIndex_8e157
theorem dJ0_checkIndex_df160_0 : decode cJ0_checkIndex_df160 0 = .ok (.iload_n 0, 1) := by decide +kernel
theorem dJ0_checkIndex_df160_1 : decode cJ0_checkIndex_df160 1 = .ok (.iload_n 1, 1) := by decide +kernel
theorem dJ0_checkIndex_df160_2 : decode cJ0_checkIndex_df160 2 = .ok (.getstatic 1053, 3) := by decide +kernel
theorem dJ0_checkIndex_df160_5 : decode cJ0_checkIndex_df160 5 = .ok (.invokestatic 1059, 3) := by decide +kernel
theorem dJ0_checkIndex_df160_8 : decode cJ0_checkIndex_df160 8 = .ok (.pop, 1) := by decide +kernel
theorem dJ0_checkIndex_df160_9 : decode cJ0_checkIndex_df160 9 = .ok (.return_, 1) := by decide +kernel
set_option maxRecDepth 20000 in
theorem ggJ1_charAt_3b067_J0_checkIndex_df160 : GoodIn wsJ1_charAt_3b067 wsJ0_checkIndex_df160 := goodIn_r _ [4, 5, 6, 7, 8, 9] (by decide +kernel) (by decide +kernel)
set_option maxRecDepth 20000 in
theorem gJ1_charAt_3b067_J0_checkIndex_df160 : GoodIn wsJ1_charAt_3b067 (va_wsS RJ1 9 yJ0_checkIndex_df160 wsJ0_checkIndex_df160) := goodIn_app (goodIn_of _ (by decide +kernel)) ggJ1_charAt_3b067_J0_checkIndex_df160
theorem dJ1_charAt_3b067_0 : decode cJ1_charAt_3b067 0 = .ok (.iload_n 1, 1) := by decide +kernel
theorem dJ1_charAt_3b067_1 : decode cJ1_charAt_3b067 1 = .ok (.aload_n 0, 1) := by decide +kernel
theorem dJ1_charAt_3b067_2 : decode cJ1_charAt_3b067 2 = .ok (.arraylength, 1) := by decide +kernel
theorem dJ1_charAt_3b067_3 : decode cJ1_charAt_3b067 3 = .ok (.invokestatic 9, 3) := by decide +kernel
theorem dJ1_charAt_3b067_6 : decode cJ1_charAt_3b067 6 = .ok (.aload_n 0, 1) := by decide +kernel
theorem dJ1_charAt_3b067_7 : decode cJ1_charAt_3b067 7 = .ok (.iload_n 1, 1) := by decide +kernel
theorem dJ1_charAt_3b067_8 : decode cJ1_charAt_3b067 8 = .ok (.baload, 1) := by decide +kernel
theorem dJ1_charAt_3b067_9 : decode cJ1_charAt_3b067 9 = .ok (.sipush 255, 3) := by decide +kernel
theorem dJ1_charAt_3b067_12 : decode cJ1_charAt_3b067 12 = .ok (.iand, 1) := by decide +kernel
theorem dJ1_charAt_3b067_13 : decode cJ1_charAt_3b067 13 = .ok (.i2c, 1) := by decide +kernel
theorem dJ1_charAt_3b067_14 : decode cJ1_charAt_3b067 14 = .ok (.ireturn, 1) := by decide +kernel
set_option maxRecDepth 20000 in
theorem ggJ2_getChar_3b067_J2_length_9d52b : GoodIn wsJ2_getChar_3b067 wsJ2_length_9d52b := goodIn_r _ [7] (by decide +kernel) (by decide +kernel)
set_option maxRecDepth 20000 in
theorem gJ2_getChar_3b067_J2_length_9d52b : GoodIn wsJ2_getChar_3b067 (va_wsS RJ2 48 yJ2_length_9d52b wsJ2_length_9d52b) := goodIn_app (goodIn_of _ (by decide +kernel)) ggJ2_getChar_3b067_J2_length_9d52b
theorem dJ2_getChar_3b067_0 : decode cJ2_getChar_3b067 0 = .ok (.getstatic 44, 3) := by decide +kernel
theorem dJ2_getChar_3b067_3 : decode cJ2_getChar_3b067 3 = .ok (.ifCond .ne 25, 3) := by decide +kernel
theorem dJ2_getChar_3b067_6 : decode cJ2_getChar_3b067 6 = .ok (.iload_n 1, 1) := by decide +kernel
theorem dJ2_getChar_3b067_7 : decode cJ2_getChar_3b067 7 = .ok (.ifCond .lt 11, 3) := by decide +kernel
theorem dJ2_getChar_3b067_10 : decode cJ2_getChar_3b067 10 = .ok (.iload_n 1, 1) := by decide +kernel
theorem dJ2_getChar_3b067_11 : decode cJ2_getChar_3b067 11 = .ok (.aload_n 0, 1) := by decide +kernel
theorem dJ2_getChar_3b067_12 : decode cJ2_getChar_3b067 12 = .ok (.invokestatic 48, 3) := by decide +kernel
theorem dJ2_getChar_3b067_15 : decode cJ2_getChar_3b067 15 = .ok (.if_icmp .lt 13, 3) := by decide +kernel
theorem dJ2_getChar_3b067_18 : decode cJ2_getChar_3b067 18 = .ok (.new 52, 3) := by decide +kernel
theorem dJ2_getChar_3b067_21 : decode cJ2_getChar_3b067 21 = .ok (.dup, 1) := by decide +kernel
theorem dJ2_getChar_3b067_22 : decode cJ2_getChar_3b067 22 = .ok (.ldc 54, 2) := by decide +kernel
theorem dJ2_getChar_3b067_24 : decode cJ2_getChar_3b067 24 = .ok (.invokespecial 56, 3) := by decide +kernel
theorem dJ2_getChar_3b067_27 : decode cJ2_getChar_3b067 27 = .ok (.athrow, 1) := by decide +kernel
theorem dJ2_getChar_3b067_28 : decode cJ2_getChar_3b067 28 = .ok (.iload_n 1, 1) := by decide +kernel
theorem dJ2_getChar_3b067_29 : decode cJ2_getChar_3b067 29 = .ok (.iconst 1, 1) := by decide +kernel
theorem dJ2_getChar_3b067_30 : decode cJ2_getChar_3b067 30 = .ok (.ishl, 1) := by decide +kernel
theorem dJ2_getChar_3b067_31 : decode cJ2_getChar_3b067 31 = .ok (.istore_n 1, 1) := by decide +kernel
theorem dJ2_getChar_3b067_32 : decode cJ2_getChar_3b067 32 = .ok (.aload_n 0, 1) := by decide +kernel
theorem dJ2_getChar_3b067_33 : decode cJ2_getChar_3b067 33 = .ok (.iload_n 1, 1) := by decide +kernel
theorem dJ2_getChar_3b067_34 : decode cJ2_getChar_3b067 34 = .ok (.iinc 1 1, 3) := by decide +kernel
theorem dJ2_getChar_3b067_37 : decode cJ2_getChar_3b067 37 = .ok (.baload, 1) := by decide +kernel
theorem dJ2_getChar_3b067_38 : decode cJ2_getChar_3b067 38 = .ok (.sipush 255, 3) := by decide +kernel
theorem dJ2_getChar_3b067_41 : decode cJ2_getChar_3b067 41 = .ok (.iand, 1) := by decide +kernel
theorem dJ2_getChar_3b067_42 : decode cJ2_getChar_3b067 42 = .ok (.getstatic 59, 3) := by decide +kernel
theorem dJ2_getChar_3b067_45 : decode cJ2_getChar_3b067 45 = .ok (.ishl, 1) := by decide +kernel
theorem dJ2_getChar_3b067_46 : decode cJ2_getChar_3b067 46 = .ok (.aload_n 0, 1) := by decide +kernel
theorem dJ2_getChar_3b067_47 : decode cJ2_getChar_3b067 47 = .ok (.iload_n 1, 1) := by decide +kernel
theorem dJ2_getChar_3b067_48 : decode cJ2_getChar_3b067 48 = .ok (.baload, 1) := by decide +kernel
theorem dJ2_getChar_3b067_49 : decode cJ2_getChar_3b067 49 = .ok (.sipush 255, 3) := by decide +kernel
theorem dJ2_getChar_3b067_52 : decode cJ2_getChar_3b067 52 = .ok (.iand, 1) := by decide +kernel
theorem dJ2_getChar_3b067_53 : decode cJ2_getChar_3b067 53 = .ok (.getstatic 63, 3) := by decide +kernel
theorem dJ2_getChar_3b067_56 : decode cJ2_getChar_3b067 56 = .ok (.ishl, 1) := by decide +kernel
theorem dJ2_getChar_3b067_57 : decode cJ2_getChar_3b067 57 = .ok (.ior, 1) := by decide +kernel
theorem dJ2_getChar_3b067_58 : decode cJ2_getChar_3b067 58 = .ok (.i2c, 1) := by decide +kernel
theorem dJ2_getChar_3b067_59 : decode cJ2_getChar_3b067 59 = .ok (.ireturn, 1) := by decide +kernel
theorem dJ2_length_9d52b_0 : decode cJ2_length_9d52b 0 = .ok (.aload_n 0, 1) := by decide +kernel
theorem dJ2_length_9d52b_1 : decode cJ2_length_9d52b 1 = .ok (.arraylength, 1) := by decide +kernel
theorem dJ2_length_9d52b_2 : decode cJ2_length_9d52b 2 = .ok (.iconst 1, 1) := by decide +kernel
theorem dJ2_length_9d52b_3 : decode cJ2_length_9d52b 3 = .ok (.ishr, 1) := by decide +kernel
theorem dJ2_length_9d52b_4 : decode cJ2_length_9d52b 4 = .ok (.ireturn, 1) := by decide +kernel
set_option maxRecDepth 20000 in
theorem ggJ2_charAt_3b067_J2_checkIndex_2214a : GoodIn wsJ2_charAt_3b067 wsJ2_checkIndex_2214a := goodIn_r _ [4, 5, 6, 3, 7, 8, 9, 10, 11, 12, 13, 14, 15, 16] (by decide +kernel) (by decide +kernel)
set_option maxRecDepth 20000 in
theorem gJ2_charAt_3b067_J2_checkIndex_2214a : GoodIn wsJ2_charAt_3b067 (va_wsS RJ2 67 yJ2_checkIndex_2214a wsJ2_checkIndex_2214a) := goodIn_app (goodIn_of _ (by decide +kernel)) ggJ2_charAt_3b067_J2_checkIndex_2214a
set_option maxRecDepth 20000 in
theorem ggJ2_charAt_3b067_J2_getChar_3b067 : GoodIn wsJ2_charAt_3b067 wsJ2_getChar_3b067 := goodIn_r _ [19, 20, 21, 22, 5, 6, 3, 7] (by decide +kernel) (by decide +kernel)
set_option maxRecDepth 20000 in
theorem gJ2_charAt_3b067_J2_getChar_3b067 : GoodIn wsJ2_charAt_3b067 (va_wsS RJ2 71 yJ2_getChar_3b067 wsJ2_getChar_3b067) := goodIn_app (goodIn_of _ (by decide +kernel)) ggJ2_charAt_3b067_J2_getChar_3b067
theorem dJ2_charAt_3b067_0 : decode cJ2_charAt_3b067 0 = .ok (.iload_n 1, 1) := by decide +kernel
theorem dJ2_charAt_3b067_1 : decode cJ2_charAt_3b067 1 = .ok (.aload_n 0, 1) := by decide +kernel
theorem dJ2_charAt_3b067_2 : decode cJ2_charAt_3b067 2 = .ok (.invokestatic 67, 3) := by decide +kernel
theorem dJ2_charAt_3b067_5 : decode cJ2_charAt_3b067 5 = .ok (.aload_n 0, 1) := by decide +kernel
theorem dJ2_charAt_3b067_6 : decode cJ2_charAt_3b067 6 = .ok (.iload_n 1, 1) := by decide +kernel
theorem dJ2_charAt_3b067_7 : decode cJ2_charAt_3b067 7 = .ok (.invokestatic 71, 3) := by decide +kernel
theorem dJ2_charAt_3b067_10 : decode cJ2_charAt_3b067 10 = .ok (.ireturn, 1) := by decide +kernel
set_option maxRecDepth 20000 in
theorem ggJ2_checkIndex_2214a_J2_length_9d52b : GoodIn wsJ2_checkIndex_2214a wsJ2_length_9d52b := goodIn_r _ [4] (by decide +kernel) (by decide +kernel)
set_option maxRecDepth 20000 in
theorem gJ2_checkIndex_2214a_J2_length_9d52b : GoodIn wsJ2_checkIndex_2214a (va_wsS RJ2 48 yJ2_length_9d52b wsJ2_length_9d52b) := goodIn_app (goodIn_of _ (by decide +kernel)) ggJ2_checkIndex_2214a_J2_length_9d52b
set_option maxRecDepth 20000 in
theorem ggJ2_checkIndex_2214a_J0_checkIndex_df160 : GoodIn wsJ2_checkIndex_2214a wsJ0_checkIndex_df160 := goodIn_r _ [8, 9, 10, 11, 12, 13] (by decide +kernel) (by decide +kernel)
set_option maxRecDepth 20000 in
theorem gJ2_checkIndex_2214a_J0_checkIndex_df160 : GoodIn wsJ2_checkIndex_2214a (va_wsS RJ2 414 yJ0_checkIndex_df160 wsJ0_checkIndex_df160) := goodIn_app (goodIn_of _ (by decide +kernel)) ggJ2_checkIndex_2214a_J0_checkIndex_df160
theorem dJ2_checkIndex_2214a_0 : decode cJ2_checkIndex_2214a 0 = .ok (.iload_n 0, 1) := by decide +kernel
theorem dJ2_checkIndex_2214a_1 : decode cJ2_checkIndex_2214a 1 = .ok (.aload_n 1, 1) := by decide +kernel
theorem dJ2_checkIndex_2214a_2 : decode cJ2_checkIndex_2214a 2 = .ok (.invokestatic 48, 3) := by decide +kernel
theorem dJ2_checkIndex_2214a_5 : decode cJ2_checkIndex_2214a 5 = .ok (.invokestatic 414, 3) := by decide +kernel
theorem dJ2_checkIndex_2214a_8 : decode cJ2_checkIndex_2214a 8 = .ok (.return_, 1) := by decide +kernel
theorem dJ3_checkIndex_8e157_0 : decode cJ3_checkIndex_8e157 0 = .ok (.iload_n 0, 1) := by decide +kernel
theorem dJ3_checkIndex_8e157_1 : decode cJ3_checkIndex_8e157 1 = .ok (.ifCond .lt 8, 3) := by decide +kernel
theorem dJ3_checkIndex_8e157_4 : decode cJ3_checkIndex_8e157 4 = .ok (.iload_n 0, 1) := by decide +kernel
theorem dJ3_checkIndex_8e157_5 : decode cJ3_checkIndex_8e157 5 = .ok (.iload_n 1, 1) := by decide +kernel
theorem dJ3_checkIndex_8e157_6 : decode cJ3_checkIndex_8e157 6 = .ok (.if_icmp .lt 10, 3) := by decide +kernel
theorem dJ3_checkIndex_8e157_9 : decode cJ3_checkIndex_8e157 9 = .ok (.aload_n 2, 1) := by decide +kernel
theorem dJ3_checkIndex_8e157_10 : decode cJ3_checkIndex_8e157 10 = .ok (.iload_n 0, 1) := by decide +kernel
theorem dJ3_checkIndex_8e157_11 : decode cJ3_checkIndex_8e157 11 = .ok (.iload_n 1, 1) := by decide +kernel
theorem dJ3_checkIndex_8e157_12 : decode cJ3_checkIndex_8e157 12 = .ok (.invokestatic 95, 3) := by decide +kernel
theorem dJ3_checkIndex_8e157_15 : decode cJ3_checkIndex_8e157 15 = .ok (.athrow, 1) := by decide +kernel
theorem dJ3_checkIndex_8e157_16 : decode cJ3_checkIndex_8e157 16 = .ok (.iload_n 0, 1) := by decide +kernel
theorem dJ3_checkIndex_8e157_17 : decode cJ3_checkIndex_8e157 17 = .ok (.ireturn, 1) := by decide +kernel
set_option maxRecDepth 20000 in
theorem ggL_feed_X12_feed : GoodIn wsL_feed wsX12_feed := goodIn_ca (goodIn_r _ [6, 7, 8, 9, 10, 11, 12, 13, 14, 15, 16, 17, 18, 19, 20, 21, 22, 23, 24, 25] (by decide +kernel) (by decide +kernel)) (goodIn_sub (fun _ h => List.mem_cons_of_mem _ (List.mem_append_right _ h)) (by decide +kernel))
set_option maxRecDepth 20000 in
theorem gL_feed_X12_feed : GoodIn wsL_feed (wsV RL 7 RX12 yX12_feed wsX12_feed) := goodIn_app (goodIn_of _ (by decide +kernel)) ggL_feed_X12_feed
theorem dL_feed_0 : decode cL_feed 0 = .ok (.aload 6, 2) := by decide +kernel
theorem dL_feed_2 : decode cL_feed 2 = .ok (.iconst 0, 1) := by decide +kernel
theorem dL_feed_3 : decode cL_feed 3 = .ok (.aload_n 0, 1) := by decide +kernel
theorem dL_feed_4 : decode cL_feed 4 = .ok (.iload_n 1, 1) := by decide +kernel
theorem dL_feed_5 : decode cL_feed 5 = .ok (.iload_n 2, 1) := by decide +kernel
theorem dL_feed_6 : decode cL_feed 6 = .ok (.iload_n 3, 1) := by decide +kernel
theorem dL_feed_7 : decode cL_feed 7 = .ok (.iload 4, 2) := by decide +kernel
theorem dL_feed_9 : decode cL_feed 9 = .ok (.iload 5, 2) := by decide +kernel
theorem dL_feed_11 : decode cL_feed 11 = .ok (.invokevirtual 7, 3) := by decide +kernel
theorem dL_feed_14 : decode cL_feed 14 = .ok (.i2l, 1) := by decide +kernel
theorem dL_feed_15 : decode cL_feed 15 = .ok (.lastore, 1) := by decide +kernel
theorem dL_feed_16 : decode cL_feed 16 = .ok (.goto 7, 3) := by decide +kernel
theorem dL_feed_19 : decode cL_feed 19 = .ok (.astore 7, 2) := by decide +kernel
theorem dL_feed_21 : decode cL_feed 21 = .ok (.iconst 1, 1) := by decide +kernel
theorem dL_feed_22 : decode cL_feed 22 = .ok (.ireturn, 1) := by decide +kernel
theorem dL_feed_23 : decode cL_feed 23 = .ok (.iconst 0, 1) := by decide +kernel
theorem dL_feed_24 : decode cL_feed 24 = .ok (.ireturn, 1) := by decide +kernel
set_option maxRecDepth 20000 in
theorem ggL_trim_X12_trim : GoodIn wsL_trim wsX12_trim := goodIn_ca (goodIn_r _ [6, 7, 8, 9, 5, 10, 11, 12, 13, 14, 15, 16, 17, 18, 19, 20, 21] (by decide +kernel) (by decide +kernel)) (goodIn_sub (fun _ h => List.mem_cons_of_mem _ (List.mem_append_right _ h)) (by decide +kernel))
set_option maxRecDepth 20000 in
theorem gL_trim_X12_trim : GoodIn wsL_trim (wsV RL 15 RX12 yX12_trim wsX12_trim) := goodIn_app (goodIn_of _ (by decide +kernel)) ggL_trim_X12_trim
theorem dL_trim_0 : decode cL_trim 0 = .ok (.aload_n 2, 1) := by decide +kernel
theorem dL_trim_1 : decode cL_trim 1 = .ok (.iconst 0, 1) := by decide +kernel
theorem dL_trim_2 : decode cL_trim 2 = .ok (.aload_n 0, 1) := by decide +kernel
theorem dL_trim_3 : decode cL_trim 3 = .ok (.iload_n 1, 1) := by decide +kernel
theorem dL_trim_4 : decode cL_trim 4 = .ok (.invokevirtual 15, 3) := by decide +kernel
theorem dL_trim_7 : decode cL_trim 7 = .ok (.i2l, 1) := by decide +kernel
theorem dL_trim_8 : decode cL_trim 8 = .ok (.lastore, 1) := by decide +kernel
