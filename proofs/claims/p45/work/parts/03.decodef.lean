theorem dX15_goBy_39 : decode cX15_goBy 39 = .ok (.aload_n 0, 1) := by decide +kernel
theorem dX15_goBy_40 : decode cX15_goBy 40 = .ok (.getfield 18, 3) := by decide +kernel
theorem dX15_goBy_43 : decode cX15_goBy 43 = .ok (.iload_n 3, 1) := by decide +kernel
theorem dX15_goBy_44 : decode cX15_goBy 44 = .ok (.aaload, 1) := by decide +kernel
theorem dX15_goBy_45 : decode cX15_goBy 45 = .ok (.iconst 3, 1) := by decide +kernel
theorem dX15_goBy_46 : decode cX15_goBy 46 = .ok (.aload_n 0, 1) := by decide +kernel
theorem dX15_goBy_47 : decode cX15_goBy 47 = .ok (.getfield 18, 3) := by decide +kernel
theorem dX15_goBy_50 : decode cX15_goBy 50 = .ok (.iload_n 3, 1) := by decide +kernel
theorem dX15_goBy_51 : decode cX15_goBy 51 = .ok (.aaload, 1) := by decide +kernel
theorem dX15_goBy_52 : decode cX15_goBy 52 = .ok (.iconst 3, 1) := by decide +kernel
theorem dX15_goBy_53 : decode cX15_goBy 53 = .ok (.iaload, 1) := by decide +kernel
theorem dX15_goBy_54 : decode cX15_goBy 54 = .ok (.iload_n 1, 1) := by decide +kernel
theorem dX15_goBy_55 : decode cX15_goBy 55 = .ok (.iconst 2, 1) := by decide +kernel
theorem dX15_goBy_56 : decode cX15_goBy 56 = .ok (.idiv, 1) := by decide +kernel
theorem dX15_goBy_57 : decode cX15_goBy 57 = .ok (.isub, 1) := by decide +kernel
theorem dX15_goBy_58 : decode cX15_goBy 58 = .ok (.bipush 20, 2) := by decide +kernel
theorem dX15_goBy_60 : decode cX15_goBy 60 = .ok (.if_icmp .ge 8, 3) := by decide +kernel
theorem dX15_goBy_63 : decode cX15_goBy 63 = .ok (.bipush 20, 2) := by decide +kernel
theorem dX15_goBy_65 : decode cX15_goBy 65 = .ok (.goto 15, 3) := by decide +kernel
theorem dX15_goBy_68 : decode cX15_goBy 68 = .ok (.aload_n 0, 1) := by decide +kernel
theorem dX15_goBy_69 : decode cX15_goBy 69 = .ok (.getfield 18, 3) := by decide +kernel
theorem dX15_goBy_72 : decode cX15_goBy 72 = .ok (.iload_n 3, 1) := by decide +kernel
theorem dX15_goBy_73 : decode cX15_goBy 73 = .ok (.aaload, 1) := by decide +kernel
theorem dX15_goBy_74 : decode cX15_goBy 74 = .ok (.iconst 3, 1) := by decide +kernel
theorem dX15_goBy_75 : decode cX15_goBy 75 = .ok (.iaload, 1) := by decide +kernel
theorem dX15_goBy_76 : decode cX15_goBy 76 = .ok (.iload_n 1, 1) := by decide +kernel
theorem dX15_goBy_77 : decode cX15_goBy 77 = .ok (.iconst 2, 1) := by decide +kernel
theorem dX15_goBy_78 : decode cX15_goBy 78 = .ok (.idiv, 1) := by decide +kernel
theorem dX15_goBy_79 : decode cX15_goBy 79 = .ok (.isub, 1) := by decide +kernel
theorem dX15_goBy_80 : decode cX15_goBy 80 = .ok (.iastore, 1) := by decide +kernel
theorem dX15_goBy_81 : decode cX15_goBy 81 = .ok (.iinc 3 1, 3) := by decide +kernel
theorem dX15_goBy_84 : decode cX15_goBy 84 = .ok (.goto (-72), 3) := by decide +kernel
theorem dX15_goBy_87 : decode cX15_goBy 87 = .ok (.return_, 1) := by decide +kernel
set_option maxRecDepth 20000 in
theorem ggX15_warn_X15_ahead : GoodIn wsX15_warn wsX15_ahead := goodIn_r _ [8, 9] (by decide +kernel) (by decide +kernel)
set_option maxRecDepth 20000 in
theorem gX15_warn_X15_ahead : GoodIn wsX15_warn (va_wsS RX15 65 yX15_ahead wsX15_ahead) := goodIn_app (goodIn_of _ (by decide +kernel)) ggX15_warn_X15_ahead
theorem dX15_warn_0 : decode cX15_warn 0 = .ok (.aload_n 0, 1) := by decide +kernel
theorem dX15_warn_1 : decode cX15_warn 1 = .ok (.getfield 59, 3) := by decide +kernel
theorem dX15_warn_4 : decode cX15_warn 4 = .ok (.ifCond .ge 11, 3) := by decide +kernel
theorem dX15_warn_7 : decode cX15_warn 7 = .ok (.aload_n 0, 1) := by decide +kernel
theorem dX15_warn_8 : decode cX15_warn 8 = .ok (.aload_n 0, 1) := by decide +kernel
theorem dX15_warn_9 : decode cX15_warn 9 = .ok (.getfield 62, 3) := by decide +kernel
theorem dX15_warn_12 : decode cX15_warn 12 = .ok (.putfield 59, 3) := by decide +kernel
theorem dX15_warn_15 : decode cX15_warn 15 = .ok (.aload_n 0, 1) := by decide +kernel
theorem dX15_warn_16 : decode cX15_warn 16 = .ok (.getfield 28, 3) := by decide +kernel
theorem dX15_warn_19 : decode cX15_warn 19 = .ok (.iload_n 1, 1) := by decide +kernel
theorem dX15_warn_20 : decode cX15_warn 20 = .ok (.dup2, 1) := by decide +kernel
theorem dX15_warn_21 : decode cX15_warn 21 = .ok (.iaload, 1) := by decide +kernel
theorem dX15_warn_22 : decode cX15_warn 22 = .ok (.iconst 1, 1) := by decide +kernel
theorem dX15_warn_23 : decode cX15_warn 23 = .ok (.iadd, 1) := by decide +kernel
theorem dX15_warn_24 : decode cX15_warn 24 = .ok (.iastore, 1) := by decide +kernel
theorem dX15_warn_25 : decode cX15_warn 25 = .ok (.aload_n 0, 1) := by decide +kernel
theorem dX15_warn_26 : decode cX15_warn 26 = .ok (.aload_n 0, 1) := by decide +kernel
theorem dX15_warn_27 : decode cX15_warn 27 = .ok (.getfield 31, 3) := by decide +kernel
theorem dX15_warn_30 : decode cX15_warn 30 = .ok (.iload_n 1, 1) := by decide +kernel
theorem dX15_warn_31 : decode cX15_warn 31 = .ok (.invokestatic 65, 3) := by decide +kernel
theorem dX15_warn_34 : decode cX15_warn 34 = .ok (.putfield 31, 3) := by decide +kernel
theorem dX15_warn_37 : decode cX15_warn 37 = .ok (.return_, 1) := by decide +kernel
theorem dX15_warnings_0 : decode cX15_warnings 0 = .ok (.iconst 0, 1) := by decide +kernel
theorem dX15_warnings_1 : decode cX15_warnings 1 = .ok (.istore_n 1, 1) := by decide +kernel
theorem dX15_warnings_2 : decode cX15_warnings 2 = .ok (.aload_n 0, 1) := by decide +kernel
theorem dX15_warnings_3 : decode cX15_warnings 3 = .ok (.getfield 28, 3) := by decide +kernel
theorem dX15_warnings_6 : decode cX15_warnings 6 = .ok (.astore_n 2, 1) := by decide +kernel
theorem dX15_warnings_7 : decode cX15_warnings 7 = .ok (.aload_n 2, 1) := by decide +kernel
theorem dX15_warnings_8 : decode cX15_warnings 8 = .ok (.arraylength, 1) := by decide +kernel
theorem dX15_warnings_9 : decode cX15_warnings 9 = .ok (.istore_n 3, 1) := by decide +kernel
theorem dX15_warnings_10 : decode cX15_warnings 10 = .ok (.iconst 0, 1) := by decide +kernel
theorem dX15_warnings_11 : decode cX15_warnings 11 = .ok (.istore 4, 2) := by decide +kernel
theorem dX15_warnings_13 : decode cX15_warnings 13 = .ok (.iload 4, 2) := by decide +kernel
theorem dX15_warnings_15 : decode cX15_warnings 15 = .ok (.iload_n 3, 1) := by decide +kernel
theorem dX15_warnings_16 : decode cX15_warnings 16 = .ok (.if_icmp .ge 20, 3) := by decide +kernel
theorem dX15_warnings_19 : decode cX15_warnings 19 = .ok (.aload_n 2, 1) := by decide +kernel
theorem dX15_warnings_20 : decode cX15_warnings 20 = .ok (.iload 4, 2) := by decide +kernel
theorem dX15_warnings_22 : decode cX15_warnings 22 = .ok (.iaload, 1) := by decide +kernel
theorem dX15_warnings_23 : decode cX15_warnings 23 = .ok (.istore 5, 2) := by decide +kernel
theorem dX15_warnings_25 : decode cX15_warnings 25 = .ok (.iload_n 1, 1) := by decide +kernel
theorem dX15_warnings_26 : decode cX15_warnings 26 = .ok (.iload 5, 2) := by decide +kernel
theorem dX15_warnings_28 : decode cX15_warnings 28 = .ok (.iadd, 1) := by decide +kernel
theorem dX15_warnings_29 : decode cX15_warnings 29 = .ok (.istore_n 1, 1) := by decide +kernel
theorem dX15_warnings_30 : decode cX15_warnings 30 = .ok (.iinc 4 1, 3) := by decide +kernel
theorem dX15_warnings_33 : decode cX15_warnings 33 = .ok (.goto (-20), 3) := by decide +kernel
theorem dX15_warnings_36 : decode cX15_warnings 36 = .ok (.iload_n 1, 1) := by decide +kernel
theorem dX15_warnings_37 : decode cX15_warnings 37 = .ok (.ireturn, 1) := by decide +kernel
set_option maxRecDepth 20000 in
theorem ggX15_climb_X15_boiling : GoodIn wsX15_climb wsX15_boiling := goodIn_r _ [7, 1, 8, 9, 10, 11, 12, 13, 14, 15, 16, 17, 18, 19] (by decide +kernel) (by decide +kernel)
set_option maxRecDepth 20000 in
theorem gX15_climb_X15_boiling : GoodIn wsX15_climb (wsV RX15 69 RX15 yX15_boiling wsX15_boiling) := goodIn_app (goodIn_of _ (by decide +kernel)) ggX15_climb_X15_boiling
theorem dX15_climb_0 : decode cX15_climb 0 = .ok (.aload_n 0, 1) := by decide +kernel
theorem dX15_climb_1 : decode cX15_climb 1 = .ok (.iload_n 1, 1) := by decide +kernel
theorem dX15_climb_2 : decode cX15_climb 2 = .ok (.putfield 38, 3) := by decide +kernel
theorem dX15_climb_5 : decode cX15_climb 5 = .ok (.aload_n 0, 1) := by decide +kernel
theorem dX15_climb_6 : decode cX15_climb 6 = .ok (.getfield 18, 3) := by decide +kernel
theorem dX15_climb_9 : decode cX15_climb 9 = .ok (.astore_n 2, 1) := by decide +kernel
theorem dX15_climb_10 : decode cX15_climb 10 = .ok (.aload_n 2, 1) := by decide +kernel
theorem dX15_climb_11 : decode cX15_climb 11 = .ok (.arraylength, 1) := by decide +kernel
theorem dX15_climb_12 : decode cX15_climb 12 = .ok (.istore_n 3, 1) := by decide +kernel
theorem dX15_climb_13 : decode cX15_climb 13 = .ok (.iconst 0, 1) := by decide +kernel
theorem dX15_climb_14 : decode cX15_climb 14 = .ok (.istore 4, 2) := by decide +kernel
theorem dX15_climb_16 : decode cX15_climb 16 = .ok (.iload 4, 2) := by decide +kernel
theorem dX15_climb_18 : decode cX15_climb 18 = .ok (.iload_n 3, 1) := by decide +kernel
theorem dX15_climb_19 : decode cX15_climb 19 = .ok (.if_icmp .ge 41, 3) := by decide +kernel
theorem dX15_climb_22 : decode cX15_climb 22 = .ok (.aload_n 2, 1) := by decide +kernel
theorem dX15_climb_23 : decode cX15_climb 23 = .ok (.iload 4, 2) := by decide +kernel
theorem dX15_climb_25 : decode cX15_climb 25 = .ok (.aaload, 1) := by decide +kernel
theorem dX15_climb_26 : decode cX15_climb 26 = .ok (.astore 5, 2) := by decide +kernel
theorem dX15_climb_28 : decode cX15_climb 28 = .ok (.aload 5, 2) := by decide +kernel
theorem dX15_climb_30 : decode cX15_climb 30 = .ok (.iconst 1, 1) := by decide +kernel
theorem dX15_climb_31 : decode cX15_climb 31 = .ok (.iaload, 1) := by decide +kernel
theorem dX15_climb_32 : decode cX15_climb 32 = .ok (.ifCond .le 22, 3) := by decide +kernel
theorem dX15_climb_35 : decode cX15_climb 35 = .ok (.aload 5, 2) := by decide +kernel
theorem dX15_climb_37 : decode cX15_climb 37 = .ok (.iconst 3, 1) := by decide +kernel
theorem dX15_climb_38 : decode cX15_climb 38 = .ok (.iaload, 1) := by decide +kernel
theorem dX15_climb_39 : decode cX15_climb 39 = .ok (.aload_n 0, 1) := by decide +kernel
theorem dX15_climb_40 : decode cX15_climb 40 = .ok (.invokevirtual 69, 3) := by decide +kernel
theorem dX15_climb_43 : decode cX15_climb 43 = .ok (.if_icmp .le 11, 3) := by decide +kernel
theorem dX15_climb_46 : decode cX15_climb 46 = .ok (.aload 5, 2) := by decide +kernel
theorem dX15_climb_48 : decode cX15_climb 48 = .ok (.iconst 3, 1) := by decide +kernel
theorem dX15_climb_49 : decode cX15_climb 49 = .ok (.aload_n 0, 1) := by decide +kernel
theorem dX15_climb_50 : decode cX15_climb 50 = .ok (.invokevirtual 69, 3) := by decide +kernel
theorem dX15_climb_53 : decode cX15_climb 53 = .ok (.iastore, 1) := by decide +kernel
theorem dX15_climb_54 : decode cX15_climb 54 = .ok (.iinc 4 1, 3) := by decide +kernel
theorem dX15_climb_57 : decode cX15_climb 57 = .ok (.goto (-41), 3) := by decide +kernel
theorem dX15_climb_60 : decode cX15_climb 60 = .ok (.return_, 1) := by decide +kernel
set_option maxRecDepth 20000 in
theorem pgX15_run_X15_carryOut_0 : GoodIn wsX15_run (Cond.code yX15_carryOut cX15_carryOut 7 none :: wsX15_carryOut_r1) := goodIn_r _ [6, 7, 8, 9, 10, 11, 12, 13, 14, 1, 15, 16, 17, 18, 19, 20, 21, 22, 23, 24, 25, 26, 27, 28, 29] (by decide +kernel) (by decide +kernel)
set_option maxRecDepth 20000 in
theorem pgX15_run_X15_carryOut_1 : GoodIn wsX15_run wsX15_carryOut_r2 := goodIn_r _ [30, 31, 32, 33, 34, 5, 35, 36, 37, 38, 39, 40, 41, 42, 43, 44, 45, 46, 47, 48, 49, 50, 51, 52] (by decide +kernel) (by decide +kernel)
set_option maxRecDepth 20000 in
theorem pgX15_run_X15_carryOut_2 : GoodIn wsX15_run wsX15_carryOut_r3 := goodIn_r _ [53, 54, 55, 56, 57, 58, 59, 60, 61, 62, 63, 64, 65, 66, 67, 68, 69, 70, 71, 72, 73, 74, 75, 76] (by decide +kernel) (by decide +kernel)
set_option maxRecDepth 20000 in
theorem pgX15_run_X15_carryOut_3 : GoodIn wsX15_run wsX15_carryOut_r4 := goodIn_r _ [77, 78, 79, 80, 81, 82, 83, 84, 85, 86, 87, 88, 89, 0, 2, 3, 4] (by decide +kernel) (by decide +kernel)
set_option maxRecDepth 20000 in
theorem pgX15_run_X15_carryOut_4 : GoodIn wsX15_run wsX130 := goodIn_r _ [90, 91, 92, 93, 94, 95, 96, 97] (by decide +kernel) (by decide +kernel)
set_option maxRecDepth 20000 in
theorem pgX15_run_X15_carryOut_5 : GoodIn wsX15_run wsX150 := goodIn_r _ [98, 99, 100, 101, 102, 103, 104, 105, 106, 107, 108, 109] (by decide +kernel) (by decide +kernel)
set_option maxRecDepth 20000 in
theorem pgX15_run_X15_carryOut_6 : GoodIn wsX15_run wsX160 := goodIn_r _ [110, 111, 112, 113] (by decide +kernel) (by decide +kernel)
set_option maxRecDepth 20000 in
theorem ggX15_run_X15_carryOut : GoodIn wsX15_run wsX15_carryOut := goodIn_ca (goodIn_ca (goodIn_ca (goodIn_ca pgX15_run_X15_carryOut_0 (goodIn_app pgX15_run_X15_carryOut_1 (goodIn_app pgX15_run_X15_carryOut_2 (pgX15_run_X15_carryOut_3)))) pgX15_run_X15_carryOut_4) pgX15_run_X15_carryOut_5) pgX15_run_X15_carryOut_6
set_option maxRecDepth 20000 in
theorem gX15_run_X15_carryOut : GoodIn wsX15_run (wsV RX15 73 RX15 yX15_carryOut wsX15_carryOut) := goodIn_app (goodIn_of _ (by decide +kernel)) ggX15_run_X15_carryOut
theorem dX15_run_0 : decode cX15_run 0 = .ok (.aload_n 1, 1) := by decide +kernel
theorem dX15_run_1 : decode cX15_run 1 = .ok (.astore_n 2, 1) := by decide +kernel
theorem dX15_run_2 : decode cX15_run 2 = .ok (.aload_n 2, 1) := by decide +kernel
theorem dX15_run_3 : decode cX15_run 3 = .ok (.arraylength, 1) := by decide +kernel
theorem dX15_run_4 : decode cX15_run 4 = .ok (.istore_n 3, 1) := by decide +kernel
theorem dX15_run_5 : decode cX15_run 5 = .ok (.iconst 0, 1) := by decide +kernel
theorem dX15_run_6 : decode cX15_run 6 = .ok (.istore 4, 2) := by decide +kernel
theorem dX15_run_8 : decode cX15_run 8 = .ok (.iload 4, 2) := by decide +kernel
theorem dX15_run_10 : decode cX15_run 10 = .ok (.iload_n 3, 1) := by decide +kernel
theorem dX15_run_11 : decode cX15_run 11 = .ok (.if_icmp .ge 41, 3) := by decide +kernel
theorem dX15_run_14 : decode cX15_run 14 = .ok (.aload_n 2, 1) := by decide +kernel
theorem dX15_run_15 : decode cX15_run 15 = .ok (.iload 4, 2) := by decide +kernel
theorem dX15_run_17 : decode cX15_run 17 = .ok (.aaload, 1) := by decide +kernel
theorem dX15_run_18 : decode cX15_run 18 = .ok (.astore 5, 2) := by decide +kernel
theorem dX15_run_20 : decode cX15_run 20 = .ok (.aload_n 0, 1) := by decide +kernel
theorem dX15_run_21 : decode cX15_run 21 = .ok (.getfield 62, 3) := by decide +kernel
theorem dX15_run_24 : decode cX15_run 24 = .ok (.bipush 100, 2) := by decide +kernel
theorem dX15_run_26 : decode cX15_run 26 = .ok (.if_icmp .ne 4, 3) := by decide +kernel
theorem dX15_run_29 : decode cX15_run 29 = .ok (.return_, 1) := by decide +kernel
theorem dX15_run_30 : decode cX15_run 30 = .ok (.aload_n 0, 1) := by decide +kernel
theorem dX15_run_31 : decode cX15_run 31 = .ok (.dup, 1) := by decide +kernel
theorem dX15_run_32 : decode cX15_run 32 = .ok (.getfield 62, 3) := by decide +kernel
theorem dX15_run_35 : decode cX15_run 35 = .ok (.iconst 1, 1) := by decide +kernel
theorem dX15_run_36 : decode cX15_run 36 = .ok (.iadd, 1) := by decide +kernel
theorem dX15_run_37 : decode cX15_run 37 = .ok (.putfield 62, 3) := by decide +kernel
theorem dX15_run_40 : decode cX15_run 40 = .ok (.aload_n 0, 1) := by decide +kernel
theorem dX15_run_41 : decode cX15_run 41 = .ok (.aload 5, 2) := by decide +kernel
theorem dX15_run_43 : decode cX15_run 43 = .ok (.invokevirtual 73, 3) := by decide +kernel
theorem dX15_run_46 : decode cX15_run 46 = .ok (.iinc 4 1, 3) := by decide +kernel
theorem dX15_run_49 : decode cX15_run 49 = .ok (.goto (-41), 3) := by decide +kernel
theorem dX15_run_52 : decode cX15_run 52 = .ok (.return_, 1) := by decide +kernel
set_option maxRecDepth 20000 in
theorem pgX15_cook_X15_run_0 : GoodIn wsX15_cook (Cond.code yX15_run cX15_run 6 none :: wsX15_run_r1) := goodIn_r _ [9, 2, 10, 11, 12, 8, 13, 14, 15, 16, 17, 18, 19, 20, 4, 21, 22, 23, 24, 25, 26, 27, 28, 29, 30] (by decide +kernel) (by decide +kernel)
set_option maxRecDepth 20000 in
theorem pgX15_cook_X15_run_1 : GoodIn wsX15_cook wsX15_run_r2 := goodIn_r _ [31, 32, 33, 34, 35, 36, 37, 38, 39, 40, 41, 42, 43, 44, 45, 46, 47, 48, 49, 50, 51, 52, 53, 54] (by decide +kernel) (by decide +kernel)
set_option maxRecDepth 20000 in
theorem pgX15_cook_X15_run_2 : GoodIn wsX15_cook wsX15_run_r3 := goodIn_r _ [55, 56, 57, 58, 59, 60, 61, 62, 63, 64, 3, 65, 66, 67, 68, 69, 70, 71, 72, 73, 1, 74, 75, 76] (by decide +kernel) (by decide +kernel)
set_option maxRecDepth 20000 in
theorem pgX15_cook_X15_run_3 : GoodIn wsX15_cook wsX15_run_r4 := goodIn_r _ [77, 78, 79, 80, 81, 5, 6, 7, 82, 83, 84, 85, 86, 87, 88, 89, 90] (by decide +kernel) (by decide +kernel)
set_option maxRecDepth 20000 in
theorem pgX15_cook_X15_run_4 : GoodIn wsX15_cook wsX130 := goodIn_r _ [103, 104, 105, 106, 107, 108, 109, 110] (by decide +kernel) (by decide +kernel)
set_option maxRecDepth 20000 in
theorem pgX15_cook_X15_run_5 : GoodIn wsX15_cook wsX150 := goodIn_r _ [91, 92, 93, 94, 95, 96, 97, 98, 99, 100, 101, 102] (by decide +kernel) (by decide +kernel)
set_option maxRecDepth 20000 in
theorem pgX15_cook_X15_run_6 : GoodIn wsX15_cook wsX160 := goodIn_r _ [111, 112, 113, 114] (by decide +kernel) (by decide +kernel)
set_option maxRecDepth 20000 in
theorem ggX15_cook_X15_run : GoodIn wsX15_cook wsX15_run := goodIn_ca (goodIn_ca (goodIn_ca (goodIn_ca pgX15_cook_X15_run_0 (goodIn_app pgX15_cook_X15_run_1 (goodIn_app pgX15_cook_X15_run_2 (pgX15_cook_X15_run_3)))) pgX15_cook_X15_run_4) pgX15_cook_X15_run_5) pgX15_cook_X15_run_6
set_option maxRecDepth 20000 in
theorem gX15_cook_X15_run : GoodIn wsX15_cook (wsV RX15 77 RX15 yX15_run wsX15_run) := goodIn_app (goodIn_of _ (by decide +kernel)) ggX15_cook_X15_run
theorem dX15_cook_0 : decode cX15_cook 0 = .ok (.aload_n 0, 1) := by decide +kernel
theorem dX15_cook_1 : decode cX15_cook 1 = .ok (.getfield 41, 3) := by decide +kernel
theorem dX15_cook_4 : decode cX15_cook 4 = .ok (.istore_n 2, 1) := by decide +kernel
theorem dX15_cook_5 : decode cX15_cook 5 = .ok (.aload_n 0, 1) := by decide +kernel
theorem dX15_cook_6 : decode cX15_cook 6 = .ok (.iconst 0, 1) := by decide +kernel
theorem dX15_cook_7 : decode cX15_cook 7 = .ok (.putfield 62, 3) := by decide +kernel
theorem dX15_cook_10 : decode cX15_cook 10 = .ok (.aload_n 0, 1) := by decide +kernel
theorem dX15_cook_11 : decode cX15_cook 11 = .ok (.iconst (-1), 1) := by decide +kernel
theorem dX15_cook_12 : decode cX15_cook 12 = .ok (.putfield 59, 3) := by decide +kernel
theorem dX15_cook_15 : decode cX15_cook 15 = .ok (.aload_n 0, 1) := by decide +kernel
theorem dX15_cook_16 : decode cX15_cook 16 = .ok (.aload_n 0, 1) := by decide +kernel
theorem dX15_cook_17 : decode cX15_cook 17 = .ok (.getfield 24, 3) := by decide +kernel
theorem dX15_cook_20 : decode cX15_cook 20 = .ok (.iload_n 1, 1) := by decide +kernel
theorem dX15_cook_21 : decode cX15_cook 21 = .ok (.aaload, 1) := by decide +kernel
theorem dX15_cook_22 : decode cX15_cook 22 = .ok (.invokevirtual 77, 3) := by decide +kernel
theorem dX15_cook_25 : decode cX15_cook 25 = .ok (.aload_n 0, 1) := by decide +kernel
theorem dX15_cook_26 : decode cX15_cook 26 = .ok (.getfield 41, 3) := by decide +kernel
theorem dX15_cook_29 : decode cX15_cook 29 = .ok (.iload_n 2, 1) := by decide +kernel
theorem dX15_cook_30 : decode cX15_cook 30 = .ok (.isub, 1) := by decide +kernel
theorem dX15_cook_31 : decode cX15_cook 31 = .ok (.ireturn, 1) := by decide +kernel
set_option maxRecDepth 20000 in
theorem ggX15_carryOut_X16_value : GoodIn wsX15_carryOut wsX16_value := goodIn_r _ [16, 17, 18, 19, 20, 21, 22, 23, 24, 25, 26, 13, 14, 15, 27, 28, 29, 30, 31, 32, 33, 34, 35, 36, 2, 110, 111, 112, 113, 98, 99, 100, 101, 102, 103, 104, 105, 106, 107, 108, 109] (by decide +kernel) (by decide +kernel)
set_option maxRecDepth 20000 in
theorem gX15_carryOut_X16_value : GoodIn wsX15_carryOut (wsV RX15 93 RX16 yX16_value wsX16_value) := goodIn_app (goodIn_of _ (by decide +kernel)) ggX15_carryOut_X16_value
set_option maxRecDepth 20000 in
theorem ggX15_carryOut_X15_amount : GoodIn wsX15_carryOut wsX15_amount := goodIn_r _ [40, 41, 42, 43, 44, 30, 45, 98, 99, 100, 101, 102, 103, 104, 105, 106, 107, 108, 109] (by decide +kernel) (by decide +kernel)
set_option maxRecDepth 20000 in
theorem gX15_carryOut_X15_amount : GoodIn wsX15_carryOut (wsV RX15 98 RX15 yX15_amount wsX15_amount) := goodIn_app (goodIn_of _ (by decide +kernel)) ggX15_carryOut_X15_amount
set_option maxRecDepth 20000 in
theorem ggX15_carryOut_X15_pour : GoodIn wsX15_carryOut wsX15_pour := goodIn_r _ [49, 2, 50, 34, 35, 30, 36, 98, 99, 100, 101, 102, 103, 104, 105, 106, 107, 108, 109] (by decide +kernel) (by decide +kernel)
set_option maxRecDepth 20000 in
theorem gX15_carryOut_X15_pour : GoodIn wsX15_carryOut (wsV RX15 101 RX15 yX15_pour wsX15_pour) := goodIn_app (goodIn_of _ (by decide +kernel)) ggX15_carryOut_X15_pour
set_option maxRecDepth 20000 in
theorem ggX15_carryOut_X15_warn : GoodIn wsX15_carryOut wsX15_warn := goodIn_r _ [54, 55, 9, 56, 57, 58, 59, 30, 60, 5, 98, 99, 100, 101, 102, 103, 104, 105, 106, 107, 108, 109] (by decide +kernel) (by decide +kernel)
set_option maxRecDepth 20000 in
theorem gX15_carryOut_X15_warn : GoodIn wsX15_carryOut (wsV RX15 105 RX15 yX15_warn wsX15_warn) := goodIn_app (goodIn_of _ (by decide +kernel)) ggX15_carryOut_X15_warn
set_option maxRecDepth 20000 in
theorem ggX15_carryOut_X15_goBy : GoodIn wsX15_carryOut wsX15_goBy := goodIn_r _ [64, 65, 2, 98, 99, 100, 101, 102, 103, 104, 105, 106, 107, 108, 109] (by decide +kernel) (by decide +kernel)
set_option maxRecDepth 20000 in
theorem gX15_carryOut_X15_goBy : GoodIn wsX15_carryOut (wsV RX15 109 RX15 yX15_goBy wsX15_goBy) := goodIn_app (goodIn_of _ (by decide +kernel)) ggX15_carryOut_X15_goBy
set_option maxRecDepth 20000 in
theorem ggX15_carryOut_X15_boiling : GoodIn wsX15_carryOut wsX15_boiling := goodIn_r _ [31, 32, 98, 99, 100, 101, 102, 103, 104, 105, 106, 107, 108, 109] (by decide +kernel) (by decide +kernel)
set_option maxRecDepth 20000 in
theorem gX15_carryOut_X15_boiling : GoodIn wsX15_carryOut (wsV RX15 69 RX15 yX15_boiling wsX15_boiling) := goodIn_app (goodIn_of _ (by decide +kernel)) ggX15_carryOut_X15_boiling
set_option maxRecDepth 20000 in
theorem ggX15_carryOut_X15_boil : GoodIn wsX15_carryOut wsX15_boil := goodIn_r _ [70, 2, 32, 66, 28, 29, 30, 31, 51, 52, 53, 54, 55, 9, 56, 57, 58, 59, 60, 5, 43, 44, 45, 71, 72, 73, 61, 62, 63, 64, 65, 98, 99, 100, 101, 102, 103, 104, 105, 106, 107, 108, 109] (by decide +kernel) (by decide +kernel)
set_option maxRecDepth 20000 in
theorem gX15_carryOut_X15_boil : GoodIn wsX15_carryOut (wsV RX15 113 RX15 yX15_boil wsX15_boil) := goodIn_app (goodIn_of _ (by decide +kernel)) ggX15_carryOut_X15_boil
set_option maxRecDepth 20000 in
theorem ggX15_carryOut_X15_held : GoodIn wsX15_carryOut wsX15_held := goodIn_r _ [45] (by decide +kernel) (by decide +kernel)
set_option maxRecDepth 20000 in
theorem gX15_carryOut_X15_held : GoodIn wsX15_carryOut (va_wsS RX15 51 yX15_held wsX15_held) := goodIn_app (goodIn_of _ (by decide +kernel)) ggX15_carryOut_X15_held
set_option maxRecDepth 20000 in
theorem ggX15_carryOut_X15_ahead : GoodIn wsX15_carryOut wsX15_ahead := goodIn_r _ [60, 5] (by decide +kernel) (by decide +kernel)
set_option maxRecDepth 20000 in
theorem gX15_carryOut_X15_ahead : GoodIn wsX15_carryOut (va_wsS RX15 65 yX15_ahead wsX15_ahead) := goodIn_app (goodIn_of _ (by decide +kernel)) ggX15_carryOut_X15_ahead
set_option maxRecDepth 20000 in
theorem pgX15_carryOut_X15_run_0 : GoodIn wsX15_carryOut (Cond.code yX15_run cX15_run 6 none :: wsX15_run_r1) := goodIn_r _ [86, 9, 87, 88, 89, 30, 0, 1, 2, 3, 4, 5, 6, 7, 8, 10, 11, 12, 13, 14, 15, 16, 17, 18, 19] (by decide +kernel) (by decide +kernel)
set_option maxRecDepth 20000 in
theorem pgX15_carryOut_X15_run_1 : GoodIn wsX15_carryOut wsX15_run_r2 := goodIn_r _ [20, 21, 22, 23, 24, 25, 26, 27, 28, 29, 31, 32, 33, 34, 35, 36, 37, 38, 39, 40, 41, 42, 43, 44] (by decide +kernel) (by decide +kernel)
set_option maxRecDepth 20000 in
theorem pgX15_carryOut_X15_run_2 : GoodIn wsX15_carryOut wsX15_run_r3 := goodIn_r _ [45, 46, 47, 48, 49, 50, 51, 52, 53, 54, 55, 56, 57, 58, 59, 60, 61, 62, 63, 64, 65, 66, 67, 68] (by decide +kernel) (by decide +kernel)
set_option maxRecDepth 20000 in
theorem pgX15_carryOut_X15_run_3 : GoodIn wsX15_carryOut wsX15_run_r4 := goodIn_r _ [69, 70, 71, 72, 73, 74, 75, 76, 77, 78, 79, 80, 81, 82, 83, 84, 85] (by decide +kernel) (by decide +kernel)
set_option maxRecDepth 20000 in
theorem pgX15_carryOut_X15_run_4 : GoodIn wsX15_carryOut wsX130 := goodIn_r _ [90, 91, 92, 93, 94, 95, 96, 97] (by decide +kernel) (by decide +kernel)
set_option maxRecDepth 20000 in
theorem pgX15_carryOut_X15_run_5 : GoodIn wsX15_carryOut wsX150 := goodIn_r _ [98, 99, 100, 101, 102, 103, 104, 105, 106, 107, 108, 109] (by decide +kernel) (by decide +kernel)
set_option maxRecDepth 20000 in
theorem pgX15_carryOut_X15_run_6 : GoodIn wsX15_carryOut wsX160 := goodIn_r _ [110, 111, 112, 113] (by decide +kernel) (by decide +kernel)
set_option maxRecDepth 20000 in
theorem ggX15_carryOut_X15_run : GoodIn wsX15_carryOut wsX15_run := goodIn_ca (goodIn_ca (goodIn_ca (goodIn_ca pgX15_carryOut_X15_run_0 (goodIn_app pgX15_carryOut_X15_run_1 (goodIn_app pgX15_carryOut_X15_run_2 (pgX15_carryOut_X15_run_3)))) pgX15_carryOut_X15_run_4) pgX15_carryOut_X15_run_5) pgX15_carryOut_X15_run_6
set_option maxRecDepth 20000 in
theorem gX15_carryOut_X15_run : GoodIn wsX15_carryOut (wsV RX15 77 RX15 yX15_run wsX15_run) := goodIn_app (goodIn_of _ (by decide +kernel)) ggX15_carryOut_X15_run
set_option maxRecDepth 20000 in
theorem ggX15_carryOut_X13_isSo : GoodIn wsX15_carryOut wsX13_isSo := goodIn_r _ [81, 82, 83, 84, 85, 13, 14, 15, 16, 17, 18, 19, 20, 21, 22, 23, 24, 25, 26, 27, 28, 29, 30, 31, 32, 33, 34, 35, 36, 2, 90, 91, 92, 93, 94, 95, 96, 97, 110, 111, 112, 113, 98, 99, 100, 101, 102, 103, 104, 105, 106, 107, 108, 109] (by decide +kernel) (by decide +kernel)
set_option maxRecDepth 20000 in
theorem gX15_carryOut_X13_isSo : GoodIn wsX15_carryOut (wsV RX15 119 RX13 yX13_isSo wsX13_isSo) := goodIn_app (goodIn_of _ (by decide +kernel)) ggX15_carryOut_X13_isSo
theorem dX15_carryOut_0 : decode cX15_carryOut 0 = .ok (.aload_n 1, 1) := by decide +kernel
theorem dX15_carryOut_1 : decode cX15_carryOut 1 = .ok (.getfield 81, 3) := by decide +kernel
theorem dX15_carryOut_4 : decode cX15_carryOut 4 = .ok (.bipush 7, 2) := by decide +kernel
theorem dX15_carryOut_6 : decode cX15_carryOut 6 = .ok (.if_icmp .ne 7, 3) := by decide +kernel
theorem dX15_carryOut_9 : decode cX15_carryOut 9 = .ok (.aconst_null, 1) := by decide +kernel
theorem dX15_carryOut_10 : decode cX15_carryOut 10 = .ok (.goto 12, 3) := by decide +kernel
theorem dX15_carryOut_13 : decode cX15_carryOut 13 = .ok (.aload_n 0, 1) := by decide +kernel
theorem dX15_carryOut_14 : decode cX15_carryOut 14 = .ok (.getfield 18, 3) := by decide +kernel
theorem dX15_carryOut_17 : decode cX15_carryOut 17 = .ok (.aload_n 1, 1) := by decide +kernel
theorem dX15_carryOut_18 : decode cX15_carryOut 18 = .ok (.getfield 86, 3) := by decide +kernel
theorem dX15_carryOut_21 : decode cX15_carryOut 21 = .ok (.aaload, 1) := by decide +kernel
theorem dX15_carryOut_22 : decode cX15_carryOut 22 = .ok (.astore_n 2, 1) := by decide +kernel
theorem dX15_carryOut_23 : decode cX15_carryOut 23 = .ok (.aload_n 1, 1) := by decide +kernel
theorem dX15_carryOut_24 : decode cX15_carryOut 24 = .ok (.getfield 89, 3) := by decide +kernel
theorem dX15_carryOut_27 : decode cX15_carryOut 27 = .ok (.ifnonnull 7, 3) := by decide +kernel
theorem dX15_carryOut_30 : decode cX15_carryOut 30 = .ok (.iconst 0, 1) := by decide +kernel
theorem dX15_carryOut_31 : decode cX15_carryOut 31 = .ok (.goto 11, 3) := by decide +kernel
theorem dX15_carryOut_34 : decode cX15_carryOut 34 = .ok (.aload_n 1, 1) := by decide +kernel
theorem dX15_carryOut_35 : decode cX15_carryOut 35 = .ok (.getfield 89, 3) := by decide +kernel
theorem dX15_carryOut_38 : decode cX15_carryOut 38 = .ok (.aload_n 0, 1) := by decide +kernel
theorem dX15_carryOut_39 : decode cX15_carryOut 39 = .ok (.invokevirtual 93, 3) := by decide +kernel
theorem dX15_carryOut_42 : decode cX15_carryOut 42 = .ok (.istore_n 3, 1) := by decide +kernel
theorem dX15_carryOut_43 : decode cX15_carryOut 43 = .ok (.aload_n 1, 1) := by decide +kernel
theorem dX15_carryOut_44 : decode cX15_carryOut 44 = .ok (.getfield 81, 3) := by decide +kernel
theorem dX15_carryOut_47 : decode cX15_carryOut 47 = .ok (.tableswitch 361 0 8 #[49, 49, 101, 203, 215, 262, 277, 302, 318], 49) := by decide +kernel
theorem dX15_carryOut_96 : decode cX15_carryOut 96 = .ok (.aload_n 0, 1) := by decide +kernel
theorem dX15_carryOut_97 : decode cX15_carryOut 97 = .ok (.iload_n 3, 1) := by decide +kernel
theorem dX15_carryOut_98 : decode cX15_carryOut 98 = .ok (.invokevirtual 98, 3) := by decide +kernel
theorem dX15_carryOut_101 : decode cX15_carryOut 101 = .ok (.istore 4, 2) := by decide +kernel
theorem dX15_carryOut_103 : decode cX15_carryOut 103 = .ok (.aload_n 0, 1) := by decide +kernel
theorem dX15_carryOut_104 : decode cX15_carryOut 104 = .ok (.aload_n 1, 1) := by decide +kernel
theorem dX15_carryOut_105 : decode cX15_carryOut 105 = .ok (.getfield 86, 3) := by decide +kernel
theorem dX15_carryOut_108 : decode cX15_carryOut 108 = .ok (.aload_n 1, 1) := by decide +kernel
theorem dX15_carryOut_109 : decode cX15_carryOut 109 = .ok (.getfield 81, 3) := by decide +kernel
theorem dX15_carryOut_112 : decode cX15_carryOut 112 = .ok (.iconst 1, 1) := by decide +kernel
theorem dX15_carryOut_113 : decode cX15_carryOut 113 = .ok (.if_icmp .ne 7, 3) := by decide +kernel
theorem dX15_carryOut_116 : decode cX15_carryOut 116 = .ok (.iconst 1, 1) := by decide +kernel
theorem dX15_carryOut_117 : decode cX15_carryOut 117 = .ok (.goto 4, 3) := by decide +kernel
theorem dX15_carryOut_120 : decode cX15_carryOut 120 = .ok (.iconst 0, 1) := by decide +kernel
theorem dX15_carryOut_121 : decode cX15_carryOut 121 = .ok (.iload 4, 2) := by decide +kernel
theorem dX15_carryOut_123 : decode cX15_carryOut 123 = .ok (.invokevirtual 101, 3) := by decide +kernel
theorem dX15_carryOut_126 : decode cX15_carryOut 126 = .ok (.iload 4, 2) := by decide +kernel
theorem dX15_carryOut_128 : decode cX15_carryOut 128 = .ok (.if_icmp .eq 8, 3) := by decide +kernel
theorem dX15_carryOut_131 : decode cX15_carryOut 131 = .ok (.aload_n 0, 1) := by decide +kernel
theorem dX15_carryOut_132 : decode cX15_carryOut 132 = .ok (.iconst 1, 1) := by decide +kernel
theorem dX15_carryOut_133 : decode cX15_carryOut 133 = .ok (.invokevirtual 105, 3) := by decide +kernel
theorem dX15_carryOut_136 : decode cX15_carryOut 136 = .ok (.aload_n 0, 1) := by decide +kernel
theorem dX15_carryOut_137 : decode cX15_carryOut 137 = .ok (.iconst 1, 1) := by decide +kernel
theorem dX15_carryOut_138 : decode cX15_carryOut 138 = .ok (.aload_n 1, 1) := by decide +kernel
theorem dX15_carryOut_139 : decode cX15_carryOut 139 = .ok (.getfield 86, 3) := by decide +kernel
theorem dX15_carryOut_142 : decode cX15_carryOut 142 = .ok (.invokevirtual 109, 3) := by decide +kernel
theorem dX15_carryOut_145 : decode cX15_carryOut 145 = .ok (.goto 297, 3) := by decide +kernel
theorem dX15_carryOut_148 : decode cX15_carryOut 148 = .ok (.aload_n 2, 1) := by decide +kernel
theorem dX15_carryOut_149 : decode cX15_carryOut 149 = .ok (.iconst 1, 1) := by decide +kernel
theorem dX15_carryOut_150 : decode cX15_carryOut 150 = .ok (.iaload, 1) := by decide +kernel
theorem dX15_carryOut_151 : decode cX15_carryOut 151 = .ok (.aload_n 2, 1) := by decide +kernel
theorem dX15_carryOut_152 : decode cX15_carryOut 152 = .ok (.iconst 2, 1) := by decide +kernel
theorem dX15_carryOut_153 : decode cX15_carryOut 153 = .ok (.iaload, 1) := by decide +kernel
theorem dX15_carryOut_154 : decode cX15_carryOut 154 = .ok (.iadd, 1) := by decide +kernel
theorem dX15_carryOut_155 : decode cX15_carryOut 155 = .ok (.ifCond .ne 11, 3) := by decide +kernel
theorem dX15_carryOut_158 : decode cX15_carryOut 158 = .ok (.aload_n 0, 1) := by decide +kernel
theorem dX15_carryOut_159 : decode cX15_carryOut 159 = .ok (.iconst 3, 1) := by decide +kernel
theorem dX15_carryOut_160 : decode cX15_carryOut 160 = .ok (.invokevirtual 105, 3) := by decide +kernel
theorem dX15_carryOut_163 : decode cX15_carryOut 163 = .ok (.goto 279, 3) := by decide +kernel
theorem dX15_carryOut_166 : decode cX15_carryOut 166 = .ok (.iload_n 3, 1) := by decide +kernel
theorem dX15_carryOut_167 : decode cX15_carryOut 167 = .ok (.aload_n 0, 1) := by decide +kernel
theorem dX15_carryOut_168 : decode cX15_carryOut 168 = .ok (.invokevirtual 69, 3) := by decide +kernel
theorem dX15_carryOut_171 : decode cX15_carryOut 171 = .ok (.if_icmp .le 8, 3) := by decide +kernel
theorem dX15_carryOut_174 : decode cX15_carryOut 174 = .ok (.aload_n 0, 1) := by decide +kernel
theorem dX15_carryOut_175 : decode cX15_carryOut 175 = .ok (.iconst 2, 1) := by decide +kernel
theorem dX15_carryOut_176 : decode cX15_carryOut 176 = .ok (.invokevirtual 105, 3) := by decide +kernel
theorem dX15_carryOut_179 : decode cX15_carryOut 179 = .ok (.iload_n 3, 1) := by decide +kernel
theorem dX15_carryOut_180 : decode cX15_carryOut 180 = .ok (.aload_n 0, 1) := by decide +kernel
theorem dX15_carryOut_181 : decode cX15_carryOut 181 = .ok (.invokevirtual 69, 3) := by decide +kernel
theorem dX15_carryOut_184 : decode cX15_carryOut 184 = .ok (.if_icmp .le 10, 3) := by decide +kernel
theorem dX15_carryOut_187 : decode cX15_carryOut 187 = .ok (.aload_n 0, 1) := by decide +kernel
theorem dX15_carryOut_188 : decode cX15_carryOut 188 = .ok (.invokevirtual 69, 3) := by decide +kernel
theorem dX15_carryOut_191 : decode cX15_carryOut 191 = .ok (.goto 4, 3) := by decide +kernel
theorem dX15_carryOut_194 : decode cX15_carryOut 194 = .ok (.iload_n 3, 1) := by decide +kernel
theorem dX15_carryOut_195 : decode cX15_carryOut 195 = .ok (.istore 4, 2) := by decide +kernel
theorem dX15_carryOut_197 : decode cX15_carryOut 197 = .ok (.aload_n 2, 1) := by decide +kernel
theorem dX15_carryOut_198 : decode cX15_carryOut 198 = .ok (.iconst 3, 1) := by decide +kernel
theorem dX15_carryOut_199 : decode cX15_carryOut 199 = .ok (.iaload, 1) := by decide +kernel
theorem dX15_carryOut_200 : decode cX15_carryOut 200 = .ok (.iload 4, 2) := by decide +kernel
theorem dX15_carryOut_202 : decode cX15_carryOut 202 = .ok (.if_icmp .lt 6, 3) := by decide +kernel
theorem dX15_carryOut_205 : decode cX15_carryOut 205 = .ok (.goto 237, 3) := by decide +kernel
theorem dX15_carryOut_208 : decode cX15_carryOut 208 = .ok (.iconst 0, 1) := by decide +kernel
theorem dX15_carryOut_209 : decode cX15_carryOut 209 = .ok (.istore 5, 2) := by decide +kernel
theorem dX15_carryOut_211 : decode cX15_carryOut 211 = .ok (.aload_n 2, 1) := by decide +kernel
theorem dX15_carryOut_212 : decode cX15_carryOut 212 = .ok (.iconst 3, 1) := by decide +kernel
theorem dX15_carryOut_213 : decode cX15_carryOut 213 = .ok (.iaload, 1) := by decide +kernel
theorem dX15_carryOut_214 : decode cX15_carryOut 214 = .ok (.istore 6, 2) := by decide +kernel
theorem dX15_carryOut_216 : decode cX15_carryOut 216 = .ok (.iload 6, 2) := by decide +kernel
theorem dX15_carryOut_218 : decode cX15_carryOut 218 = .ok (.iload 4, 2) := by decide +kernel
theorem dX15_carryOut_220 : decode cX15_carryOut 220 = .ok (.if_icmp .ge 12, 3) := by decide +kernel
theorem dX15_carryOut_223 : decode cX15_carryOut 223 = .ok (.iinc 5 1, 3) := by decide +kernel
theorem dX15_carryOut_226 : decode cX15_carryOut 226 = .ok (.iinc 6 10, 3) := by decide +kernel
theorem dX15_carryOut_229 : decode cX15_carryOut 229 = .ok (.goto (-13), 3) := by decide +kernel
theorem dX15_carryOut_232 : decode cX15_carryOut 232 = .ok (.aload_n 2, 1) := by decide +kernel
theorem dX15_carryOut_233 : decode cX15_carryOut 233 = .ok (.iconst 3, 1) := by decide +kernel
theorem dX15_carryOut_234 : decode cX15_carryOut 234 = .ok (.iload 4, 2) := by decide +kernel
theorem dX15_carryOut_236 : decode cX15_carryOut 236 = .ok (.iastore, 1) := by decide +kernel
theorem dX15_carryOut_237 : decode cX15_carryOut 237 = .ok (.aload_n 0, 1) := by decide +kernel
theorem dX15_carryOut_238 : decode cX15_carryOut 238 = .ok (.iload 5, 2) := by decide +kernel
theorem dX15_carryOut_240 : decode cX15_carryOut 240 = .ok (.aload_n 1, 1) := by decide +kernel
theorem dX15_carryOut_241 : decode cX15_carryOut 241 = .ok (.getfield 86, 3) := by decide +kernel
theorem dX15_carryOut_244 : decode cX15_carryOut 244 = .ok (.invokevirtual 109, 3) := by decide +kernel
theorem dX15_carryOut_247 : decode cX15_carryOut 247 = .ok (.goto 195, 3) := by decide +kernel
theorem dX15_carryOut_250 : decode cX15_carryOut 250 = .ok (.aload_n 0, 1) := by decide +kernel
theorem dX15_carryOut_251 : decode cX15_carryOut 251 = .ok (.aload_n 1, 1) := by decide +kernel
theorem dX15_carryOut_252 : decode cX15_carryOut 252 = .ok (.getfield 86, 3) := by decide +kernel
theorem dX15_carryOut_255 : decode cX15_carryOut 255 = .ok (.iload_n 3, 1) := by decide +kernel
theorem dX15_carryOut_256 : decode cX15_carryOut 256 = .ok (.invokevirtual 113, 3) := by decide +kernel
theorem dX15_carryOut_259 : decode cX15_carryOut 259 = .ok (.goto 183, 3) := by decide +kernel
theorem dX15_carryOut_262 : decode cX15_carryOut 262 = .ok (.aload_n 0, 1) := by decide +kernel
theorem dX15_carryOut_263 : decode cX15_carryOut 263 = .ok (.getfield 18, 3) := by decide +kernel
theorem dX15_carryOut_266 : decode cX15_carryOut 266 = .ok (.aload_n 1, 1) := by decide +kernel
theorem dX15_carryOut_267 : decode cX15_carryOut 267 = .ok (.getfield 86, 3) := by decide +kernel
theorem dX15_carryOut_270 : decode cX15_carryOut 270 = .ok (.iconst 5, 1) := by decide +kernel
theorem dX15_carryOut_271 : decode cX15_carryOut 271 = .ok (.newarray .int, 2) := by decide +kernel
theorem dX15_carryOut_273 : decode cX15_carryOut 273 = .ok (.dup, 1) := by decide +kernel
theorem dX15_carryOut_274 : decode cX15_carryOut 274 = .ok (.iconst 0, 1) := by decide +kernel
theorem dX15_carryOut_275 : decode cX15_carryOut 275 = .ok (.aload_n 2, 1) := by decide +kernel
theorem dX15_carryOut_276 : decode cX15_carryOut 276 = .ok (.iconst 0, 1) := by decide +kernel
theorem dX15_carryOut_277 : decode cX15_carryOut 277 = .ok (.iaload, 1) := by decide +kernel
theorem dX15_carryOut_278 : decode cX15_carryOut 278 = .ok (.iastore, 1) := by decide +kernel
theorem dX15_carryOut_279 : decode cX15_carryOut 279 = .ok (.dup, 1) := by decide +kernel
theorem dX15_carryOut_280 : decode cX15_carryOut 280 = .ok (.iconst 1, 1) := by decide +kernel
theorem dX15_carryOut_281 : decode cX15_carryOut 281 = .ok (.iconst 0, 1) := by decide +kernel
theorem dX15_carryOut_282 : decode cX15_carryOut 282 = .ok (.iastore, 1) := by decide +kernel
theorem dX15_carryOut_283 : decode cX15_carryOut 283 = .ok (.dup, 1) := by decide +kernel
theorem dX15_carryOut_284 : decode cX15_carryOut 284 = .ok (.iconst 2, 1) := by decide +kernel
theorem dX15_carryOut_285 : decode cX15_carryOut 285 = .ok (.iconst 0, 1) := by decide +kernel
theorem dX15_carryOut_286 : decode cX15_carryOut 286 = .ok (.iastore, 1) := by decide +kernel
theorem dX15_carryOut_287 : decode cX15_carryOut 287 = .ok (.dup, 1) := by decide +kernel
theorem dX15_carryOut_288 : decode cX15_carryOut 288 = .ok (.iconst 3, 1) := by decide +kernel
theorem dX15_carryOut_289 : decode cX15_carryOut 289 = .ok (.bipush 20, 2) := by decide +kernel
theorem dX15_carryOut_291 : decode cX15_carryOut 291 = .ok (.iastore, 1) := by decide +kernel
theorem dX15_carryOut_292 : decode cX15_carryOut 292 = .ok (.dup, 1) := by decide +kernel
theorem dX15_carryOut_293 : decode cX15_carryOut 293 = .ok (.iconst 4, 1) := by decide +kernel
theorem dX15_carryOut_294 : decode cX15_carryOut 294 = .ok (.iconst 0, 1) := by decide +kernel
theorem dX15_carryOut_295 : decode cX15_carryOut 295 = .ok (.iastore, 1) := by decide +kernel
theorem dX15_carryOut_296 : decode cX15_carryOut 296 = .ok (.aastore, 1) := by decide +kernel
theorem dX15_carryOut_297 : decode cX15_carryOut 297 = .ok (.aload_n 0, 1) := by decide +kernel
theorem dX15_carryOut_298 : decode cX15_carryOut 298 = .ok (.iconst 1, 1) := by decide +kernel
theorem dX15_carryOut_299 : decode cX15_carryOut 299 = .ok (.aload_n 1, 1) := by decide +kernel
theorem dX15_carryOut_300 : decode cX15_carryOut 300 = .ok (.getfield 86, 3) := by decide +kernel
theorem dX15_carryOut_303 : decode cX15_carryOut 303 = .ok (.invokevirtual 109, 3) := by decide +kernel
theorem dX15_carryOut_306 : decode cX15_carryOut 306 = .ok (.goto 136, 3) := by decide +kernel
theorem dX15_carryOut_309 : decode cX15_carryOut 309 = .ok (.aload_n 0, 1) := by decide +kernel
theorem dX15_carryOut_310 : decode cX15_carryOut 310 = .ok (.iload_n 3, 1) := by decide +kernel
theorem dX15_carryOut_311 : decode cX15_carryOut 311 = .ok (.sipush 600, 3) := by decide +kernel
theorem dX15_carryOut_314 : decode cX15_carryOut 314 = .ok (.invokestatic 51, 3) := by decide +kernel
theorem dX15_carryOut_317 : decode cX15_carryOut 317 = .ok (.iconst (-1), 1) := by decide +kernel
theorem dX15_carryOut_318 : decode cX15_carryOut 318 = .ok (.invokevirtual 109, 3) := by decide +kernel
theorem dX15_carryOut_321 : decode cX15_carryOut 321 = .ok (.goto 121, 3) := by decide +kernel
theorem dX15_carryOut_324 : decode cX15_carryOut 324 = .ok (.aload_n 0, 1) := by decide +kernel
theorem dX15_carryOut_325 : decode cX15_carryOut 325 = .ok (.aload_n 0, 1) := by decide +kernel
theorem dX15_carryOut_326 : decode cX15_carryOut 326 = .ok (.getfield 34, 3) := by decide +kernel
theorem dX15_carryOut_329 : decode cX15_carryOut 329 = .ok (.iload_n 3, 1) := by decide +kernel
theorem dX15_carryOut_330 : decode cX15_carryOut 330 = .ok (.invokestatic 65, 3) := by decide +kernel
theorem dX15_carryOut_333 : decode cX15_carryOut 333 = .ok (.putfield 34, 3) := by decide +kernel
theorem dX15_carryOut_336 : decode cX15_carryOut 336 = .ok (.aload_n 0, 1) := by decide +kernel
theorem dX15_carryOut_337 : decode cX15_carryOut 337 = .ok (.dup, 1) := by decide +kernel
theorem dX15_carryOut_338 : decode cX15_carryOut 338 = .ok (.getfield 48, 3) := by decide +kernel
theorem dX15_carryOut_341 : decode cX15_carryOut 341 = .ok (.iconst 1, 1) := by decide +kernel
theorem dX15_carryOut_342 : decode cX15_carryOut 342 = .ok (.iadd, 1) := by decide +kernel
theorem dX15_carryOut_343 : decode cX15_carryOut 343 = .ok (.putfield 48, 3) := by decide +kernel
theorem dX15_carryOut_346 : decode cX15_carryOut 346 = .ok (.goto 96, 3) := by decide +kernel
theorem dX15_carryOut_349 : decode cX15_carryOut 349 = .ok (.aload_n 0, 1) := by decide +kernel
theorem dX15_carryOut_350 : decode cX15_carryOut 350 = .ok (.aload_n 0, 1) := by decide +kernel
theorem dX15_carryOut_351 : decode cX15_carryOut 351 = .ok (.getfield 24, 3) := by decide +kernel
theorem dX15_carryOut_354 : decode cX15_carryOut 354 = .ok (.aload_n 1, 1) := by decide +kernel
theorem dX15_carryOut_355 : decode cX15_carryOut 355 = .ok (.getfield 86, 3) := by decide +kernel
theorem dX15_carryOut_358 : decode cX15_carryOut 358 = .ok (.aaload, 1) := by decide +kernel
theorem dX15_carryOut_359 : decode cX15_carryOut 359 = .ok (.invokevirtual 77, 3) := by decide +kernel
theorem dX15_carryOut_362 : decode cX15_carryOut 362 = .ok (.goto 80, 3) := by decide +kernel
theorem dX15_carryOut_365 : decode cX15_carryOut 365 = .ok (.iconst 0, 1) := by decide +kernel
theorem dX15_carryOut_366 : decode cX15_carryOut 366 = .ok (.istore 4, 2) := by decide +kernel
theorem dX15_carryOut_368 : decode cX15_carryOut 368 = .ok (.iload 4, 2) := by decide +kernel
theorem dX15_carryOut_370 : decode cX15_carryOut 370 = .ok (.iload_n 3, 1) := by decide +kernel
theorem dX15_carryOut_371 : decode cX15_carryOut 371 = .ok (.if_icmp .ge 34, 3) := by decide +kernel
theorem dX15_carryOut_374 : decode cX15_carryOut 374 = .ok (.aload_n 0, 1) := by decide +kernel
theorem dX15_carryOut_375 : decode cX15_carryOut 375 = .ok (.getfield 62, 3) := by decide +kernel
theorem dX15_carryOut_378 : decode cX15_carryOut 378 = .ok (.bipush 100, 2) := by decide +kernel
theorem dX15_carryOut_380 : decode cX15_carryOut 380 = .ok (.if_icmp .ge 25, 3) := by decide +kernel
theorem dX15_carryOut_383 : decode cX15_carryOut 383 = .ok (.aload_n 1, 1) := by decide +kernel
theorem dX15_carryOut_384 : decode cX15_carryOut 384 = .ok (.getfield 116, 3) := by decide +kernel
theorem dX15_carryOut_387 : decode cX15_carryOut 387 = .ok (.arraylength, 1) := by decide +kernel
theorem dX15_carryOut_388 : decode cX15_carryOut 388 = .ok (.ifCond .le 17, 3) := by decide +kernel
theorem dX15_carryOut_391 : decode cX15_carryOut 391 = .ok (.aload_n 0, 1) := by decide +kernel
theorem dX15_carryOut_392 : decode cX15_carryOut 392 = .ok (.aload_n 1, 1) := by decide +kernel
theorem dX15_carryOut_393 : decode cX15_carryOut 393 = .ok (.getfield 116, 3) := by decide +kernel
theorem dX15_carryOut_396 : decode cX15_carryOut 396 = .ok (.invokevirtual 77, 3) := by decide +kernel
theorem dX15_carryOut_399 : decode cX15_carryOut 399 = .ok (.iinc 4 1, 3) := by decide +kernel
theorem dX15_carryOut_402 : decode cX15_carryOut 402 = .ok (.goto (-34), 3) := by decide +kernel
theorem dX15_carryOut_405 : decode cX15_carryOut 405 = .ok (.goto 37, 3) := by decide +kernel
theorem dX15_carryOut_408 : decode cX15_carryOut 408 = .ok (.aload_n 1, 1) := by decide +kernel
theorem dX15_carryOut_409 : decode cX15_carryOut 409 = .ok (.aload_n 0, 1) := by decide +kernel
theorem dX15_carryOut_410 : decode cX15_carryOut 410 = .ok (.invokevirtual 119, 3) := by decide +kernel
theorem dX15_carryOut_413 : decode cX15_carryOut 413 = .ok (.ifCond .eq 14, 3) := by decide +kernel
theorem dX15_carryOut_416 : decode cX15_carryOut 416 = .ok (.aload_n 0, 1) := by decide +kernel
theorem dX15_carryOut_417 : decode cX15_carryOut 417 = .ok (.aload_n 1, 1) := by decide +kernel
theorem dX15_carryOut_418 : decode cX15_carryOut 418 = .ok (.getfield 116, 3) := by decide +kernel
theorem dX15_carryOut_421 : decode cX15_carryOut 421 = .ok (.invokevirtual 77, 3) := by decide +kernel
theorem dX15_carryOut_424 : decode cX15_carryOut 424 = .ok (.goto 18, 3) := by decide +kernel
theorem dX15_carryOut_427 : decode cX15_carryOut 427 = .ok (.aload_n 1, 1) := by decide +kernel
theorem dX15_carryOut_428 : decode cX15_carryOut 428 = .ok (.getfield 123, 3) := by decide +kernel
theorem dX15_carryOut_431 : decode cX15_carryOut 431 = .ok (.ifnull 11, 3) := by decide +kernel
theorem dX15_carryOut_434 : decode cX15_carryOut 434 = .ok (.aload_n 0, 1) := by decide +kernel
theorem dX15_carryOut_435 : decode cX15_carryOut 435 = .ok (.aload_n 1, 1) := by decide +kernel
theorem dX15_carryOut_436 : decode cX15_carryOut 436 = .ok (.getfield 123, 3) := by decide +kernel
theorem dX15_carryOut_439 : decode cX15_carryOut 439 = .ok (.invokevirtual 77, 3) := by decide +kernel
theorem dX15_carryOut_442 : decode cX15_carryOut 442 = .ok (.return_, 1) := by decide +kernel
set_option maxRecDepth 20000 in
theorem ggX15_boil_X15_boiling : GoodIn wsX15_boil wsX15_boiling := goodIn_r _ [7, 2, 31, 32, 33, 34, 35, 36, 37, 38, 39, 40, 41, 42] (by decide +kernel) (by decide +kernel)
set_option maxRecDepth 20000 in
theorem gX15_boil_X15_boiling : GoodIn wsX15_boil (wsV RX15 69 RX15 yX15_boiling wsX15_boiling) := goodIn_app (goodIn_of _ (by decide +kernel)) ggX15_boil_X15_boiling
set_option maxRecDepth 20000 in
theorem ggX15_boil_X15_warn : GoodIn wsX15_boil wsX15_warn := goodIn_r _ [11, 12, 13, 14, 15, 16, 17, 6, 18, 19, 31, 32, 33, 34, 35, 36, 37, 38, 39, 40, 41, 42] (by decide +kernel) (by decide +kernel)
set_option maxRecDepth 20000 in
theorem gX15_boil_X15_warn : GoodIn wsX15_boil (wsV RX15 105 RX15 yX15_warn wsX15_warn) := goodIn_app (goodIn_of _ (by decide +kernel)) ggX15_boil_X15_warn
set_option maxRecDepth 20000 in
theorem ggX15_boil_X15_held : GoodIn wsX15_boil wsX15_held := goodIn_r _ [22] (by decide +kernel) (by decide +kernel)
set_option maxRecDepth 20000 in
theorem gX15_boil_X15_held : GoodIn wsX15_boil (va_wsS RX15 51 yX15_held wsX15_held) := goodIn_app (goodIn_of _ (by decide +kernel)) ggX15_boil_X15_held
set_option maxRecDepth 20000 in
theorem ggX15_boil_X15_longer : GoodIn wsX15_boil wsX15_longer := goodIn_r _ [25] (by decide +kernel) (by decide +kernel)
set_option maxRecDepth 20000 in
theorem gX15_boil_X15_longer : GoodIn wsX15_boil (va_wsS RX15 126 yX15_longer wsX15_longer) := goodIn_app (goodIn_of _ (by decide +kernel)) ggX15_boil_X15_longer
set_option maxRecDepth 20000 in
theorem ggX15_boil_X15_goBy : GoodIn wsX15_boil wsX15_goBy := goodIn_r _ [29, 30, 1, 31, 32, 33, 34, 35, 36, 37, 38, 39, 40, 41, 42] (by decide +kernel) (by decide +kernel)
set_option maxRecDepth 20000 in
theorem gX15_boil_X15_goBy : GoodIn wsX15_boil (wsV RX15 109 RX15 yX15_goBy wsX15_goBy) := goodIn_app (goodIn_of _ (by decide +kernel)) ggX15_boil_X15_goBy
theorem dX15_boil_0 : decode cX15_boil 0 = .ok (.aload_n 0, 1) := by decide +kernel
theorem dX15_boil_1 : decode cX15_boil 1 = .ok (.getfield 18, 3) := by decide +kernel
theorem dX15_boil_4 : decode cX15_boil 4 = .ok (.iload_n 1, 1) := by decide +kernel
theorem dX15_boil_5 : decode cX15_boil 5 = .ok (.aaload, 1) := by decide +kernel
theorem dX15_boil_6 : decode cX15_boil 6 = .ok (.astore_n 3, 1) := by decide +kernel
theorem dX15_boil_7 : decode cX15_boil 7 = .ok (.aload_n 3, 1) := by decide +kernel
theorem dX15_boil_8 : decode cX15_boil 8 = .ok (.iconst 1, 1) := by decide +kernel
theorem dX15_boil_9 : decode cX15_boil 9 = .ok (.iaload, 1) := by decide +kernel
theorem dX15_boil_10 : decode cX15_boil 10 = .ok (.iconst 1, 1) := by decide +kernel
theorem dX15_boil_11 : decode cX15_boil 11 = .ok (.if_icmp .lt 13, 3) := by decide +kernel
theorem dX15_boil_14 : decode cX15_boil 14 = .ok (.aload_n 3, 1) := by decide +kernel
theorem dX15_boil_15 : decode cX15_boil 15 = .ok (.iconst 3, 1) := by decide +kernel
theorem dX15_boil_16 : decode cX15_boil 16 = .ok (.iaload, 1) := by decide +kernel
theorem dX15_boil_17 : decode cX15_boil 17 = .ok (.aload_n 0, 1) := by decide +kernel
theorem dX15_boil_18 : decode cX15_boil 18 = .ok (.invokevirtual 69, 3) := by decide +kernel
theorem dX15_boil_21 : decode cX15_boil 21 = .ok (.if_icmp .ge 9, 3) := by decide +kernel
theorem dX15_boil_24 : decode cX15_boil 24 = .ok (.aload_n 0, 1) := by decide +kernel
theorem dX15_boil_25 : decode cX15_boil 25 = .ok (.iconst 4, 1) := by decide +kernel
theorem dX15_boil_26 : decode cX15_boil 26 = .ok (.invokevirtual 105, 3) := by decide +kernel
theorem dX15_boil_29 : decode cX15_boil 29 = .ok (.return_, 1) := by decide +kernel
theorem dX15_boil_30 : decode cX15_boil 30 = .ok (.iload_n 2, 1) := by decide +kernel
theorem dX15_boil_31 : decode cX15_boil 31 = .ok (.sipush 999, 3) := by decide +kernel
theorem dX15_boil_34 : decode cX15_boil 34 = .ok (.invokestatic 51, 3) := by decide +kernel
theorem dX15_boil_37 : decode cX15_boil 37 = .ok (.aload_n 0, 1) := by decide +kernel
theorem dX15_boil_38 : decode cX15_boil 38 = .ok (.getfield 38, 3) := by decide +kernel
theorem dX15_boil_41 : decode cX15_boil 41 = .ok (.invokestatic 126, 3) := by decide +kernel
theorem dX15_boil_44 : decode cX15_boil 44 = .ok (.istore 4, 2) := by decide +kernel
theorem dX15_boil_46 : decode cX15_boil 46 = .ok (.iload 4, 2) := by decide +kernel
theorem dX15_boil_48 : decode cX15_boil 48 = .ok (.aload_n 3, 1) := by decide +kernel
theorem dX15_boil_49 : decode cX15_boil 49 = .ok (.iconst 1, 1) := by decide +kernel
theorem dX15_boil_50 : decode cX15_boil 50 = .ok (.iaload, 1) := by decide +kernel
theorem dX15_boil_51 : decode cX15_boil 51 = .ok (.iconst 5, 1) := by decide +kernel
theorem dX15_boil_52 : decode cX15_boil 52 = .ok (.imul, 1) := by decide +kernel
theorem dX15_boil_53 : decode cX15_boil 53 = .ok (.if_icmp .le 15, 3) := by decide +kernel
theorem dX15_boil_56 : decode cX15_boil 56 = .ok (.aload_n 0, 1) := by decide +kernel
theorem dX15_boil_57 : decode cX15_boil 57 = .ok (.iconst 5, 1) := by decide +kernel
theorem dX15_boil_58 : decode cX15_boil 58 = .ok (.invokevirtual 105, 3) := by decide +kernel
theorem dX15_boil_61 : decode cX15_boil 61 = .ok (.aload_n 3, 1) := by decide +kernel
theorem dX15_boil_62 : decode cX15_boil 62 = .ok (.iconst 1, 1) := by decide +kernel
theorem dX15_boil_63 : decode cX15_boil 63 = .ok (.iaload, 1) := by decide +kernel
theorem dX15_boil_64 : decode cX15_boil 64 = .ok (.iconst 5, 1) := by decide +kernel
theorem dX15_boil_65 : decode cX15_boil 65 = .ok (.imul, 1) := by decide +kernel
theorem dX15_boil_66 : decode cX15_boil 66 = .ok (.istore 4, 2) := by decide +kernel
theorem dX15_boil_68 : decode cX15_boil 68 = .ok (.aload_n 3, 1) := by decide +kernel
theorem dX15_boil_69 : decode cX15_boil 69 = .ok (.iconst 1, 1) := by decide +kernel
theorem dX15_boil_70 : decode cX15_boil 70 = .ok (.dup2, 1) := by decide +kernel
theorem dX15_boil_71 : decode cX15_boil 71 = .ok (.iaload, 1) := by decide +kernel
theorem dX15_boil_72 : decode cX15_boil 72 = .ok (.iload 4, 2) := by decide +kernel
theorem dX15_boil_74 : decode cX15_boil 74 = .ok (.iconst 5, 1) := by decide +kernel
theorem dX15_boil_75 : decode cX15_boil 75 = .ok (.idiv, 1) := by decide +kernel
theorem dX15_boil_76 : decode cX15_boil 76 = .ok (.isub, 1) := by decide +kernel
theorem dX15_boil_77 : decode cX15_boil 77 = .ok (.iastore, 1) := by decide +kernel
theorem dX15_boil_78 : decode cX15_boil 78 = .ok (.aload_n 3, 1) := by decide +kernel
theorem dX15_boil_79 : decode cX15_boil 79 = .ok (.iconst 2, 1) := by decide +kernel
theorem dX15_boil_80 : decode cX15_boil 80 = .ok (.iaload, 1) := by decide +kernel
theorem dX15_boil_81 : decode cX15_boil 81 = .ok (.ifCond .le 26, 3) := by decide +kernel
theorem dX15_boil_84 : decode cX15_boil 84 = .ok (.aload_n 3, 1) := by decide +kernel
theorem dX15_boil_85 : decode cX15_boil 85 = .ok (.iconst 4, 1) := by decide +kernel
theorem dX15_boil_86 : decode cX15_boil 86 = .ok (.dup2, 1) := by decide +kernel
theorem dX15_boil_87 : decode cX15_boil 87 = .ok (.iaload, 1) := by decide +kernel
theorem dX15_boil_88 : decode cX15_boil 88 = .ok (.iload 4, 2) := by decide +kernel
theorem dX15_boil_90 : decode cX15_boil 90 = .ok (.bipush 100, 2) := by decide +kernel
theorem dX15_boil_92 : decode cX15_boil 92 = .ok (.imul, 1) := by decide +kernel
theorem dX15_boil_93 : decode cX15_boil 93 = .ok (.bipush 100, 2) := by decide +kernel
theorem dX15_boil_95 : decode cX15_boil 95 = .ok (.aload_n 0, 1) := by decide +kernel
theorem dX15_boil_96 : decode cX15_boil 96 = .ok (.getfield 38, 3) := by decide +kernel
theorem dX15_boil_99 : decode cX15_boil 99 = .ok (.iconst 3, 1) := by decide +kernel
theorem dX15_boil_100 : decode cX15_boil 100 = .ok (.idiv, 1) := by decide +kernel
theorem dX15_boil_101 : decode cX15_boil 101 = .ok (.iconst 5, 1) := by decide +kernel
theorem dX15_boil_102 : decode cX15_boil 102 = .ok (.imul, 1) := by decide +kernel
theorem dX15_boil_103 : decode cX15_boil 103 = .ok (.iadd, 1) := by decide +kernel
theorem dX15_boil_104 : decode cX15_boil 104 = .ok (.idiv, 1) := by decide +kernel
theorem dX15_boil_105 : decode cX15_boil 105 = .ok (.iadd, 1) := by decide +kernel
theorem dX15_boil_106 : decode cX15_boil 106 = .ok (.iastore, 1) := by decide +kernel
theorem dX15_boil_107 : decode cX15_boil 107 = .ok (.aload_n 3, 1) := by decide +kernel
theorem dX15_boil_108 : decode cX15_boil 108 = .ok (.iconst 4, 1) := by decide +kernel
theorem dX15_boil_109 : decode cX15_boil 109 = .ok (.iaload, 1) := by decide +kernel
theorem dX15_boil_110 : decode cX15_boil 110 = .ok (.bipush 100, 2) := by decide +kernel
theorem dX15_boil_112 : decode cX15_boil 112 = .ok (.if_icmp .le 8, 3) := by decide +kernel
theorem dX15_boil_115 : decode cX15_boil 115 = .ok (.aload_n 3, 1) := by decide +kernel
theorem dX15_boil_116 : decode cX15_boil 116 = .ok (.iconst 4, 1) := by decide +kernel
theorem dX15_boil_117 : decode cX15_boil 117 = .ok (.bipush 100, 2) := by decide +kernel
theorem dX15_boil_119 : decode cX15_boil 119 = .ok (.iastore, 1) := by decide +kernel
theorem dX15_boil_120 : decode cX15_boil 120 = .ok (.aload_n 3, 1) := by decide +kernel
theorem dX15_boil_121 : decode cX15_boil 121 = .ok (.iconst 3, 1) := by decide +kernel
theorem dX15_boil_122 : decode cX15_boil 122 = .ok (.aload_n 0, 1) := by decide +kernel
theorem dX15_boil_123 : decode cX15_boil 123 = .ok (.invokevirtual 69, 3) := by decide +kernel
theorem dX15_boil_126 : decode cX15_boil 126 = .ok (.iastore, 1) := by decide +kernel
theorem dX15_boil_127 : decode cX15_boil 127 = .ok (.aload_n 0, 1) := by decide +kernel
theorem dX15_boil_128 : decode cX15_boil 128 = .ok (.iload 4, 2) := by decide +kernel
theorem dX15_boil_130 : decode cX15_boil 130 = .ok (.iload_n 1, 1) := by decide +kernel
theorem dX15_boil_131 : decode cX15_boil 131 = .ok (.invokevirtual 109, 3) := by decide +kernel
theorem dX15_boil_134 : decode cX15_boil 134 = .ok (.return_, 1) := by decide +kernel
set_option maxRecDepth 20000 in
theorem ggX15_isSame_X12_holdsOf : GoodIn wsX15_isSame wsX12_holdsOf := goodIn_ca (goodIn_r _ [15, 16, 17, 18, 14, 19, 20, 21, 22, 23, 24, 25, 26, 27, 28, 29, 186, 187, 188, 189, 190, 191, 192, 193, 194, 195, 196, 197, 198, 199, 200, 201, 202, 203, 204, 205, 206, 207, 208, 209, 210, 211, 212, 213] (by decide +kernel) (by decide +kernel)) (goodIn_sub (fun _ h => List.mem_cons_of_mem _ (List.mem_append_left _ (List.mem_append_right _ h))) (by decide +kernel))
set_option maxRecDepth 20000 in
theorem gX15_isSame_X12_holdsOf : GoodIn wsX15_isSame (wsV RX15 129 RX12 yX12_holdsOf wsX12_holdsOf) := goodIn_app (goodIn_of _ (by decide +kernel)) ggX15_isSame_X12_holdsOf
set_option maxRecDepth 20000 in
theorem ggX15_isSame_X12_waterIn : GoodIn wsX15_isSame wsX12_waterIn := goodIn_ca (goodIn_r _ [33, 16, 17, 18, 14, 19, 20, 21, 22, 23, 24, 25, 26, 27, 28, 29, 186, 187, 188, 189, 190, 191, 192, 193, 194, 195, 196, 197, 198, 199, 200, 201, 202, 203, 204, 205, 206, 207, 208, 209, 210, 211, 212, 213] (by decide +kernel) (by decide +kernel)) (goodIn_sub (fun _ h => List.mem_cons_of_mem _ (List.mem_append_left _ (List.mem_append_right _ h))) (by decide +kernel))
set_option maxRecDepth 20000 in
theorem gX15_isSame_X12_waterIn : GoodIn wsX15_isSame (wsV RX15 134 RX12 yX12_waterIn wsX12_waterIn) := goodIn_app (goodIn_of _ (by decide +kernel)) ggX15_isSame_X12_waterIn
set_option maxRecDepth 20000 in
theorem ggX15_isSame_X12_mealIn : GoodIn wsX15_isSame wsX12_mealIn := goodIn_ca (goodIn_r _ [37, 16, 17, 18, 14, 19, 20, 21, 22, 23, 24, 25, 26, 27, 28, 29, 186, 187, 188, 189, 190, 191, 192, 193, 194, 195, 196, 197, 198, 199, 200, 201, 202, 203, 204, 205, 206, 207, 208, 209, 210, 211, 212, 213] (by decide +kernel) (by decide +kernel)) (goodIn_sub (fun _ h => List.mem_cons_of_mem _ (List.mem_append_left _ (List.mem_append_right _ h))) (by decide +kernel))
set_option maxRecDepth 20000 in
theorem gX15_isSame_X12_mealIn : GoodIn wsX15_isSame (wsV RX15 137 RX12 yX12_mealIn wsX12_mealIn) := goodIn_app (goodIn_of _ (by decide +kernel)) ggX15_isSame_X12_mealIn
set_option maxRecDepth 20000 in
theorem ggX15_isSame_X12_heatOf : GoodIn wsX15_isSame wsX12_heatOf := goodIn_ca (goodIn_r _ [41, 16, 17, 18, 14, 19, 20, 21, 22, 23, 24, 25, 26, 27, 28, 29, 186, 187, 188, 189, 190, 191, 192, 193, 194, 195, 196, 197, 198, 199, 200, 201, 202, 203, 204, 205, 206, 207, 208, 209, 210, 211, 212, 213] (by decide +kernel) (by decide +kernel)) (goodIn_sub (fun _ h => List.mem_cons_of_mem _ (List.mem_append_left _ (List.mem_append_right _ h))) (by decide +kernel))
set_option maxRecDepth 20000 in
theorem gX15_isSame_X12_heatOf : GoodIn wsX15_isSame (wsV RX15 140 RX12 yX12_heatOf wsX12_heatOf) := goodIn_app (goodIn_of _ (by decide +kernel)) ggX15_isSame_X12_heatOf
set_option maxRecDepth 20000 in
theorem ggX15_isSame_X12_doneIn : GoodIn wsX15_isSame wsX12_doneIn := goodIn_ca (goodIn_r _ [45, 16, 17, 18, 14, 19, 20, 21, 22, 23, 24, 25, 26, 27, 28, 29, 186, 187, 188, 189, 190, 191, 192, 193, 194, 195, 196, 197, 198, 199, 200, 201, 202, 203, 204, 205, 206, 207, 208, 209, 210, 211, 212, 213] (by decide +kernel) (by decide +kernel)) (goodIn_sub (fun _ h => List.mem_cons_of_mem _ (List.mem_append_left _ (List.mem_append_right _ h))) (by decide +kernel))
set_option maxRecDepth 20000 in
theorem gX15_isSame_X12_doneIn : GoodIn wsX15_isSame (wsV RX15 143 RX12 yX12_doneIn wsX12_doneIn) := goodIn_app (goodIn_of _ (by decide +kernel)) ggX15_isSame_X12_doneIn
set_option maxRecDepth 20000 in
theorem ggX15_isSame_X12_roomIn : GoodIn wsX15_isSame wsX12_roomIn := goodIn_ca (goodIn_r _ [49, 16, 17, 18, 14, 19, 20, 21, 22, 23, 24, 25, 26, 27, 28, 29, 50, 51, 52, 53, 54, 55, 56, 57, 191, 192, 193, 194, 195, 196, 197, 198, 199, 200, 201, 202, 203, 204, 205, 206, 207, 208, 209, 210, 211, 212, 213, 186, 187, 188, 189, 190] (by decide +kernel) (by decide +kernel)) (goodIn_sub (fun _ h => List.mem_cons_of_mem _ (List.mem_append_left _ (List.mem_append_right _ h))) (by decide +kernel))
set_option maxRecDepth 20000 in
theorem gX15_isSame_X12_roomIn : GoodIn wsX15_isSame (wsV RX15 146 RX12 yX12_roomIn wsX12_roomIn) := goodIn_app (goodIn_of _ (by decide +kernel)) ggX15_isSame_X12_roomIn
set_option maxRecDepth 20000 in
theorem ggX15_isSame_X15_room : GoodIn wsX15_isSame wsX15_room := goodIn_r _ [62, 1, 174, 175, 176, 177, 178, 179, 180, 181, 182, 183, 184, 185] (by decide +kernel) (by decide +kernel)
set_option maxRecDepth 20000 in
theorem gX15_isSame_X15_room : GoodIn wsX15_isSame (wsV RX15 55 RX15 yX15_room wsX15_room) := goodIn_app (goodIn_of _ (by decide +kernel)) ggX15_isSame_X15_room
set_option maxRecDepth 20000 in
theorem ggX15_isSame_X12_warningsOf : GoodIn wsX15_isSame wsX12_warningsOf := goodIn_ca (goodIn_r _ [66, 22, 67, 68, 14, 69, 70, 71, 72, 73, 74, 26, 75, 76, 191, 192, 193, 194, 195, 196, 197, 198, 199, 200, 201, 202, 203, 204, 205, 206] (by decide +kernel) (by decide +kernel)) (goodIn_sub (fun _ h => List.mem_cons_of_mem _ (List.mem_append_right _ h)) (by decide +kernel))
set_option maxRecDepth 20000 in
theorem gX15_isSame_X12_warningsOf : GoodIn wsX15_isSame (wsV RX15 149 RX12 yX12_warningsOf wsX12_warningsOf) := goodIn_app (goodIn_of _ (by decide +kernel)) ggX15_isSame_X12_warningsOf
set_option maxRecDepth 20000 in
theorem ggX15_isSame_X12_warningAt : GoodIn wsX15_isSame wsX12_warningAt := goodIn_ca (goodIn_r _ [80, 22, 81, 82, 83, 84, 85, 86, 87, 88, 89, 90, 91, 92, 14, 93, 20, 21, 94, 95, 96, 97, 98, 99, 100, 101, 102, 191, 192, 193, 194, 195, 196, 197, 198, 199, 200, 201, 202, 203, 204, 205, 206, 214, 215] (by decide +kernel) (by decide +kernel)) (goodIn_sub (fun _ h => List.mem_cons_of_mem _ (List.mem_append_left _ (List.mem_append_right _ h))) (by decide +kernel))
set_option maxRecDepth 20000 in
theorem gX15_isSame_X12_warningAt : GoodIn wsX15_isSame (wsV RX15 152 RX12 yX12_warningAt wsX12_warningAt) := goodIn_app (goodIn_of _ (by decide +kernel)) ggX15_isSame_X12_warningAt
set_option maxRecDepth 20000 in
theorem ggX15_isSame_X12_noteAt : GoodIn wsX15_isSame wsX12_noteAt := goodIn_ca (goodIn_r _ [106, 22, 81, 82, 83, 84, 85, 86, 87, 88, 89, 90, 91, 92, 14, 93, 20, 21, 94, 95, 96, 97, 98, 99, 100, 101, 102, 191, 192, 193, 194, 195, 196, 197, 198, 199, 200, 201, 202, 203, 204, 205, 206, 214, 215] (by decide +kernel) (by decide +kernel)) (goodIn_sub (fun _ h => List.mem_cons_of_mem _ (List.mem_append_left _ (List.mem_append_right _ h))) (by decide +kernel))
set_option maxRecDepth 20000 in
theorem gX15_isSame_X12_noteAt : GoodIn wsX15_isSame (wsV RX15 155 RX12 yX12_noteAt wsX12_noteAt) := goodIn_app (goodIn_of _ (by decide +kernel)) ggX15_isSame_X12_noteAt
set_option maxRecDepth 20000 in
theorem ggX15_isSame_X13_many : GoodIn wsX15_isSame wsX13_many := goodIn_r _ [110, 111, 112, 113, 108, 109, 216, 217, 218, 219, 220, 221, 222, 223] (by decide +kernel) (by decide +kernel)
set_option maxRecDepth 20000 in
theorem gX15_isSame_X13_many : GoodIn wsX15_isSame (va_wsS RX15 158 yX13_many wsX13_many) := goodIn_app (goodIn_of _ (by decide +kernel)) ggX15_isSame_X13_many
set_option maxRecDepth 20000 in
theorem ggX15_isSame_X12_pans : GoodIn wsX15_isSame wsX12_pans := goodIn_r _ [117, 22, 191, 192, 193, 194, 195, 196, 197, 198, 199, 200, 201, 202, 203, 204, 205, 206, 207, 208, 209, 210, 211, 212, 213] (by decide +kernel) (by decide +kernel)
set_option maxRecDepth 20000 in
theorem gX15_isSame_X12_pans : GoodIn wsX15_isSame (wsV RX15 162 RX12 yX12_pans wsX12_pans) := goodIn_app (goodIn_of _ (by decide +kernel)) ggX15_isSame_X12_pans
set_option maxRecDepth 20000 in
theorem ggX15_isSame_X12_recipes : GoodIn wsX15_isSame wsX12_recipes := goodIn_r _ [121, 22, 191, 192, 193, 194, 195, 196, 197, 198, 199, 200, 201, 202, 203, 204, 205, 206, 207, 208, 209, 210, 211, 212, 213] (by decide +kernel) (by decide +kernel)
set_option maxRecDepth 20000 in
theorem gX15_isSame_X12_recipes : GoodIn wsX15_isSame (wsV RX15 164 RX12 yX12_recipes wsX12_recipes) := goodIn_app (goodIn_of _ (by decide +kernel)) ggX15_isSame_X12_recipes
set_option maxRecDepth 20000 in
theorem ggX15_isSame_X12_acts : GoodIn wsX15_isSame wsX12_acts := goodIn_r _ [125, 22, 191, 192, 193, 194, 195, 196, 197, 198, 199, 200, 201, 202, 203, 204, 205, 206, 207, 208, 209, 210, 211, 212, 213] (by decide +kernel) (by decide +kernel)
set_option maxRecDepth 20000 in
theorem gX15_isSame_X12_acts : GoodIn wsX15_isSame (wsV RX15 166 RX12 yX12_acts wsX12_acts) := goodIn_app (goodIn_of _ (by decide +kernel)) ggX15_isSame_X12_acts
set_option maxRecDepth 20000 in
theorem ggX15_isSame_X12_altitude : GoodIn wsX15_isSame wsX12_altitude := goodIn_r _ [129, 22, 191, 192, 193, 194, 195, 196, 197, 198, 199, 200, 201, 202, 203, 204, 205, 206] (by decide +kernel) (by decide +kernel)
set_option maxRecDepth 20000 in
theorem gX15_isSame_X12_altitude : GoodIn wsX15_isSame (wsV RX15 169 RX12 yX12_altitude wsX12_altitude) := goodIn_app (goodIn_of _ (by decide +kernel)) ggX15_isSame_X12_altitude
set_option maxRecDepth 20000 in
theorem ggX15_isSame_X12_boilingPoint : GoodIn wsX15_isSame wsX12_boilingPoint := goodIn_r _ [133, 22, 134, 135, 136, 26, 137, 138, 139, 140, 141, 191, 192, 193, 194, 195, 196, 197, 198, 199, 200, 201, 202, 203, 204, 205, 206] (by decide +kernel) (by decide +kernel)
set_option maxRecDepth 20000 in
theorem gX15_isSame_X12_boilingPoint : GoodIn wsX15_isSame (wsV RX15 171 RX12 yX12_boilingPoint wsX12_boilingPoint) := goodIn_app (goodIn_of _ (by decide +kernel)) ggX15_isSame_X12_boilingPoint
set_option maxRecDepth 20000 in
theorem ggX15_isSame_X15_boiling : GoodIn wsX15_isSame wsX15_boiling := goodIn_r _ [145, 6, 174, 175, 176, 177, 178, 179, 180, 181, 182, 183, 184, 185] (by decide +kernel) (by decide +kernel)
set_option maxRecDepth 20000 in
theorem gX15_isSame_X15_boiling : GoodIn wsX15_isSame (wsV RX15 69 RX15 yX15_boiling wsX15_boiling) := goodIn_app (goodIn_of _ (by decide +kernel)) ggX15_isSame_X15_boiling
set_option maxRecDepth 20000 in
theorem ggX15_isSame_X12_servings : GoodIn wsX15_isSame wsX12_servings := goodIn_r _ [149, 22, 191, 192, 193, 194, 195, 196, 197, 198, 199, 200, 201, 202, 203, 204, 205, 206] (by decide +kernel) (by decide +kernel)
set_option maxRecDepth 20000 in
theorem gX15_isSame_X12_servings : GoodIn wsX15_isSame (wsV RX15 174 RX12 yX12_servings wsX12_servings) := goodIn_app (goodIn_of _ (by decide +kernel)) ggX15_isSame_X12_servings
set_option maxRecDepth 20000 in
theorem ggX15_isSame_X12_spoon : GoodIn wsX15_isSame wsX12_spoon := goodIn_r _ [153, 22, 191, 192, 193, 194, 195, 196, 197, 198, 199, 200, 201, 202, 203, 204, 205, 206] (by decide +kernel) (by decide +kernel)
set_option maxRecDepth 20000 in
theorem gX15_isSame_X12_spoon : GoodIn wsX15_isSame (wsV RX15 176 RX12 yX12_spoon wsX12_spoon) := goodIn_app (goodIn_of _ (by decide +kernel)) ggX15_isSame_X12_spoon
set_option maxRecDepth 20000 in
theorem ggX15_isSame_X12_minute : GoodIn wsX15_isSame wsX12_minute := goodIn_r _ [157, 22, 191, 192, 193, 194, 195, 196, 197, 198, 199, 200, 201, 202, 203, 204, 205, 206] (by decide +kernel) (by decide +kernel)
set_option maxRecDepth 20000 in
theorem gX15_isSame_X12_minute : GoodIn wsX15_isSame (wsV RX15 178 RX12 yX12_minute wsX12_minute) := goodIn_app (goodIn_of _ (by decide +kernel)) ggX15_isSame_X12_minute
set_option maxRecDepth 20000 in
theorem ggX15_isSame_X12_warnings : GoodIn wsX15_isSame wsX12_warnings := goodIn_r _ [161, 22, 191, 192, 193, 194, 195, 196, 197, 198, 199, 200, 201, 202, 203, 204, 205, 206, 214, 215] (by decide +kernel) (by decide +kernel)
set_option maxRecDepth 20000 in
theorem gX15_isSame_X12_warnings : GoodIn wsX15_isSame (wsV RX15 180 RX12 yX12_warnings wsX12_warnings) := goodIn_app (goodIn_of _ (by decide +kernel)) ggX15_isSame_X12_warnings
set_option maxRecDepth 20000 in
theorem ggX15_isSame_X15_warnings : GoodIn wsX15_isSame wsX15_warnings := goodIn_r _ [165, 2, 174, 175, 176, 177, 178, 179, 180, 181, 182, 183, 184, 185] (by decide +kernel) (by decide +kernel)
set_option maxRecDepth 20000 in
theorem gX15_isSame_X15_warnings : GoodIn wsX15_isSame (wsV RX15 183 RX15 yX15_warnings wsX15_warnings) := goodIn_app (goodIn_of _ (by decide +kernel)) ggX15_isSame_X15_warnings
set_option maxRecDepth 20000 in
theorem ggX15_isSame_X12_notes : GoodIn wsX15_isSame wsX12_notes := goodIn_r _ [169, 22, 191, 192, 193, 194, 195, 196, 197, 198, 199, 200, 201, 202, 203, 204, 205, 206, 214, 215] (by decide +kernel) (by decide +kernel)
set_option maxRecDepth 20000 in
theorem gX15_isSame_X12_notes : GoodIn wsX15_isSame (wsV RX15 184 RX12 yX12_notes wsX12_notes) := goodIn_app (goodIn_of _ (by decide +kernel)) ggX15_isSame_X12_notes
set_option maxRecDepth 20000 in
theorem ggX15_isSame_X12_meanHeat : GoodIn wsX15_isSame wsX12_meanHeat := goodIn_r _ [173, 22, 23, 24, 25, 26, 27, 28, 29, 191, 192, 193, 194, 195, 196, 197, 198, 199, 200, 201, 202, 203, 204, 205, 206, 207, 208, 209, 210, 211, 212, 213, 186, 187, 188, 189, 190] (by decide +kernel) (by decide +kernel)
set_option maxRecDepth 20000 in
theorem gX15_isSame_X12_meanHeat : GoodIn wsX15_isSame (wsV RX15 186 RX12 yX12_meanHeat wsX12_meanHeat) := goodIn_app (goodIn_of _ (by decide +kernel)) ggX15_isSame_X12_meanHeat
theorem dX15_isSame_0 : decode cX15_isSame 0 = .ok (.iconst 0, 1) := by decide +kernel
theorem dX15_isSame_1 : decode cX15_isSame 1 = .ok (.istore_n 2, 1) := by decide +kernel
theorem dX15_isSame_2 : decode cX15_isSame 2 = .ok (.iconst 0, 1) := by decide +kernel
theorem dX15_isSame_3 : decode cX15_isSame 3 = .ok (.istore_n 3, 1) := by decide +kernel
theorem dX15_isSame_4 : decode cX15_isSame 4 = .ok (.iload_n 3, 1) := by decide +kernel
theorem dX15_isSame_5 : decode cX15_isSame 5 = .ok (.aload_n 0, 1) := by decide +kernel
theorem dX15_isSame_6 : decode cX15_isSame 6 = .ok (.getfield 18, 3) := by decide +kernel
theorem dX15_isSame_9 : decode cX15_isSame 9 = .ok (.arraylength, 1) := by decide +kernel
theorem dX15_isSame_10 : decode cX15_isSame 10 = .ok (.if_icmp .ge 99, 3) := by decide +kernel
theorem dX15_isSame_13 : decode cX15_isSame 13 = .ok (.aload_n 0, 1) := by decide +kernel
theorem dX15_isSame_14 : decode cX15_isSame 14 = .ok (.getfield 18, 3) := by decide +kernel
theorem dX15_isSame_17 : decode cX15_isSame 17 = .ok (.iload_n 3, 1) := by decide +kernel
theorem dX15_isSame_18 : decode cX15_isSame 18 = .ok (.aaload, 1) := by decide +kernel
theorem dX15_isSame_19 : decode cX15_isSame 19 = .ok (.astore 4, 2) := by decide +kernel
theorem dX15_isSame_21 : decode cX15_isSame 21 = .ok (.aload_n 1, 1) := by decide +kernel
theorem dX15_isSame_22 : decode cX15_isSame 22 = .ok (.iload_n 3, 1) := by decide +kernel
theorem dX15_isSame_23 : decode cX15_isSame 23 = .ok (.invokevirtual 129, 3) := by decide +kernel
theorem dX15_isSame_26 : decode cX15_isSame 26 = .ok (.aload 4, 2) := by decide +kernel
theorem dX15_isSame_28 : decode cX15_isSame 28 = .ok (.iconst 0, 1) := by decide +kernel
theorem dX15_isSame_29 : decode cX15_isSame 29 = .ok (.iaload, 1) := by decide +kernel
theorem dX15_isSame_30 : decode cX15_isSame 30 = .ok (.if_icmp .ne 64, 3) := by decide +kernel
theorem dX15_isSame_33 : decode cX15_isSame 33 = .ok (.aload_n 1, 1) := by decide +kernel
theorem dX15_isSame_34 : decode cX15_isSame 34 = .ok (.iload_n 3, 1) := by decide +kernel
theorem dX15_isSame_35 : decode cX15_isSame 35 = .ok (.invokevirtual 134, 3) := by decide +kernel
theorem dX15_isSame_38 : decode cX15_isSame 38 = .ok (.aload 4, 2) := by decide +kernel
theorem dX15_isSame_40 : decode cX15_isSame 40 = .ok (.iconst 1, 1) := by decide +kernel
theorem dX15_isSame_41 : decode cX15_isSame 41 = .ok (.iaload, 1) := by decide +kernel
theorem dX15_isSame_42 : decode cX15_isSame 42 = .ok (.if_icmp .ne 52, 3) := by decide +kernel
theorem dX15_isSame_45 : decode cX15_isSame 45 = .ok (.aload_n 1, 1) := by decide +kernel
theorem dX15_isSame_46 : decode cX15_isSame 46 = .ok (.iload_n 3, 1) := by decide +kernel
theorem dX15_isSame_47 : decode cX15_isSame 47 = .ok (.invokevirtual 137, 3) := by decide +kernel
theorem dX15_isSame_50 : decode cX15_isSame 50 = .ok (.aload 4, 2) := by decide +kernel
theorem dX15_isSame_52 : decode cX15_isSame 52 = .ok (.iconst 2, 1) := by decide +kernel
theorem dX15_isSame_53 : decode cX15_isSame 53 = .ok (.iaload, 1) := by decide +kernel
theorem dX15_isSame_54 : decode cX15_isSame 54 = .ok (.if_icmp .ne 40, 3) := by decide +kernel
theorem dX15_isSame_57 : decode cX15_isSame 57 = .ok (.aload_n 1, 1) := by decide +kernel
theorem dX15_isSame_58 : decode cX15_isSame 58 = .ok (.iload_n 3, 1) := by decide +kernel
theorem dX15_isSame_59 : decode cX15_isSame 59 = .ok (.invokevirtual 140, 3) := by decide +kernel
theorem dX15_isSame_62 : decode cX15_isSame 62 = .ok (.aload 4, 2) := by decide +kernel
theorem dX15_isSame_64 : decode cX15_isSame 64 = .ok (.iconst 3, 1) := by decide +kernel
theorem dX15_isSame_65 : decode cX15_isSame 65 = .ok (.iaload, 1) := by decide +kernel
theorem dX15_isSame_66 : decode cX15_isSame 66 = .ok (.if_icmp .ne 28, 3) := by decide +kernel
theorem dX15_isSame_69 : decode cX15_isSame 69 = .ok (.aload_n 1, 1) := by decide +kernel
theorem dX15_isSame_70 : decode cX15_isSame 70 = .ok (.iload_n 3, 1) := by decide +kernel
theorem dX15_isSame_71 : decode cX15_isSame 71 = .ok (.invokevirtual 143, 3) := by decide +kernel
theorem dX15_isSame_74 : decode cX15_isSame 74 = .ok (.aload 4, 2) := by decide +kernel
theorem dX15_isSame_76 : decode cX15_isSame 76 = .ok (.iconst 4, 1) := by decide +kernel
theorem dX15_isSame_77 : decode cX15_isSame 77 = .ok (.iaload, 1) := by decide +kernel
theorem dX15_isSame_78 : decode cX15_isSame 78 = .ok (.if_icmp .ne 16, 3) := by decide +kernel
theorem dX15_isSame_81 : decode cX15_isSame 81 = .ok (.aload_n 1, 1) := by decide +kernel
theorem dX15_isSame_82 : decode cX15_isSame 82 = .ok (.iload_n 3, 1) := by decide +kernel
theorem dX15_isSame_83 : decode cX15_isSame 83 = .ok (.invokevirtual 146, 3) := by decide +kernel
theorem dX15_isSame_86 : decode cX15_isSame 86 = .ok (.aload_n 0, 1) := by decide +kernel
theorem dX15_isSame_87 : decode cX15_isSame 87 = .ok (.iload_n 3, 1) := by decide +kernel
theorem dX15_isSame_88 : decode cX15_isSame 88 = .ok (.invokevirtual 55, 3) := by decide +kernel
theorem dX15_isSame_91 : decode cX15_isSame 91 = .ok (.if_icmp .eq 5, 3) := by decide +kernel
theorem dX15_isSame_94 : decode cX15_isSame 94 = .ok (.iconst 0, 1) := by decide +kernel
theorem dX15_isSame_95 : decode cX15_isSame 95 = .ok (.ireturn, 1) := by decide +kernel
theorem dX15_isSame_96 : decode cX15_isSame 96 = .ok (.iload_n 2, 1) := by decide +kernel
theorem dX15_isSame_97 : decode cX15_isSame 97 = .ok (.aload 4, 2) := by decide +kernel
theorem dX15_isSame_99 : decode cX15_isSame 99 = .ok (.iconst 3, 1) := by decide +kernel
theorem dX15_isSame_100 : decode cX15_isSame 100 = .ok (.iaload, 1) := by decide +kernel
theorem dX15_isSame_101 : decode cX15_isSame 101 = .ok (.iadd, 1) := by decide +kernel
theorem dX15_isSame_102 : decode cX15_isSame 102 = .ok (.istore_n 2, 1) := by decide +kernel
theorem dX15_isSame_103 : decode cX15_isSame 103 = .ok (.iinc 3 1, 3) := by decide +kernel
theorem dX15_isSame_106 : decode cX15_isSame 106 = .ok (.goto (-102), 3) := by decide +kernel
theorem dX15_isSame_109 : decode cX15_isSame 109 = .ok (.iconst 1, 1) := by decide +kernel
theorem dX15_isSame_110 : decode cX15_isSame 110 = .ok (.istore_n 3, 1) := by decide +kernel
theorem dX15_isSame_111 : decode cX15_isSame 111 = .ok (.iload_n 3, 1) := by decide +kernel
theorem dX15_isSame_112 : decode cX15_isSame 112 = .ok (.bipush 6, 2) := by decide +kernel
theorem dX15_isSame_114 : decode cX15_isSame 114 = .ok (.if_icmp .ge 25, 3) := by decide +kernel
theorem dX15_isSame_117 : decode cX15_isSame 117 = .ok (.aload_n 1, 1) := by decide +kernel
theorem dX15_isSame_118 : decode cX15_isSame 118 = .ok (.iload_n 3, 1) := by decide +kernel
theorem dX15_isSame_119 : decode cX15_isSame 119 = .ok (.invokevirtual 149, 3) := by decide +kernel
theorem dX15_isSame_122 : decode cX15_isSame 122 = .ok (.aload_n 0, 1) := by decide +kernel
theorem dX15_isSame_123 : decode cX15_isSame 123 = .ok (.getfield 28, 3) := by decide +kernel
theorem dX15_isSame_126 : decode cX15_isSame 126 = .ok (.iload_n 3, 1) := by decide +kernel
theorem dX15_isSame_127 : decode cX15_isSame 127 = .ok (.iaload, 1) := by decide +kernel
theorem dX15_isSame_128 : decode cX15_isSame 128 = .ok (.if_icmp .eq 5, 3) := by decide +kernel
theorem dX15_isSame_131 : decode cX15_isSame 131 = .ok (.iconst 0, 1) := by decide +kernel
theorem dX15_isSame_132 : decode cX15_isSame 132 = .ok (.ireturn, 1) := by decide +kernel
theorem dX15_isSame_133 : decode cX15_isSame 133 = .ok (.iinc 3 1, 3) := by decide +kernel
theorem dX15_isSame_136 : decode cX15_isSame 136 = .ok (.goto (-25), 3) := by decide +kernel
theorem dX15_isSame_139 : decode cX15_isSame 139 = .ok (.iconst 0, 1) := by decide +kernel
theorem dX15_isSame_140 : decode cX15_isSame 140 = .ok (.istore_n 3, 1) := by decide +kernel
theorem dX15_isSame_141 : decode cX15_isSame 141 = .ok (.iload_n 3, 1) := by decide +kernel
theorem dX15_isSame_142 : decode cX15_isSame 142 = .ok (.aload_n 0, 1) := by decide +kernel
theorem dX15_isSame_143 : decode cX15_isSame 143 = .ok (.getfield 31, 3) := by decide +kernel
theorem dX15_isSame_146 : decode cX15_isSame 146 = .ok (.arraylength, 1) := by decide +kernel
theorem dX15_isSame_147 : decode cX15_isSame 147 = .ok (.if_icmp .ge 25, 3) := by decide +kernel
theorem dX15_isSame_150 : decode cX15_isSame 150 = .ok (.aload_n 1, 1) := by decide +kernel
theorem dX15_isSame_151 : decode cX15_isSame 151 = .ok (.iload_n 3, 1) := by decide +kernel
theorem dX15_isSame_152 : decode cX15_isSame 152 = .ok (.invokevirtual 152, 3) := by decide +kernel
theorem dX15_isSame_155 : decode cX15_isSame 155 = .ok (.aload_n 0, 1) := by decide +kernel
theorem dX15_isSame_156 : decode cX15_isSame 156 = .ok (.getfield 31, 3) := by decide +kernel
theorem dX15_isSame_159 : decode cX15_isSame 159 = .ok (.iload_n 3, 1) := by decide +kernel
theorem dX15_isSame_160 : decode cX15_isSame 160 = .ok (.iaload, 1) := by decide +kernel
theorem dX15_isSame_161 : decode cX15_isSame 161 = .ok (.if_icmp .eq 5, 3) := by decide +kernel
theorem dX15_isSame_164 : decode cX15_isSame 164 = .ok (.iconst 0, 1) := by decide +kernel
theorem dX15_isSame_165 : decode cX15_isSame 165 = .ok (.ireturn, 1) := by decide +kernel
theorem dX15_isSame_166 : decode cX15_isSame 166 = .ok (.iinc 3 1, 3) := by decide +kernel
theorem dX15_isSame_169 : decode cX15_isSame 169 = .ok (.goto (-28), 3) := by decide +kernel
theorem dX15_isSame_172 : decode cX15_isSame 172 = .ok (.iconst 0, 1) := by decide +kernel
theorem dX15_isSame_173 : decode cX15_isSame 173 = .ok (.istore_n 3, 1) := by decide +kernel
theorem dX15_isSame_174 : decode cX15_isSame 174 = .ok (.iload_n 3, 1) := by decide +kernel
theorem dX15_isSame_175 : decode cX15_isSame 175 = .ok (.aload_n 0, 1) := by decide +kernel
theorem dX15_isSame_176 : decode cX15_isSame 176 = .ok (.getfield 34, 3) := by decide +kernel
theorem dX15_isSame_179 : decode cX15_isSame 179 = .ok (.arraylength, 1) := by decide +kernel
theorem dX15_isSame_180 : decode cX15_isSame 180 = .ok (.if_icmp .ge 25, 3) := by decide +kernel
theorem dX15_isSame_183 : decode cX15_isSame 183 = .ok (.aload_n 1, 1) := by decide +kernel
theorem dX15_isSame_184 : decode cX15_isSame 184 = .ok (.iload_n 3, 1) := by decide +kernel
theorem dX15_isSame_185 : decode cX15_isSame 185 = .ok (.invokevirtual 155, 3) := by decide +kernel
theorem dX15_isSame_188 : decode cX15_isSame 188 = .ok (.aload_n 0, 1) := by decide +kernel
theorem dX15_isSame_189 : decode cX15_isSame 189 = .ok (.getfield 34, 3) := by decide +kernel
theorem dX15_isSame_192 : decode cX15_isSame 192 = .ok (.iload_n 3, 1) := by decide +kernel
theorem dX15_isSame_193 : decode cX15_isSame 193 = .ok (.iaload, 1) := by decide +kernel
theorem dX15_isSame_194 : decode cX15_isSame 194 = .ok (.if_icmp .eq 5, 3) := by decide +kernel
