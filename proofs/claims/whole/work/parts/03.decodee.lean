theorem dX14_name_15 : decode cX14_name 15 = .ok (.goto 4, 3) := by decide +kernel
theorem dX14_name_18 : decode cX14_name 18 = .ok (.iconst 0, 1) := by decide +kernel
theorem dX14_name_19 : decode cX14_name 19 = .ok (.istore_n 3, 1) := by decide +kernel
theorem dX14_name_20 : decode cX14_name 20 = .ok (.iload_n 3, 1) := by decide +kernel
theorem dX14_name_21 : decode cX14_name 21 = .ok (.iconst (-1), 1) := by decide +kernel
theorem dX14_name_22 : decode cX14_name 22 = .ok (.if_icmp .ne 8, 3) := by decide +kernel
theorem dX14_name_25 : decode cX14_name 25 = .ok (.aload_n 0, 1) := by decide +kernel
theorem dX14_name_26 : decode cX14_name 26 = .ok (.iconst 3, 1) := by decide +kernel
theorem dX14_name_27 : decode cX14_name 27 = .ok (.invokevirtual 143, 3) := by decide +kernel
theorem dX14_name_30 : decode cX14_name 30 = .ok (.aload_n 0, 1) := by decide +kernel
theorem dX14_name_31 : decode cX14_name 31 = .ok (.bipush 40, 2) := by decide +kernel
theorem dX14_name_33 : decode cX14_name 33 = .ok (.invokevirtual 147, 3) := by decide +kernel
theorem dX14_name_36 : decode cX14_name 36 = .ok (.iconst 0, 1) := by decide +kernel
theorem dX14_name_37 : decode cX14_name 37 = .ok (.iload_n 3, 1) := by decide +kernel
theorem dX14_name_38 : decode cX14_name 38 = .ok (.invokestatic 63, 3) := by decide +kernel
theorem dX14_name_41 : decode cX14_name 41 = .ok (.ireturn, 1) := by decide +kernel
set_option maxRecDepth 20000 in
theorem ggX14_pan_X14_name : GoodIn wsX14_pan wsX14_name := goodIn_r _ [7, 8, 9, 10, 11, 12, 13, 14, 6, 15, 16, 17, 18, 19, 20, 21, 22, 23, 24, 25, 26, 27, 28, 29, 30, 31, 32, 33, 34, 35, 36, 37, 38, 39, 40, 41, 42, 43, 44, 45, 46, 47, 48, 49, 50, 51, 52, 53, 54, 55, 56, 57, 58, 59, 60, 61, 62, 63, 64, 65, 66] (by decide +kernel) (by decide +kernel)
set_option maxRecDepth 20000 in
theorem gX14_pan_X14_name : GoodIn wsX14_pan (wsV RX14 153 RX14 yX14_name wsX14_name) := goodIn_app (goodIn_of _ (by decide +kernel)) ggX14_pan_X14_name
theorem dX14_pan_0 : decode cX14_pan 0 = .ok (.aload_n 0, 1) := by decide +kernel
theorem dX14_pan_1 : decode cX14_pan 1 = .ok (.aload_n 0, 1) := by decide +kernel
theorem dX14_pan_2 : decode cX14_pan 2 = .ok (.getfield 29, 3) := by decide +kernel
theorem dX14_pan_5 : decode cX14_pan 5 = .ok (.aload_n 0, 1) := by decide +kernel
theorem dX14_pan_6 : decode cX14_pan 6 = .ok (.getfield 42, 3) := by decide +kernel
theorem dX14_pan_9 : decode cX14_pan 9 = .ok (.getfield 150, 3) := by decide +kernel
theorem dX14_pan_12 : decode cX14_pan 12 = .ok (.invokevirtual 153, 3) := by decide +kernel
theorem dX14_pan_15 : decode cX14_pan 15 = .ok (.ireturn, 1) := by decide +kernel
set_option maxRecDepth 20000 in
theorem ggX14_newName_X14_is : GoodIn wsX14_newName wsX14_is := goodIn_r _ [13, 14, 15, 8, 41, 42, 43, 44, 45, 46, 47, 48, 49, 50, 51, 52, 53, 54, 55, 56, 57, 58, 59, 60, 61, 62, 63] (by decide +kernel) (by decide +kernel)
set_option maxRecDepth 20000 in
theorem gX14_newName_X14_is : GoodIn wsX14_newName (wsV RX14 129 RX14 yX14_is wsX14_is) := goodIn_app (goodIn_of _ (by decide +kernel)) ggX14_newName_X14_is
set_option maxRecDepth 20000 in
theorem ggX14_newName_X14_known : GoodIn wsX14_newName wsX14_known := goodIn_r _ [19, 8, 20, 21, 22, 12, 23, 24, 25, 26, 41, 42, 43, 44, 45, 46, 47, 48, 49, 50, 51, 52, 53, 54, 55, 56, 57, 58, 59, 60, 61, 62, 63] (by decide +kernel) (by decide +kernel)
set_option maxRecDepth 20000 in
theorem gX14_newName_X14_known : GoodIn wsX14_newName (wsV RX14 139 RX14 yX14_known wsX14_known) := goodIn_app (goodIn_of _ (by decide +kernel)) ggX14_newName_X14_known
set_option maxRecDepth 20000 in
theorem ggX14_newName_X14_mark : GoodIn wsX14_newName wsX14_mark := goodIn_r _ [30, 14, 31, 8, 32, 41, 42, 43, 44, 45, 46, 47, 48, 49, 50, 51, 52, 53, 54, 55, 56, 57, 58, 59, 60, 61, 62, 63] (by decide +kernel) (by decide +kernel)
set_option maxRecDepth 20000 in
theorem gX14_newName_X14_mark : GoodIn wsX14_newName (wsV RX14 143 RX14 yX14_mark wsX14_mark) := goodIn_app (goodIn_of _ (by decide +kernel)) ggX14_newName_X14_mark
set_option maxRecDepth 20000 in
theorem ggX14_newName_X14_take : GoodIn wsX14_newName wsX14_take := goodIn_r _ [36, 8, 9, 10, 11, 12, 13, 14, 15, 37, 38, 39, 40, 31, 32, 41, 42, 43, 44, 45, 46, 47, 48, 49, 50, 51, 52, 53, 54, 55, 56, 57, 58, 59, 60, 61, 62, 63] (by decide +kernel) (by decide +kernel)
set_option maxRecDepth 20000 in
theorem gX14_newName_X14_take : GoodIn wsX14_newName (wsV RX14 147 RX14 yX14_take wsX14_take) := goodIn_app (goodIn_of _ (by decide +kernel)) ggX14_newName_X14_take
theorem dX14_newName_0 : decode cX14_newName 0 = .ok (.aload_n 0, 1) := by decide +kernel
theorem dX14_newName_1 : decode cX14_newName 1 = .ok (.bipush 40, 2) := by decide +kernel
theorem dX14_newName_3 : decode cX14_newName 3 = .ok (.invokevirtual 129, 3) := by decide +kernel
theorem dX14_newName_6 : decode cX14_newName 6 = .ok (.ifCond .eq 51, 3) := by decide +kernel
theorem dX14_newName_9 : decode cX14_newName 9 = .ok (.aload_n 0, 1) := by decide +kernel
theorem dX14_newName_10 : decode cX14_newName 10 = .ok (.aload_n 0, 1) := by decide +kernel
theorem dX14_newName_11 : decode cX14_newName 11 = .ok (.getfield 29, 3) := by decide +kernel
theorem dX14_newName_14 : decode cX14_newName 14 = .ok (.aload_n 0, 1) := by decide +kernel
theorem dX14_newName_15 : decode cX14_newName 15 = .ok (.getfield 42, 3) := by decide +kernel
theorem dX14_newName_18 : decode cX14_newName 18 = .ok (.getfield 150, 3) := by decide +kernel
theorem dX14_newName_21 : decode cX14_newName 21 = .ok (.invokevirtual 139, 3) := by decide +kernel
theorem dX14_newName_24 : decode cX14_newName 24 = .ok (.iconst (-1), 1) := by decide +kernel
theorem dX14_newName_25 : decode cX14_newName 25 = .ok (.if_icmp .ne 27, 3) := by decide +kernel
theorem dX14_newName_28 : decode cX14_newName 28 = .ok (.aload_n 0, 1) := by decide +kernel
theorem dX14_newName_29 : decode cX14_newName 29 = .ok (.aload_n 0, 1) := by decide +kernel
theorem dX14_newName_30 : decode cX14_newName 30 = .ok (.getfield 32, 3) := by decide +kernel
theorem dX14_newName_33 : decode cX14_newName 33 = .ok (.bipush 6, 2) := by decide +kernel
theorem dX14_newName_35 : decode cX14_newName 35 = .ok (.aload_n 0, 1) := by decide +kernel
theorem dX14_newName_36 : decode cX14_newName 36 = .ok (.getfield 42, 3) := by decide +kernel
theorem dX14_newName_39 : decode cX14_newName 39 = .ok (.getfield 156, 3) := by decide +kernel
theorem dX14_newName_42 : decode cX14_newName 42 = .ok (.invokestatic 57, 3) := by decide +kernel
theorem dX14_newName_45 : decode cX14_newName 45 = .ok (.invokevirtual 139, 3) := by decide +kernel
theorem dX14_newName_48 : decode cX14_newName 48 = .ok (.iconst (-1), 1) := by decide +kernel
theorem dX14_newName_49 : decode cX14_newName 49 = .ok (.if_icmp .eq 8, 3) := by decide +kernel
theorem dX14_newName_52 : decode cX14_newName 52 = .ok (.aload_n 0, 1) := by decide +kernel
theorem dX14_newName_53 : decode cX14_newName 53 = .ok (.iconst 2, 1) := by decide +kernel
theorem dX14_newName_54 : decode cX14_newName 54 = .ok (.invokevirtual 143, 3) := by decide +kernel
theorem dX14_newName_57 : decode cX14_newName 57 = .ok (.aload_n 0, 1) := by decide +kernel
theorem dX14_newName_58 : decode cX14_newName 58 = .ok (.bipush 40, 2) := by decide +kernel
theorem dX14_newName_60 : decode cX14_newName 60 = .ok (.invokevirtual 129, 3) := by decide +kernel
theorem dX14_newName_63 : decode cX14_newName 63 = .ok (.ifCond .eq 13, 3) := by decide +kernel
theorem dX14_newName_66 : decode cX14_newName 66 = .ok (.iload_n 2, 1) := by decide +kernel
theorem dX14_newName_67 : decode cX14_newName 67 = .ok (.iload_n 3, 1) := by decide +kernel
theorem dX14_newName_68 : decode cX14_newName 68 = .ok (.if_icmp .ne 8, 3) := by decide +kernel
theorem dX14_newName_71 : decode cX14_newName 71 = .ok (.aload_n 0, 1) := by decide +kernel
theorem dX14_newName_72 : decode cX14_newName 72 = .ok (.iconst 4, 1) := by decide +kernel
theorem dX14_newName_73 : decode cX14_newName 73 = .ok (.invokevirtual 143, 3) := by decide +kernel
theorem dX14_newName_76 : decode cX14_newName 76 = .ok (.aload_n 0, 1) := by decide +kernel
theorem dX14_newName_77 : decode cX14_newName 77 = .ok (.bipush 40, 2) := by decide +kernel
theorem dX14_newName_79 : decode cX14_newName 79 = .ok (.invokevirtual 129, 3) := by decide +kernel
theorem dX14_newName_82 : decode cX14_newName 82 = .ok (.ifCond .eq 15, 3) := by decide +kernel
theorem dX14_newName_85 : decode cX14_newName 85 = .ok (.iload_n 2, 1) := by decide +kernel
theorem dX14_newName_86 : decode cX14_newName 86 = .ok (.iload_n 3, 1) := by decide +kernel
theorem dX14_newName_87 : decode cX14_newName 87 = .ok (.if_icmp .ge 10, 3) := by decide +kernel
theorem dX14_newName_90 : decode cX14_newName 90 = .ok (.aload_n 1, 1) := by decide +kernel
theorem dX14_newName_91 : decode cX14_newName 91 = .ok (.iload_n 2, 1) := by decide +kernel
theorem dX14_newName_92 : decode cX14_newName 92 = .ok (.aload_n 0, 1) := by decide +kernel
theorem dX14_newName_93 : decode cX14_newName 93 = .ok (.getfield 120, 3) := by decide +kernel
theorem dX14_newName_96 : decode cX14_newName 96 = .ok (.iastore, 1) := by decide +kernel
theorem dX14_newName_97 : decode cX14_newName 97 = .ok (.aload_n 0, 1) := by decide +kernel
theorem dX14_newName_98 : decode cX14_newName 98 = .ok (.bipush 40, 2) := by decide +kernel
theorem dX14_newName_100 : decode cX14_newName 100 = .ok (.invokevirtual 147, 3) := by decide +kernel
theorem dX14_newName_103 : decode cX14_newName 103 = .ok (.return_, 1) := by decide +kernel
theorem dX14_node_0 : decode cX14_node 0 = .ok (.aload_n 0, 1) := by decide +kernel
theorem dX14_node_1 : decode cX14_node 1 = .ok (.getfield 42, 3) := by decide +kernel
theorem dX14_node_4 : decode cX14_node 4 = .ok (.getfield 159, 3) := by decide +kernel
theorem dX14_node_7 : decode cX14_node 7 = .ok (.istore 4, 2) := by decide +kernel
theorem dX14_node_9 : decode cX14_node 9 = .ok (.aload_n 0, 1) := by decide +kernel
theorem dX14_node_10 : decode cX14_node 10 = .ok (.getfield 42, 3) := by decide +kernel
theorem dX14_node_13 : decode cX14_node 13 = .ok (.getfield 162, 3) := by decide +kernel
theorem dX14_node_16 : decode cX14_node 16 = .ok (.iload 4, 2) := by decide +kernel
theorem dX14_node_18 : decode cX14_node 18 = .ok (.iload_n 1, 1) := by decide +kernel
theorem dX14_node_19 : decode cX14_node 19 = .ok (.iastore, 1) := by decide +kernel
theorem dX14_node_20 : decode cX14_node 20 = .ok (.aload_n 0, 1) := by decide +kernel
theorem dX14_node_21 : decode cX14_node 21 = .ok (.getfield 42, 3) := by decide +kernel
theorem dX14_node_24 : decode cX14_node 24 = .ok (.getfield 165, 3) := by decide +kernel
theorem dX14_node_27 : decode cX14_node 27 = .ok (.iload 4, 2) := by decide +kernel
theorem dX14_node_29 : decode cX14_node 29 = .ok (.iload_n 2, 1) := by decide +kernel
theorem dX14_node_30 : decode cX14_node 30 = .ok (.iastore, 1) := by decide +kernel
theorem dX14_node_31 : decode cX14_node 31 = .ok (.aload_n 0, 1) := by decide +kernel
theorem dX14_node_32 : decode cX14_node 32 = .ok (.getfield 42, 3) := by decide +kernel
theorem dX14_node_35 : decode cX14_node 35 = .ok (.getfield 168, 3) := by decide +kernel
theorem dX14_node_38 : decode cX14_node 38 = .ok (.iload 4, 2) := by decide +kernel
theorem dX14_node_40 : decode cX14_node 40 = .ok (.iload_n 3, 1) := by decide +kernel
theorem dX14_node_41 : decode cX14_node 41 = .ok (.iastore, 1) := by decide +kernel
theorem dX14_node_42 : decode cX14_node 42 = .ok (.aload_n 0, 1) := by decide +kernel
theorem dX14_node_43 : decode cX14_node 43 = .ok (.getfield 42, 3) := by decide +kernel
theorem dX14_node_46 : decode cX14_node 46 = .ok (.dup, 1) := by decide +kernel
theorem dX14_node_47 : decode cX14_node 47 = .ok (.getfield 159, 3) := by decide +kernel
theorem dX14_node_50 : decode cX14_node 50 = .ok (.iconst 1, 1) := by decide +kernel
theorem dX14_node_51 : decode cX14_node 51 = .ok (.iadd, 1) := by decide +kernel
theorem dX14_node_52 : decode cX14_node 52 = .ok (.putfield 159, 3) := by decide +kernel
theorem dX14_node_55 : decode cX14_node 55 = .ok (.iload 4, 2) := by decide +kernel
theorem dX14_node_57 : decode cX14_node 57 = .ok (.ireturn, 1) := by decide +kernel
set_option maxRecDepth 20000 in
theorem ggX14_isContent_X14_is : GoodIn wsX14_isContent wsX14_is := goodIn_r _ [5, 6, 7, 8, 9, 10, 11, 12, 13, 14, 15, 16, 17, 18, 19, 20, 21, 22, 23, 24, 25, 26, 27, 28, 29, 30, 31] (by decide +kernel) (by decide +kernel)
set_option maxRecDepth 20000 in
theorem gX14_isContent_X14_is : GoodIn wsX14_isContent (wsV RX14 129 RX14 yX14_is wsX14_is) := goodIn_app (goodIn_of _ (by decide +kernel)) ggX14_isContent_X14_is
theorem dX14_isContent_0 : decode cX14_isContent 0 = .ok (.aload_n 0, 1) := by decide +kernel
theorem dX14_isContent_1 : decode cX14_isContent 1 = .ok (.iconst 4, 1) := by decide +kernel
theorem dX14_isContent_2 : decode cX14_isContent 2 = .ok (.invokevirtual 129, 3) := by decide +kernel
theorem dX14_isContent_5 : decode cX14_isContent 5 = .ok (.ifCond .ne 38, 3) := by decide +kernel
theorem dX14_isContent_8 : decode cX14_isContent 8 = .ok (.aload_n 0, 1) := by decide +kernel
theorem dX14_isContent_9 : decode cX14_isContent 9 = .ok (.iconst 5, 1) := by decide +kernel
theorem dX14_isContent_10 : decode cX14_isContent 10 = .ok (.invokevirtual 129, 3) := by decide +kernel
theorem dX14_isContent_13 : decode cX14_isContent 13 = .ok (.ifCond .ne 30, 3) := by decide +kernel
theorem dX14_isContent_16 : decode cX14_isContent 16 = .ok (.aload_n 0, 1) := by decide +kernel
theorem dX14_isContent_17 : decode cX14_isContent 17 = .ok (.bipush 7, 2) := by decide +kernel
theorem dX14_isContent_19 : decode cX14_isContent 19 = .ok (.invokevirtual 129, 3) := by decide +kernel
theorem dX14_isContent_22 : decode cX14_isContent 22 = .ok (.ifCond .ne 21, 3) := by decide +kernel
theorem dX14_isContent_25 : decode cX14_isContent 25 = .ok (.aload_n 0, 1) := by decide +kernel
theorem dX14_isContent_26 : decode cX14_isContent 26 = .ok (.bipush 25, 2) := by decide +kernel
theorem dX14_isContent_28 : decode cX14_isContent 28 = .ok (.invokevirtual 129, 3) := by decide +kernel
theorem dX14_isContent_31 : decode cX14_isContent 31 = .ok (.ifCond .ne 12, 3) := by decide +kernel
theorem dX14_isContent_34 : decode cX14_isContent 34 = .ok (.aload_n 0, 1) := by decide +kernel
theorem dX14_isContent_35 : decode cX14_isContent 35 = .ok (.bipush 26, 2) := by decide +kernel
theorem dX14_isContent_37 : decode cX14_isContent 37 = .ok (.invokevirtual 129, 3) := by decide +kernel
theorem dX14_isContent_40 : decode cX14_isContent 40 = .ok (.ifCond .eq 7, 3) := by decide +kernel
theorem dX14_isContent_43 : decode cX14_isContent 43 = .ok (.iconst 1, 1) := by decide +kernel
theorem dX14_isContent_44 : decode cX14_isContent 44 = .ok (.goto 4, 3) := by decide +kernel
theorem dX14_isContent_47 : decode cX14_isContent 47 = .ok (.iconst 0, 1) := by decide +kernel
theorem dX14_isContent_48 : decode cX14_isContent 48 = .ok (.ireturn, 1) := by decide +kernel
set_option maxRecDepth 20000 in
theorem ggX14_inBrackets_X14_wrong : GoodIn wsX14_inBrackets wsX14_wrong := goodIn_r _ [9, 4, 10, 3, 11, 72, 73, 74, 75, 76, 77, 78, 79, 80, 81, 82, 83, 84, 85, 86, 87, 88, 89, 90, 91, 92, 93, 94] (by decide +kernel) (by decide +kernel)
set_option maxRecDepth 20000 in
theorem gX14_inBrackets_X14_wrong : GoodIn wsX14_inBrackets (wsV RX14 132 RX14 yX14_wrong wsX14_wrong) := goodIn_app (goodIn_of _ (by decide +kernel)) ggX14_inBrackets_X14_wrong
set_option maxRecDepth 20000 in
theorem ggX14_inBrackets_X14_take : GoodIn wsX14_inBrackets wsX14_take := goodIn_r _ [15, 3, 16, 17, 18, 8, 19, 4, 2, 5, 6, 7, 9, 10, 11, 72, 73, 74, 75, 76, 77, 78, 79, 80, 81, 82, 83, 84, 85, 86, 87, 88, 89, 90, 91, 92, 93, 94] (by decide +kernel) (by decide +kernel)
set_option maxRecDepth 20000 in
theorem gX14_inBrackets_X14_take : GoodIn wsX14_inBrackets (wsV RX14 147 RX14 yX14_take wsX14_take) := goodIn_app (goodIn_of _ (by decide +kernel)) ggX14_inBrackets_X14_take
set_option maxRecDepth 20000 in
theorem ggX14_inBrackets_X14_value : GoodIn wsX14_inBrackets wsX14_value := goodIn_r _ [31, 3, 32, 2, 16, 17, 18, 8, 19, 4, 26, 27, 28, 29, 30, 33, 34, 35, 36, 37, 38, 39, 40, 12, 13, 14, 15, 5, 6, 7, 9, 10, 11, 41, 42, 43, 44, 45, 46, 47, 48, 49, 50, 51, 52, 53, 54, 55, 56, 57, 58, 59, 60, 61, 62, 63, 64, 65, 66, 67, 68, 69, 70, 71, 0, 1, 20, 21, 22, 23, 24, 25, 72, 73, 74, 75, 76, 77, 78, 79, 80, 81, 82, 83, 84, 85, 86, 87, 88, 89, 90, 91, 92, 93, 94, 95, 96, 97, 98, 99, 100, 101, 102, 103, 104, 105, 106, 107, 108, 109, 110, 111, 112, 113, 114, 115] (by decide +kernel) (by decide +kernel)
set_option maxRecDepth 20000 in
theorem gX14_inBrackets_X14_value : GoodIn wsX14_inBrackets (wsV RX14 174 RX14 yX14_value wsX14_value) := goodIn_app (goodIn_of _ (by decide +kernel)) ggX14_inBrackets_X14_value
set_option maxRecDepth 20000 in
theorem ggX14_inBrackets_X14_isIn : GoodIn wsX14_inBrackets wsX14_isIn := goodIn_r _ [25] (by decide +kernel) (by decide +kernel)
set_option maxRecDepth 20000 in
theorem gX14_inBrackets_X14_isIn : GoodIn wsX14_inBrackets (va_wsS RX14 69 yX14_isIn wsX14_isIn) := goodIn_app (goodIn_of _ (by decide +kernel)) ggX14_inBrackets_X14_isIn
set_option maxRecDepth 20000 in
theorem ggX14_inBrackets_X14_node : GoodIn wsX14_inBrackets wsX14_node := goodIn_r _ [29, 30, 72, 73, 74, 75, 76, 77, 78, 79, 80, 81, 82, 83, 84, 85, 86, 87, 88, 89, 90, 91, 92, 93, 94, 95, 96, 97, 98, 99, 100, 101, 102, 103, 104, 105, 106, 107, 108, 109, 110, 111, 112, 113, 114, 115] (by decide +kernel) (by decide +kernel)
set_option maxRecDepth 20000 in
theorem gX14_inBrackets_X14_node : GoodIn wsX14_inBrackets (wsV RX14 177 RX14 yX14_node wsX14_node) := goodIn_app (goodIn_of _ (by decide +kernel)) ggX14_inBrackets_X14_node
theorem dX14_inBrackets_0 : decode cX14_inBrackets 0 = .ok (.aload_n 0, 1) := by decide +kernel
theorem dX14_inBrackets_1 : decode cX14_inBrackets 1 = .ok (.getfield 171, 3) := by decide +kernel
theorem dX14_inBrackets_4 : decode cX14_inBrackets 4 = .ok (.iconst 4, 1) := by decide +kernel
theorem dX14_inBrackets_5 : decode cX14_inBrackets 5 = .ok (.if_icmp .ne 7, 3) := by decide +kernel
theorem dX14_inBrackets_8 : decode cX14_inBrackets 8 = .ok (.aload_n 0, 1) := by decide +kernel
theorem dX14_inBrackets_9 : decode cX14_inBrackets 9 = .ok (.invokevirtual 132, 3) := by decide +kernel
theorem dX14_inBrackets_12 : decode cX14_inBrackets 12 = .ok (.aload_n 0, 1) := by decide +kernel
theorem dX14_inBrackets_13 : decode cX14_inBrackets 13 = .ok (.bipush 50, 2) := by decide +kernel
theorem dX14_inBrackets_15 : decode cX14_inBrackets 15 = .ok (.invokevirtual 147, 3) := by decide +kernel
theorem dX14_inBrackets_18 : decode cX14_inBrackets 18 = .ok (.aload_n 0, 1) := by decide +kernel
theorem dX14_inBrackets_19 : decode cX14_inBrackets 19 = .ok (.dup, 1) := by decide +kernel
theorem dX14_inBrackets_20 : decode cX14_inBrackets 20 = .ok (.getfield 171, 3) := by decide +kernel
theorem dX14_inBrackets_23 : decode cX14_inBrackets 23 = .ok (.iconst 1, 1) := by decide +kernel
theorem dX14_inBrackets_24 : decode cX14_inBrackets 24 = .ok (.iadd, 1) := by decide +kernel
theorem dX14_inBrackets_25 : decode cX14_inBrackets 25 = .ok (.putfield 171, 3) := by decide +kernel
theorem dX14_inBrackets_28 : decode cX14_inBrackets 28 = .ok (.aload_n 0, 1) := by decide +kernel
theorem dX14_inBrackets_29 : decode cX14_inBrackets 29 = .ok (.invokevirtual 174, 3) := by decide +kernel
theorem dX14_inBrackets_32 : decode cX14_inBrackets 32 = .ok (.istore_n 1, 1) := by decide +kernel
theorem dX14_inBrackets_33 : decode cX14_inBrackets 33 = .ok (.aload_n 0, 1) := by decide +kernel
theorem dX14_inBrackets_34 : decode cX14_inBrackets 34 = .ok (.getfield 17, 3) := by decide +kernel
theorem dX14_inBrackets_37 : decode cX14_inBrackets 37 = .ok (.aload_n 0, 1) := by decide +kernel
theorem dX14_inBrackets_38 : decode cX14_inBrackets 38 = .ok (.getfield 120, 3) := by decide +kernel
theorem dX14_inBrackets_41 : decode cX14_inBrackets 41 = .ok (.iaload, 1) := by decide +kernel
theorem dX14_inBrackets_42 : decode cX14_inBrackets 42 = .ok (.istore_n 2, 1) := by decide +kernel
theorem dX14_inBrackets_43 : decode cX14_inBrackets 43 = .ok (.aload_n 0, 1) := by decide +kernel
theorem dX14_inBrackets_44 : decode cX14_inBrackets 44 = .ok (.getfield 116, 3) := by decide +kernel
theorem dX14_inBrackets_47 : decode cX14_inBrackets 47 = .ok (.ifCond .ne 14, 3) := by decide +kernel
theorem dX14_inBrackets_50 : decode cX14_inBrackets 50 = .ok (.iload_n 2, 1) := by decide +kernel
theorem dX14_inBrackets_51 : decode cX14_inBrackets 51 = .ok (.bipush 56, 2) := by decide +kernel
theorem dX14_inBrackets_53 : decode cX14_inBrackets 53 = .ok (.bipush 59, 2) := by decide +kernel
theorem dX14_inBrackets_55 : decode cX14_inBrackets 55 = .ok (.invokestatic 69, 3) := by decide +kernel
theorem dX14_inBrackets_58 : decode cX14_inBrackets 58 = .ok (.ifCond .ne 9, 3) := by decide +kernel
theorem dX14_inBrackets_61 : decode cX14_inBrackets 61 = .ok (.aload_n 0, 1) := by decide +kernel
theorem dX14_inBrackets_62 : decode cX14_inBrackets 62 = .ok (.invokevirtual 132, 3) := by decide +kernel
theorem dX14_inBrackets_65 : decode cX14_inBrackets 65 = .ok (.iconst 0, 1) := by decide +kernel
theorem dX14_inBrackets_66 : decode cX14_inBrackets 66 = .ok (.ireturn, 1) := by decide +kernel
theorem dX14_inBrackets_67 : decode cX14_inBrackets 67 = .ok (.aload_n 0, 1) := by decide +kernel
theorem dX14_inBrackets_68 : decode cX14_inBrackets 68 = .ok (.dup, 1) := by decide +kernel
theorem dX14_inBrackets_69 : decode cX14_inBrackets 69 = .ok (.getfield 120, 3) := by decide +kernel
theorem dX14_inBrackets_72 : decode cX14_inBrackets 72 = .ok (.iconst 1, 1) := by decide +kernel
theorem dX14_inBrackets_73 : decode cX14_inBrackets 73 = .ok (.iadd, 1) := by decide +kernel
theorem dX14_inBrackets_74 : decode cX14_inBrackets 74 = .ok (.putfield 120, 3) := by decide +kernel
theorem dX14_inBrackets_77 : decode cX14_inBrackets 77 = .ok (.aload_n 0, 1) := by decide +kernel
theorem dX14_inBrackets_78 : decode cX14_inBrackets 78 = .ok (.invokevirtual 174, 3) := by decide +kernel
theorem dX14_inBrackets_81 : decode cX14_inBrackets 81 = .ok (.istore_n 3, 1) := by decide +kernel
theorem dX14_inBrackets_82 : decode cX14_inBrackets 82 = .ok (.aload_n 0, 1) := by decide +kernel
theorem dX14_inBrackets_83 : decode cX14_inBrackets 83 = .ok (.bipush 51, 2) := by decide +kernel
theorem dX14_inBrackets_85 : decode cX14_inBrackets 85 = .ok (.invokevirtual 147, 3) := by decide +kernel
theorem dX14_inBrackets_88 : decode cX14_inBrackets 88 = .ok (.aload_n 0, 1) := by decide +kernel
theorem dX14_inBrackets_89 : decode cX14_inBrackets 89 = .ok (.dup, 1) := by decide +kernel
theorem dX14_inBrackets_90 : decode cX14_inBrackets 90 = .ok (.getfield 171, 3) := by decide +kernel
theorem dX14_inBrackets_93 : decode cX14_inBrackets 93 = .ok (.iconst 1, 1) := by decide +kernel
theorem dX14_inBrackets_94 : decode cX14_inBrackets 94 = .ok (.isub, 1) := by decide +kernel
theorem dX14_inBrackets_95 : decode cX14_inBrackets 95 = .ok (.putfield 171, 3) := by decide +kernel
theorem dX14_inBrackets_98 : decode cX14_inBrackets 98 = .ok (.aload_n 0, 1) := by decide +kernel
theorem dX14_inBrackets_99 : decode cX14_inBrackets 99 = .ok (.iload_n 2, 1) := by decide +kernel
theorem dX14_inBrackets_100 : decode cX14_inBrackets 100 = .ok (.iload_n 1, 1) := by decide +kernel
theorem dX14_inBrackets_101 : decode cX14_inBrackets 101 = .ok (.iload_n 3, 1) := by decide +kernel
theorem dX14_inBrackets_102 : decode cX14_inBrackets 102 = .ok (.invokevirtual 177, 3) := by decide +kernel
theorem dX14_inBrackets_105 : decode cX14_inBrackets 105 = .ok (.ireturn, 1) := by decide +kernel
set_option maxRecDepth 20000 in
theorem ggX14_value_X14_is : GoodIn wsX14_value wsX14_is := goodIn_r _ [8, 9, 3, 1, 72, 73, 74, 75, 76, 77, 78, 79, 80, 81, 82, 83, 84, 85, 86, 87, 88, 89, 90, 91, 92, 93, 94] (by decide +kernel) (by decide +kernel)
set_option maxRecDepth 20000 in
theorem gX14_value_X14_is : GoodIn wsX14_value (wsV RX14 129 RX14 yX14_is wsX14_is) := goodIn_app (goodIn_of _ (by decide +kernel)) ggX14_value_X14_is
set_option maxRecDepth 20000 in
theorem ggX14_value_X14_node : GoodIn wsX14_value wsX14_node := goodIn_r _ [13, 14, 72, 73, 74, 75, 76, 77, 78, 79, 80, 81, 82, 83, 84, 85, 86, 87, 88, 89, 90, 91, 92, 93, 94, 95, 96, 97, 98, 99, 100, 101, 102, 103, 104, 105, 106, 107, 108, 109, 110, 111, 112, 113, 114, 115] (by decide +kernel) (by decide +kernel)
set_option maxRecDepth 20000 in
theorem gX14_value_X14_node : GoodIn wsX14_value (wsV RX14 177 RX14 yX14_node wsX14_node) := goodIn_app (goodIn_of _ (by decide +kernel)) ggX14_value_X14_node
set_option maxRecDepth 20000 in
theorem ggX14_value_X14_takes : GoodIn wsX14_value wsX14_takes := goodIn_r _ [18, 1, 4, 5, 6, 7, 8, 9, 3, 72, 73, 74, 75, 76, 77, 78, 79, 80, 81, 82, 83, 84, 85, 86, 87, 88, 89, 90, 91, 92, 93, 94] (by decide +kernel) (by decide +kernel)
set_option maxRecDepth 20000 in
theorem gX14_value_X14_takes : GoodIn wsX14_value (wsV RX14 181 RX14 yX14_takes wsX14_takes) := goodIn_app (goodIn_of _ (by decide +kernel)) ggX14_value_X14_takes
set_option maxRecDepth 20000 in
theorem ggX14_value_X14_isContent : GoodIn wsX14_value wsX14_isContent := goodIn_r _ [22, 4, 5, 6, 7, 8, 9, 3, 1, 72, 73, 74, 75, 76, 77, 78, 79, 80, 81, 82, 83, 84, 85, 86, 87, 88, 89, 90, 91, 92, 93, 94] (by decide +kernel) (by decide +kernel)
set_option maxRecDepth 20000 in
theorem gX14_value_X14_isContent : GoodIn wsX14_value (wsV RX14 184 RX14 yX14_isContent wsX14_isContent) := goodIn_app (goodIn_of _ (by decide +kernel)) ggX14_value_X14_isContent
set_option maxRecDepth 20000 in
theorem ggX14_value_X14_take : GoodIn wsX14_value wsX14_take := goodIn_r _ [26, 1, 4, 5, 6, 7, 8, 9, 3, 27, 28, 29, 30, 31, 32, 72, 73, 74, 75, 76, 77, 78, 79, 80, 81, 82, 83, 84, 85, 86, 87, 88, 89, 90, 91, 92, 93, 94] (by decide +kernel) (by decide +kernel)
set_option maxRecDepth 20000 in
theorem gX14_value_X14_take : GoodIn wsX14_value (wsV RX14 147 RX14 yX14_take wsX14_take) := goodIn_app (goodIn_of _ (by decide +kernel)) ggX14_value_X14_take
set_option maxRecDepth 20000 in
theorem ggX14_value_X14_pan : GoodIn wsX14_value wsX14_pan := goodIn_r _ [36, 37, 14, 38, 39, 40, 7, 41, 42, 43, 44, 45, 4, 5, 6, 8, 9, 3, 1, 46, 47, 48, 49, 50, 51, 52, 53, 54, 55, 56, 57, 58, 59, 60, 31, 32, 23, 24, 25, 26, 27, 28, 29, 30, 72, 73, 74, 75, 76, 77, 78, 79, 80, 81, 82, 83, 84, 85, 86, 87, 88, 89, 90, 91, 92, 93, 94, 95, 96, 97, 98, 99, 100, 101, 102, 103, 104, 105, 106, 107, 108, 109, 110, 111, 112, 113, 114, 115] (by decide +kernel) (by decide +kernel)
set_option maxRecDepth 20000 in
theorem gX14_value_X14_pan : GoodIn wsX14_value (wsV RX14 188 RX14 yX14_pan wsX14_pan) := goodIn_app (goodIn_of _ (by decide +kernel)) ggX14_value_X14_pan
set_option maxRecDepth 20000 in
theorem ggX14_value_X14_inBrackets : GoodIn wsX14_value wsX14_inBrackets := goodIn_r _ [64, 65, 3, 1, 9, 27, 28, 29, 7, 30, 31, 32, 23, 24, 25, 26, 4, 5, 6, 8, 66, 67, 68, 69, 70, 71, 10, 11, 12, 13, 14, 0, 2, 15, 16, 17, 18, 19, 20, 21, 22, 33, 34, 35, 36, 37, 38, 39, 40, 41, 42, 43, 44, 45, 46, 47, 48, 49, 50, 51, 52, 53, 54, 55, 56, 57, 58, 59, 60, 61, 62, 63, 72, 73, 74, 75, 76, 77, 78, 79, 80, 81, 82, 83, 84, 85, 86, 87, 88, 89, 90, 91, 92, 93, 94, 95, 96, 97, 98, 99, 100, 101, 102, 103, 104, 105, 106, 107, 108, 109, 110, 111, 112, 113, 114, 115] (by decide +kernel) (by decide +kernel)
set_option maxRecDepth 20000 in
theorem gX14_value_X14_inBrackets : GoodIn wsX14_value (wsV RX14 191 RX14 yX14_inBrackets wsX14_inBrackets) := goodIn_app (goodIn_of _ (by decide +kernel)) ggX14_value_X14_inBrackets
set_option maxRecDepth 20000 in
theorem ggX14_value_X14_wrong : GoodIn wsX14_value wsX14_wrong := goodIn_r _ [30, 9, 31, 1, 32, 72, 73, 74, 75, 76, 77, 78, 79, 80, 81, 82, 83, 84, 85, 86, 87, 88, 89, 90, 91, 92, 93, 94] (by decide +kernel) (by decide +kernel)
set_option maxRecDepth 20000 in
theorem gX14_value_X14_wrong : GoodIn wsX14_value (wsV RX14 132 RX14 yX14_wrong wsX14_wrong) := goodIn_app (goodIn_of _ (by decide +kernel)) ggX14_value_X14_wrong
theorem dX14_value_0 : decode cX14_value 0 = .ok (.aload_n 0, 1) := by decide +kernel
theorem dX14_value_1 : decode cX14_value 1 = .ok (.bipush 41, 2) := by decide +kernel
theorem dX14_value_3 : decode cX14_value 3 = .ok (.invokevirtual 129, 3) := by decide +kernel
theorem dX14_value_6 : decode cX14_value 6 = .ok (.ifCond .eq 32, 3) := by decide +kernel
theorem dX14_value_9 : decode cX14_value 9 = .ok (.aload_n 0, 1) := by decide +kernel
theorem dX14_value_10 : decode cX14_value 10 = .ok (.dup, 1) := by decide +kernel
theorem dX14_value_11 : decode cX14_value 11 = .ok (.getfield 120, 3) := by decide +kernel
theorem dX14_value_14 : decode cX14_value 14 = .ok (.iconst 1, 1) := by decide +kernel
theorem dX14_value_15 : decode cX14_value 15 = .ok (.iadd, 1) := by decide +kernel
theorem dX14_value_16 : decode cX14_value 16 = .ok (.putfield 120, 3) := by decide +kernel
theorem dX14_value_19 : decode cX14_value 19 = .ok (.aload_n 0, 1) := by decide +kernel
theorem dX14_value_20 : decode cX14_value 20 = .ok (.bipush 41, 2) := by decide +kernel
theorem dX14_value_22 : decode cX14_value 22 = .ok (.aload_n 0, 1) := by decide +kernel
theorem dX14_value_23 : decode cX14_value 23 = .ok (.getfield 20, 3) := by decide +kernel
theorem dX14_value_26 : decode cX14_value 26 = .ok (.aload_n 0, 1) := by decide +kernel
theorem dX14_value_27 : decode cX14_value 27 = .ok (.getfield 120, 3) := by decide +kernel
theorem dX14_value_30 : decode cX14_value 30 = .ok (.iconst 1, 1) := by decide +kernel
theorem dX14_value_31 : decode cX14_value 31 = .ok (.isub, 1) := by decide +kernel
theorem dX14_value_32 : decode cX14_value 32 = .ok (.iaload, 1) := by decide +kernel
theorem dX14_value_33 : decode cX14_value 33 = .ok (.iconst 0, 1) := by decide +kernel
theorem dX14_value_34 : decode cX14_value 34 = .ok (.invokevirtual 177, 3) := by decide +kernel
theorem dX14_value_37 : decode cX14_value 37 = .ok (.ireturn, 1) := by decide +kernel
theorem dX14_value_38 : decode cX14_value 38 = .ok (.bipush 19, 2) := by decide +kernel
theorem dX14_value_40 : decode cX14_value 40 = .ok (.istore_n 1, 1) := by decide +kernel
theorem dX14_value_41 : decode cX14_value 41 = .ok (.iload_n 1, 1) := by decide +kernel
theorem dX14_value_42 : decode cX14_value 42 = .ok (.bipush 23, 2) := by decide +kernel
theorem dX14_value_44 : decode cX14_value 44 = .ok (.if_icmp .gt 25, 3) := by decide +kernel
theorem dX14_value_47 : decode cX14_value 47 = .ok (.aload_n 0, 1) := by decide +kernel
theorem dX14_value_48 : decode cX14_value 48 = .ok (.iload_n 1, 1) := by decide +kernel
theorem dX14_value_49 : decode cX14_value 49 = .ok (.invokevirtual 181, 3) := by decide +kernel
theorem dX14_value_52 : decode cX14_value 52 = .ok (.ifCond .eq 11, 3) := by decide +kernel
theorem dX14_value_55 : decode cX14_value 55 = .ok (.aload_n 0, 1) := by decide +kernel
theorem dX14_value_56 : decode cX14_value 56 = .ok (.iload_n 1, 1) := by decide +kernel
theorem dX14_value_57 : decode cX14_value 57 = .ok (.iconst 0, 1) := by decide +kernel
theorem dX14_value_58 : decode cX14_value 58 = .ok (.iconst 0, 1) := by decide +kernel
theorem dX14_value_59 : decode cX14_value 59 = .ok (.invokevirtual 177, 3) := by decide +kernel
theorem dX14_value_62 : decode cX14_value 62 = .ok (.ireturn, 1) := by decide +kernel
theorem dX14_value_63 : decode cX14_value 63 = .ok (.iinc 1 1, 3) := by decide +kernel
theorem dX14_value_66 : decode cX14_value 66 = .ok (.goto (-25), 3) := by decide +kernel
theorem dX14_value_69 : decode cX14_value 69 = .ok (.aload_n 0, 1) := by decide +kernel
theorem dX14_value_70 : decode cX14_value 70 = .ok (.invokevirtual 184, 3) := by decide +kernel
theorem dX14_value_73 : decode cX14_value 73 = .ok (.ifCond .eq 40, 3) := by decide +kernel
theorem dX14_value_76 : decode cX14_value 76 = .ok (.aload_n 0, 1) := by decide +kernel
theorem dX14_value_77 : decode cX14_value 77 = .ok (.getfield 17, 3) := by decide +kernel
theorem dX14_value_80 : decode cX14_value 80 = .ok (.aload_n 0, 1) := by decide +kernel
theorem dX14_value_81 : decode cX14_value 81 = .ok (.getfield 120, 3) := by decide +kernel
theorem dX14_value_84 : decode cX14_value 84 = .ok (.iaload, 1) := by decide +kernel
theorem dX14_value_85 : decode cX14_value 85 = .ok (.istore_n 1, 1) := by decide +kernel
theorem dX14_value_86 : decode cX14_value 86 = .ok (.aload_n 0, 1) := by decide +kernel
theorem dX14_value_87 : decode cX14_value 87 = .ok (.dup, 1) := by decide +kernel
theorem dX14_value_88 : decode cX14_value 88 = .ok (.getfield 120, 3) := by decide +kernel
theorem dX14_value_91 : decode cX14_value 91 = .ok (.iconst 1, 1) := by decide +kernel
theorem dX14_value_92 : decode cX14_value 92 = .ok (.iadd, 1) := by decide +kernel
theorem dX14_value_93 : decode cX14_value 93 = .ok (.putfield 120, 3) := by decide +kernel
theorem dX14_value_96 : decode cX14_value 96 = .ok (.aload_n 0, 1) := by decide +kernel
theorem dX14_value_97 : decode cX14_value 97 = .ok (.bipush 24, 2) := by decide +kernel
theorem dX14_value_99 : decode cX14_value 99 = .ok (.invokevirtual 147, 3) := by decide +kernel
theorem dX14_value_102 : decode cX14_value 102 = .ok (.aload_n 0, 1) := by decide +kernel
theorem dX14_value_103 : decode cX14_value 103 = .ok (.iload_n 1, 1) := by decide +kernel
theorem dX14_value_104 : decode cX14_value 104 = .ok (.aload_n 0, 1) := by decide +kernel
theorem dX14_value_105 : decode cX14_value 105 = .ok (.invokevirtual 188, 3) := by decide +kernel
theorem dX14_value_108 : decode cX14_value 108 = .ok (.iconst 0, 1) := by decide +kernel
theorem dX14_value_109 : decode cX14_value 109 = .ok (.invokevirtual 177, 3) := by decide +kernel
theorem dX14_value_112 : decode cX14_value 112 = .ok (.ireturn, 1) := by decide +kernel
theorem dX14_value_113 : decode cX14_value 113 = .ok (.aload_n 0, 1) := by decide +kernel
theorem dX14_value_114 : decode cX14_value 114 = .ok (.bipush 50, 2) := by decide +kernel
theorem dX14_value_116 : decode cX14_value 116 = .ok (.invokevirtual 129, 3) := by decide +kernel
theorem dX14_value_119 : decode cX14_value 119 = .ok (.ifCond .eq 8, 3) := by decide +kernel
theorem dX14_value_122 : decode cX14_value 122 = .ok (.aload_n 0, 1) := by decide +kernel
theorem dX14_value_123 : decode cX14_value 123 = .ok (.invokevirtual 191, 3) := by decide +kernel
theorem dX14_value_126 : decode cX14_value 126 = .ok (.ireturn, 1) := by decide +kernel
theorem dX14_value_127 : decode cX14_value 127 = .ok (.aload_n 0, 1) := by decide +kernel
theorem dX14_value_128 : decode cX14_value 128 = .ok (.invokevirtual 132, 3) := by decide +kernel
theorem dX14_value_131 : decode cX14_value 131 = .ok (.iconst 0, 1) := by decide +kernel
theorem dX14_value_132 : decode cX14_value 132 = .ok (.ireturn, 1) := by decide +kernel
set_option maxRecDepth 20000 in
theorem ggX14_compare_X14_value : GoodIn wsX14_compare wsX14_value := goodIn_r _ [9, 2, 10, 1, 11, 12, 13, 8, 14, 3, 15, 16, 17, 18, 4, 19, 20, 21, 22, 23, 24, 25, 26, 27, 28, 29, 30, 31, 32, 33, 34, 35, 36, 37, 38, 39, 40, 41, 42, 43, 44, 45, 46, 47, 48, 49, 50, 51, 52, 53, 54, 55, 56, 57, 58, 59, 60, 61, 62, 63, 64, 65, 66, 67, 68, 69, 5, 6, 7, 70, 71, 72, 73, 74, 75, 76, 77, 78, 79, 80, 81, 82, 83, 84, 85, 86, 87, 88, 89, 90, 91, 92, 93, 94, 95, 96, 97, 98, 99, 100, 101, 102, 103, 104, 105, 106, 107, 108, 109, 110, 111, 112, 113, 114, 115, 116] (by decide +kernel) (by decide +kernel)
set_option maxRecDepth 20000 in
theorem gX14_compare_X14_value : GoodIn wsX14_compare (wsV RX14 174 RX14 yX14_value wsX14_value) := goodIn_app (goodIn_of _ (by decide +kernel)) ggX14_compare_X14_value
set_option maxRecDepth 20000 in
theorem ggX14_compare_X14_isIn : GoodIn wsX14_compare wsX14_isIn := goodIn_r _ [72] (by decide +kernel) (by decide +kernel)
set_option maxRecDepth 20000 in
theorem gX14_compare_X14_isIn : GoodIn wsX14_compare (va_wsS RX14 69 yX14_isIn wsX14_isIn) := goodIn_app (goodIn_of _ (by decide +kernel)) ggX14_compare_X14_isIn
set_option maxRecDepth 20000 in
theorem ggX14_compare_X14_wrong : GoodIn wsX14_compare wsX14_wrong := goodIn_r _ [34, 3, 35, 2, 36, 73, 74, 75, 76, 77, 78, 79, 80, 81, 82, 83, 84, 85, 86, 87, 88, 89, 90, 91, 92, 93, 94, 95] (by decide +kernel) (by decide +kernel)
set_option maxRecDepth 20000 in
theorem gX14_compare_X14_wrong : GoodIn wsX14_compare (wsV RX14 132 RX14 yX14_wrong wsX14_wrong) := goodIn_app (goodIn_of _ (by decide +kernel)) ggX14_compare_X14_wrong
theorem dX14_compare_0 : decode cX14_compare 0 = .ok (.aload_n 0, 1) := by decide +kernel
theorem dX14_compare_1 : decode cX14_compare 1 = .ok (.invokevirtual 174, 3) := by decide +kernel
theorem dX14_compare_4 : decode cX14_compare 4 = .ok (.istore_n 1, 1) := by decide +kernel
theorem dX14_compare_5 : decode cX14_compare 5 = .ok (.aload_n 0, 1) := by decide +kernel
theorem dX14_compare_6 : decode cX14_compare 6 = .ok (.getfield 17, 3) := by decide +kernel
theorem dX14_compare_9 : decode cX14_compare 9 = .ok (.aload_n 0, 1) := by decide +kernel
theorem dX14_compare_10 : decode cX14_compare 10 = .ok (.getfield 120, 3) := by decide +kernel
theorem dX14_compare_13 : decode cX14_compare 13 = .ok (.iaload, 1) := by decide +kernel
theorem dX14_compare_14 : decode cX14_compare 14 = .ok (.istore_n 2, 1) := by decide +kernel
theorem dX14_compare_15 : decode cX14_compare 15 = .ok (.aload_n 0, 1) := by decide +kernel
theorem dX14_compare_16 : decode cX14_compare 16 = .ok (.getfield 116, 3) := by decide +kernel
theorem dX14_compare_19 : decode cX14_compare 19 = .ok (.ifCond .ne 14, 3) := by decide +kernel
theorem dX14_compare_22 : decode cX14_compare 22 = .ok (.iload_n 2, 1) := by decide +kernel
theorem dX14_compare_23 : decode cX14_compare 23 = .ok (.bipush 53, 2) := by decide +kernel
theorem dX14_compare_25 : decode cX14_compare 25 = .ok (.bipush 55, 2) := by decide +kernel
theorem dX14_compare_27 : decode cX14_compare 27 = .ok (.invokestatic 69, 3) := by decide +kernel
theorem dX14_compare_30 : decode cX14_compare 30 = .ok (.ifCond .ne 8, 3) := by decide +kernel
theorem dX14_compare_33 : decode cX14_compare 33 = .ok (.aload_n 0, 1) := by decide +kernel
theorem dX14_compare_34 : decode cX14_compare 34 = .ok (.invokevirtual 132, 3) := by decide +kernel
theorem dX14_compare_37 : decode cX14_compare 37 = .ok (.return_, 1) := by decide +kernel
theorem dX14_compare_38 : decode cX14_compare 38 = .ok (.aload_n 0, 1) := by decide +kernel
theorem dX14_compare_39 : decode cX14_compare 39 = .ok (.dup, 1) := by decide +kernel
theorem dX14_compare_40 : decode cX14_compare 40 = .ok (.getfield 120, 3) := by decide +kernel
theorem dX14_compare_43 : decode cX14_compare 43 = .ok (.iconst 1, 1) := by decide +kernel
theorem dX14_compare_44 : decode cX14_compare 44 = .ok (.iadd, 1) := by decide +kernel
theorem dX14_compare_45 : decode cX14_compare 45 = .ok (.putfield 120, 3) := by decide +kernel
theorem dX14_compare_48 : decode cX14_compare 48 = .ok (.aload_n 0, 1) := by decide +kernel
theorem dX14_compare_49 : decode cX14_compare 49 = .ok (.invokevirtual 174, 3) := by decide +kernel
theorem dX14_compare_52 : decode cX14_compare 52 = .ok (.istore_n 3, 1) := by decide +kernel
theorem dX14_compare_53 : decode cX14_compare 53 = .ok (.aload_n 0, 1) := by decide +kernel
theorem dX14_compare_54 : decode cX14_compare 54 = .ok (.getfield 42, 3) := by decide +kernel
theorem dX14_compare_57 : decode cX14_compare 57 = .ok (.getfield 194, 3) := by decide +kernel
theorem dX14_compare_60 : decode cX14_compare 60 = .ok (.istore 4, 2) := by decide +kernel
theorem dX14_compare_62 : decode cX14_compare 62 = .ok (.aload_n 0, 1) := by decide +kernel
theorem dX14_compare_63 : decode cX14_compare 63 = .ok (.getfield 42, 3) := by decide +kernel
theorem dX14_compare_66 : decode cX14_compare 66 = .ok (.getfield 197, 3) := by decide +kernel
theorem dX14_compare_69 : decode cX14_compare 69 = .ok (.iload 4, 2) := by decide +kernel
theorem dX14_compare_71 : decode cX14_compare 71 = .ok (.iload_n 2, 1) := by decide +kernel
theorem dX14_compare_72 : decode cX14_compare 72 = .ok (.iastore, 1) := by decide +kernel
theorem dX14_compare_73 : decode cX14_compare 73 = .ok (.aload_n 0, 1) := by decide +kernel
theorem dX14_compare_74 : decode cX14_compare 74 = .ok (.getfield 42, 3) := by decide +kernel
theorem dX14_compare_77 : decode cX14_compare 77 = .ok (.getfield 200, 3) := by decide +kernel
theorem dX14_compare_80 : decode cX14_compare 80 = .ok (.iload 4, 2) := by decide +kernel
theorem dX14_compare_82 : decode cX14_compare 82 = .ok (.iload_n 1, 1) := by decide +kernel
theorem dX14_compare_83 : decode cX14_compare 83 = .ok (.iastore, 1) := by decide +kernel
theorem dX14_compare_84 : decode cX14_compare 84 = .ok (.aload_n 0, 1) := by decide +kernel
theorem dX14_compare_85 : decode cX14_compare 85 = .ok (.getfield 42, 3) := by decide +kernel
theorem dX14_compare_88 : decode cX14_compare 88 = .ok (.getfield 203, 3) := by decide +kernel
theorem dX14_compare_91 : decode cX14_compare 91 = .ok (.iload 4, 2) := by decide +kernel
theorem dX14_compare_93 : decode cX14_compare 93 = .ok (.iload_n 3, 1) := by decide +kernel
theorem dX14_compare_94 : decode cX14_compare 94 = .ok (.iastore, 1) := by decide +kernel
theorem dX14_compare_95 : decode cX14_compare 95 = .ok (.aload_n 0, 1) := by decide +kernel
theorem dX14_compare_96 : decode cX14_compare 96 = .ok (.getfield 42, 3) := by decide +kernel
theorem dX14_compare_99 : decode cX14_compare 99 = .ok (.dup, 1) := by decide +kernel
theorem dX14_compare_100 : decode cX14_compare 100 = .ok (.getfield 194, 3) := by decide +kernel
theorem dX14_compare_103 : decode cX14_compare 103 = .ok (.iconst 1, 1) := by decide +kernel
theorem dX14_compare_104 : decode cX14_compare 104 = .ok (.iadd, 1) := by decide +kernel
theorem dX14_compare_105 : decode cX14_compare 105 = .ok (.putfield 194, 3) := by decide +kernel
theorem dX14_compare_108 : decode cX14_compare 108 = .ok (.return_, 1) := by decide +kernel
set_option maxRecDepth 20000 in
theorem ggX14_block_X14_wrong : GoodIn wsX14_block wsX14_wrong := goodIn_r _ [10, 2, 11, 4, 12, 102, 103, 104, 105, 106, 107, 108, 109, 110, 111, 112, 113, 114, 115, 116, 117, 118, 119, 120, 121, 122, 123, 124] (by decide +kernel) (by decide +kernel)
set_option maxRecDepth 20000 in
theorem gX14_block_X14_wrong : GoodIn wsX14_block (wsV RX14 132 RX14 yX14_wrong wsX14_wrong) := goodIn_app (goodIn_of _ (by decide +kernel)) ggX14_block_X14_wrong
set_option maxRecDepth 20000 in
theorem ggX14_block_X14_take : GoodIn wsX14_block wsX14_take := goodIn_r _ [16, 4, 17, 18, 19, 9, 20, 2, 3, 6, 7, 8, 10, 11, 12, 102, 103, 104, 105, 106, 107, 108, 109, 110, 111, 112, 113, 114, 115, 116, 117, 118, 119, 120, 121, 122, 123, 124] (by decide +kernel) (by decide +kernel)
set_option maxRecDepth 20000 in
theorem gX14_block_X14_take : GoodIn wsX14_block (wsV RX14 147 RX14 yX14_take wsX14_take) := goodIn_app (goodIn_of _ (by decide +kernel)) ggX14_block_X14_take
set_option maxRecDepth 20000 in
theorem ggX14_block_X14_act : GoodIn wsX14_block wsX14_act := goodIn_r _ [24, 5, 25, 26, 27, 28, 3, 4, 29, 30, 9, 31, 6, 7, 8, 10, 2, 11, 12, 32, 33, 34, 35, 36, 37, 38, 39, 40, 41, 42, 43, 44, 45, 46, 47, 48, 49, 50, 51, 52, 17, 18, 19, 20, 53, 54, 55, 56, 57, 58, 59, 60, 61, 62, 63, 64, 13, 14, 15, 16, 65, 66, 67, 68, 69, 70, 71, 72, 73, 74, 75, 76, 77, 78, 79, 80, 81, 82, 83, 84, 85, 86, 87, 88, 89, 90, 91, 92, 93, 94, 95, 96, 0, 1, 21, 22, 23, 97, 98, 99, 100, 101, 102, 103, 104, 105, 106, 107, 108, 109, 110, 111, 112, 113, 114, 115, 116, 117, 118, 119, 120, 121, 122, 123, 124, 125, 126, 127, 128, 129, 130, 131, 132, 133, 134, 135, 136, 137, 138, 139, 140, 141, 142, 143, 144, 145] (by decide +kernel) (by decide +kernel)
set_option maxRecDepth 20000 in
theorem gX14_block_X14_act : GoodIn wsX14_block (wsV RX14 209 RX14 yX14_act wsX14_act) := goodIn_app (goodIn_of _ (by decide +kernel)) ggX14_block_X14_act
theorem dX14_block_0 : decode cX14_block 0 = .ok (.aload_n 0, 1) := by decide +kernel
theorem dX14_block_1 : decode cX14_block 1 = .ok (.getfield 206, 3) := by decide +kernel
theorem dX14_block_4 : decode cX14_block 4 = .ok (.bipush 6, 2) := by decide +kernel
theorem dX14_block_6 : decode cX14_block 6 = .ok (.if_icmp .ne 7, 3) := by decide +kernel
theorem dX14_block_9 : decode cX14_block 9 = .ok (.aload_n 0, 1) := by decide +kernel
theorem dX14_block_10 : decode cX14_block 10 = .ok (.invokevirtual 132, 3) := by decide +kernel
theorem dX14_block_13 : decode cX14_block 13 = .ok (.aload_n 0, 1) := by decide +kernel
theorem dX14_block_14 : decode cX14_block 14 = .ok (.bipush 50, 2) := by decide +kernel
theorem dX14_block_16 : decode cX14_block 16 = .ok (.invokevirtual 147, 3) := by decide +kernel
theorem dX14_block_19 : decode cX14_block 19 = .ok (.aload_n 0, 1) := by decide +kernel
theorem dX14_block_20 : decode cX14_block 20 = .ok (.dup, 1) := by decide +kernel
theorem dX14_block_21 : decode cX14_block 21 = .ok (.getfield 206, 3) := by decide +kernel
theorem dX14_block_24 : decode cX14_block 24 = .ok (.iconst 1, 1) := by decide +kernel
theorem dX14_block_25 : decode cX14_block 25 = .ok (.iadd, 1) := by decide +kernel
theorem dX14_block_26 : decode cX14_block 26 = .ok (.putfield 206, 3) := by decide +kernel
theorem dX14_block_29 : decode cX14_block 29 = .ok (.iconst (-1), 1) := by decide +kernel
theorem dX14_block_30 : decode cX14_block 30 = .ok (.istore_n 1, 1) := by decide +kernel
theorem dX14_block_31 : decode cX14_block 31 = .ok (.iconst (-1), 1) := by decide +kernel
theorem dX14_block_32 : decode cX14_block 32 = .ok (.istore_n 2, 1) := by decide +kernel
theorem dX14_block_33 : decode cX14_block 33 = .ok (.aload_n 0, 1) := by decide +kernel
theorem dX14_block_34 : decode cX14_block 34 = .ok (.getfield 116, 3) := by decide +kernel
theorem dX14_block_37 : decode cX14_block 37 = .ok (.ifCond .ne 49, 3) := by decide +kernel
theorem dX14_block_40 : decode cX14_block 40 = .ok (.aload_n 0, 1) := by decide +kernel
theorem dX14_block_41 : decode cX14_block 41 = .ok (.getfield 17, 3) := by decide +kernel
theorem dX14_block_44 : decode cX14_block 44 = .ok (.aload_n 0, 1) := by decide +kernel
theorem dX14_block_45 : decode cX14_block 45 = .ok (.getfield 120, 3) := by decide +kernel
theorem dX14_block_48 : decode cX14_block 48 = .ok (.iaload, 1) := by decide +kernel
theorem dX14_block_49 : decode cX14_block 49 = .ok (.bipush 51, 2) := by decide +kernel
theorem dX14_block_51 : decode cX14_block 51 = .ok (.if_icmp .eq 35, 3) := by decide +kernel
theorem dX14_block_54 : decode cX14_block 54 = .ok (.aload_n 0, 1) := by decide +kernel
theorem dX14_block_55 : decode cX14_block 55 = .ok (.invokevirtual 209, 3) := by decide +kernel
theorem dX14_block_58 : decode cX14_block 58 = .ok (.istore_n 3, 1) := by decide +kernel
theorem dX14_block_59 : decode cX14_block 59 = .ok (.iload_n 1, 1) := by decide +kernel
theorem dX14_block_60 : decode cX14_block 60 = .ok (.iconst (-1), 1) := by decide +kernel
theorem dX14_block_61 : decode cX14_block 61 = .ok (.if_icmp .ne 5, 3) := by decide +kernel
theorem dX14_block_64 : decode cX14_block 64 = .ok (.iload_n 3, 1) := by decide +kernel
theorem dX14_block_65 : decode cX14_block 65 = .ok (.istore_n 1, 1) := by decide +kernel
theorem dX14_block_66 : decode cX14_block 66 = .ok (.iload_n 2, 1) := by decide +kernel
theorem dX14_block_67 : decode cX14_block 67 = .ok (.iconst (-1), 1) := by decide +kernel
theorem dX14_block_68 : decode cX14_block 68 = .ok (.if_icmp .eq 13, 3) := by decide +kernel
theorem dX14_block_71 : decode cX14_block 71 = .ok (.aload_n 0, 1) := by decide +kernel
theorem dX14_block_72 : decode cX14_block 72 = .ok (.getfield 42, 3) := by decide +kernel
theorem dX14_block_75 : decode cX14_block 75 = .ok (.getfield 212, 3) := by decide +kernel
theorem dX14_block_78 : decode cX14_block 78 = .ok (.iload_n 2, 1) := by decide +kernel
theorem dX14_block_79 : decode cX14_block 79 = .ok (.iload_n 3, 1) := by decide +kernel
theorem dX14_block_80 : decode cX14_block 80 = .ok (.iastore, 1) := by decide +kernel
theorem dX14_block_81 : decode cX14_block 81 = .ok (.iload_n 3, 1) := by decide +kernel
theorem dX14_block_82 : decode cX14_block 82 = .ok (.istore_n 2, 1) := by decide +kernel
theorem dX14_block_83 : decode cX14_block 83 = .ok (.goto (-50), 3) := by decide +kernel
theorem dX14_block_86 : decode cX14_block 86 = .ok (.aload_n 0, 1) := by decide +kernel
theorem dX14_block_87 : decode cX14_block 87 = .ok (.bipush 51, 2) := by decide +kernel
theorem dX14_block_89 : decode cX14_block 89 = .ok (.invokevirtual 147, 3) := by decide +kernel
theorem dX14_block_92 : decode cX14_block 92 = .ok (.aload_n 0, 1) := by decide +kernel
theorem dX14_block_93 : decode cX14_block 93 = .ok (.dup, 1) := by decide +kernel
theorem dX14_block_94 : decode cX14_block 94 = .ok (.getfield 206, 3) := by decide +kernel
theorem dX14_block_97 : decode cX14_block 97 = .ok (.iconst 1, 1) := by decide +kernel
theorem dX14_block_98 : decode cX14_block 98 = .ok (.isub, 1) := by decide +kernel
theorem dX14_block_99 : decode cX14_block 99 = .ok (.putfield 206, 3) := by decide +kernel
theorem dX14_block_102 : decode cX14_block 102 = .ok (.iload_n 1, 1) := by decide +kernel
theorem dX14_block_103 : decode cX14_block 103 = .ok (.ireturn, 1) := by decide +kernel
set_option maxRecDepth 20000 in
theorem ggX14_act_X14_isIn : GoodIn wsX14_act wsX14_isIn := goodIn_r _ [11] (by decide +kernel) (by decide +kernel)
set_option maxRecDepth 20000 in
theorem gX14_act_X14_isIn : GoodIn wsX14_act (va_wsS RX14 69 yX14_isIn wsX14_isIn) := goodIn_app (goodIn_of _ (by decide +kernel)) ggX14_act_X14_isIn
set_option maxRecDepth 20000 in
theorem ggX14_act_X14_wrong : GoodIn wsX14_act wsX14_wrong := goodIn_r _ [15, 16, 17, 7, 18, 102, 103, 104, 105, 106, 107, 108, 109, 110, 111, 112, 113, 114, 115, 116, 117, 118, 119, 120, 121, 122, 123, 124] (by decide +kernel) (by decide +kernel)
set_option maxRecDepth 20000 in
theorem gX14_act_X14_wrong : GoodIn wsX14_act (wsV RX14 132 RX14 yX14_wrong wsX14_wrong) := goodIn_app (goodIn_of _ (by decide +kernel)) ggX14_act_X14_wrong
set_option maxRecDepth 20000 in
theorem ggX14_act_X14_mark : GoodIn wsX14_act wsX14_mark := goodIn_r _ [22, 16, 17, 7, 18, 102, 103, 104, 105, 106, 107, 108, 109, 110, 111, 112, 113, 114, 115, 116, 117, 118, 119, 120, 121, 122, 123, 124] (by decide +kernel) (by decide +kernel)
set_option maxRecDepth 20000 in
theorem gX14_act_X14_mark : GoodIn wsX14_act (wsV RX14 143 RX14 yX14_mark wsX14_mark) := goodIn_app (goodIn_of _ (by decide +kernel)) ggX14_act_X14_mark
set_option maxRecDepth 20000 in
theorem ggX14_act_X14_again : GoodIn wsX14_act wsX14_again := goodIn_r _ [88, 1, 35, 36, 37, 10, 38, 7, 39, 6, 40, 41, 42, 43, 16, 44, 45, 46, 47, 48, 49, 50, 51, 52, 53, 54, 55, 56, 57, 58, 59, 12, 13, 14, 15, 17, 18, 60, 61, 62, 63, 64, 65, 66, 67, 68, 69, 70, 4, 71, 72, 73, 74, 75, 76, 77, 78, 79, 80, 81, 82, 19, 20, 21, 22, 83, 84, 85, 86, 87, 8, 9, 11, 89, 90, 91, 0, 2, 3, 5, 23, 24, 25, 26, 27, 28, 29, 30, 31, 32, 33, 34, 92, 93, 94, 95, 96, 97, 98, 99, 100, 101, 102, 103, 104, 105, 106, 107, 108, 109, 110, 111, 112, 113, 114, 115, 116, 117, 118, 119, 120, 121, 122, 123, 124, 125, 126, 127, 128, 129, 130, 131, 132, 133, 134, 135, 136, 137, 138, 139, 140, 141, 142, 143, 144, 145] (by decide +kernel) (by decide +kernel)
set_option maxRecDepth 20000 in
theorem gX14_act_X14_again : GoodIn wsX14_act (wsV RX14 227 RX14 yX14_again wsX14_again) := goodIn_app (goodIn_of _ (by decide +kernel)) ggX14_act_X14_again
set_option maxRecDepth 20000 in
theorem ggX14_act_X14_choice : GoodIn wsX14_act wsX14_choice := goodIn_r _ [97, 1, 98, 99, 100, 10, 101, 6, 7, 16, 35, 36, 37, 38, 39, 40, 41, 42, 43, 44, 45, 46, 47, 48, 49, 50, 51, 52, 53, 54, 55, 56, 57, 58, 59, 12, 13, 14, 15, 17, 18, 60, 61, 62, 63, 64, 65, 66, 67, 68, 69, 70, 4, 71, 72, 73, 74, 75, 76, 77, 78, 79, 80, 81, 82, 19, 20, 21, 22, 83, 84, 85, 86, 87, 8, 9, 11, 89, 90, 91, 0, 2, 3, 5, 23, 24, 25, 26, 27, 28, 29, 30, 31, 32, 33, 34, 88, 92, 93, 94, 95, 96, 102, 103, 104, 105, 106, 107, 108, 109, 110, 111, 112, 113, 114, 115, 116, 117, 118, 119, 120, 121, 122, 123, 124, 125, 126, 127, 128, 129, 130, 131, 132, 133, 134, 135, 136, 137, 138, 139, 140, 141, 142, 143, 144, 145] (by decide +kernel) (by decide +kernel)
set_option maxRecDepth 20000 in
theorem gX14_act_X14_choice : GoodIn wsX14_act (wsV RX14 230 RX14 yX14_choice wsX14_choice) := goodIn_app (goodIn_of _ (by decide +kernel)) ggX14_act_X14_choice
set_option maxRecDepth 20000 in
theorem ggX14_act_X14_plain : GoodIn wsX14_act wsX14_plain := goodIn_r _ [32, 1, 16, 7, 33, 34, 35, 36, 37, 10, 38, 39, 6, 40, 41, 42, 43, 44, 45, 46, 47, 48, 49, 50, 51, 52, 53, 54, 55, 56, 57, 58, 59, 12, 13, 14, 15, 17, 18, 60, 61, 62, 63, 64, 65, 66, 67, 68, 69, 70, 4, 71, 72, 73, 74, 75, 76, 77, 78, 79, 80, 81, 82, 19, 20, 21, 22, 83, 84, 85, 86, 87, 8, 9, 11, 102, 103, 104, 105, 106, 107, 108, 109, 110, 111, 112, 113, 114, 115, 116, 117, 118, 119, 120, 121, 122, 123, 124, 125, 126, 127, 128, 129, 130, 131, 132, 133, 134, 135, 136, 137, 138, 139, 140, 141, 142, 143, 144, 145] (by decide +kernel) (by decide +kernel)
set_option maxRecDepth 20000 in
theorem gX14_act_X14_plain : GoodIn wsX14_act (wsV RX14 233 RX14 yX14_plain wsX14_plain) := goodIn_app (goodIn_of _ (by decide +kernel)) ggX14_act_X14_plain
theorem dX14_act_0 : decode cX14_act 0 = .ok (.bipush 80, 2) := by decide +kernel
theorem dX14_act_2 : decode cX14_act 2 = .ok (.aload_n 0, 1) := by decide +kernel
theorem dX14_act_3 : decode cX14_act 3 = .ok (.getfield 42, 3) := by decide +kernel
theorem dX14_act_6 : decode cX14_act 6 = .ok (.getfield 215, 3) := by decide +kernel
theorem dX14_act_9 : decode cX14_act 9 = .ok (.invokestatic 57, 3) := by decide +kernel
theorem dX14_act_12 : decode cX14_act 12 = .ok (.istore_n 1, 1) := by decide +kernel
theorem dX14_act_13 : decode cX14_act 13 = .ok (.aload_n 0, 1) := by decide +kernel
theorem dX14_act_14 : decode cX14_act 14 = .ok (.getfield 17, 3) := by decide +kernel
theorem dX14_act_17 : decode cX14_act 17 = .ok (.aload_n 0, 1) := by decide +kernel
theorem dX14_act_18 : decode cX14_act 18 = .ok (.getfield 120, 3) := by decide +kernel
theorem dX14_act_21 : decode cX14_act 21 = .ok (.iaload, 1) := by decide +kernel
theorem dX14_act_22 : decode cX14_act 22 = .ok (.istore_n 2, 1) := by decide +kernel
theorem dX14_act_23 : decode cX14_act 23 = .ok (.iload_n 2, 1) := by decide +kernel
theorem dX14_act_24 : decode cX14_act 24 = .ok (.iconst 3, 1) := by decide +kernel
theorem dX14_act_25 : decode cX14_act 25 = .ok (.if_icmp .eq 32, 3) := by decide +kernel
theorem dX14_act_28 : decode cX14_act 28 = .ok (.iload_n 2, 1) := by decide +kernel
theorem dX14_act_29 : decode cX14_act 29 = .ok (.bipush 7, 2) := by decide +kernel
theorem dX14_act_31 : decode cX14_act 31 = .ok (.if_icmp .eq 26, 3) := by decide +kernel
theorem dX14_act_34 : decode cX14_act 34 = .ok (.iload_n 2, 1) := by decide +kernel
theorem dX14_act_35 : decode cX14_act 35 = .ok (.bipush 9, 2) := by decide +kernel
theorem dX14_act_37 : decode cX14_act 37 = .ok (.if_icmp .eq 20, 3) := by decide +kernel
theorem dX14_act_40 : decode cX14_act 40 = .ok (.iload_n 2, 1) := by decide +kernel
theorem dX14_act_41 : decode cX14_act 41 = .ok (.bipush 11, 2) := by decide +kernel
theorem dX14_act_43 : decode cX14_act 43 = .ok (.bipush 16, 2) := by decide +kernel
theorem dX14_act_45 : decode cX14_act 45 = .ok (.invokestatic 69, 3) := by decide +kernel
theorem dX14_act_48 : decode cX14_act 48 = .ok (.ifCond .ne 9, 3) := by decide +kernel
theorem dX14_act_51 : decode cX14_act 51 = .ok (.aload_n 0, 1) := by decide +kernel
theorem dX14_act_52 : decode cX14_act 52 = .ok (.invokevirtual 132, 3) := by decide +kernel
theorem dX14_act_55 : decode cX14_act 55 = .ok (.iload_n 1, 1) := by decide +kernel
theorem dX14_act_56 : decode cX14_act 56 = .ok (.ireturn, 1) := by decide +kernel
theorem dX14_act_57 : decode cX14_act 57 = .ok (.iload_n 1, 1) := by decide +kernel
theorem dX14_act_58 : decode cX14_act 58 = .ok (.bipush 80, 2) := by decide +kernel
theorem dX14_act_60 : decode cX14_act 60 = .ok (.if_icmp .ne 8, 3) := by decide +kernel
theorem dX14_act_63 : decode cX14_act 63 = .ok (.aload_n 0, 1) := by decide +kernel
theorem dX14_act_64 : decode cX14_act 64 = .ok (.iconst 4, 1) := by decide +kernel
theorem dX14_act_65 : decode cX14_act 65 = .ok (.invokevirtual 143, 3) := by decide +kernel
theorem dX14_act_68 : decode cX14_act 68 = .ok (.aload_n 0, 1) := by decide +kernel
theorem dX14_act_69 : decode cX14_act 69 = .ok (.getfield 42, 3) := by decide +kernel
theorem dX14_act_72 : decode cX14_act 72 = .ok (.bipush 80, 2) := by decide +kernel
theorem dX14_act_74 : decode cX14_act 74 = .ok (.iload_n 1, 1) := by decide +kernel
theorem dX14_act_75 : decode cX14_act 75 = .ok (.iconst 1, 1) := by decide +kernel
theorem dX14_act_76 : decode cX14_act 76 = .ok (.iadd, 1) := by decide +kernel
theorem dX14_act_77 : decode cX14_act 77 = .ok (.invokestatic 57, 3) := by decide +kernel
theorem dX14_act_80 : decode cX14_act 80 = .ok (.putfield 215, 3) := by decide +kernel
theorem dX14_act_83 : decode cX14_act 83 = .ok (.aload_n 0, 1) := by decide +kernel
theorem dX14_act_84 : decode cX14_act 84 = .ok (.dup, 1) := by decide +kernel
theorem dX14_act_85 : decode cX14_act 85 = .ok (.getfield 120, 3) := by decide +kernel
theorem dX14_act_88 : decode cX14_act 88 = .ok (.iconst 1, 1) := by decide +kernel
theorem dX14_act_89 : decode cX14_act 89 = .ok (.iadd, 1) := by decide +kernel
theorem dX14_act_90 : decode cX14_act 90 = .ok (.putfield 120, 3) := by decide +kernel
theorem dX14_act_93 : decode cX14_act 93 = .ok (.aload_n 0, 1) := by decide +kernel
theorem dX14_act_94 : decode cX14_act 94 = .ok (.getfield 42, 3) := by decide +kernel
theorem dX14_act_97 : decode cX14_act 97 = .ok (.getfield 218, 3) := by decide +kernel
theorem dX14_act_100 : decode cX14_act 100 = .ok (.iload_n 1, 1) := by decide +kernel
theorem dX14_act_101 : decode cX14_act 101 = .ok (.iload_n 2, 1) := by decide +kernel
theorem dX14_act_102 : decode cX14_act 102 = .ok (.iastore, 1) := by decide +kernel
theorem dX14_act_103 : decode cX14_act 103 = .ok (.aload_n 0, 1) := by decide +kernel
theorem dX14_act_104 : decode cX14_act 104 = .ok (.getfield 42, 3) := by decide +kernel
theorem dX14_act_107 : decode cX14_act 107 = .ok (.getfield 212, 3) := by decide +kernel
theorem dX14_act_110 : decode cX14_act 110 = .ok (.iload_n 1, 1) := by decide +kernel
theorem dX14_act_111 : decode cX14_act 111 = .ok (.iconst (-1), 1) := by decide +kernel
theorem dX14_act_112 : decode cX14_act 112 = .ok (.iastore, 1) := by decide +kernel
theorem dX14_act_113 : decode cX14_act 113 = .ok (.aload_n 0, 1) := by decide +kernel
theorem dX14_act_114 : decode cX14_act 114 = .ok (.getfield 42, 3) := by decide +kernel
theorem dX14_act_117 : decode cX14_act 117 = .ok (.getfield 221, 3) := by decide +kernel
theorem dX14_act_120 : decode cX14_act 120 = .ok (.iload_n 1, 1) := by decide +kernel
theorem dX14_act_121 : decode cX14_act 121 = .ok (.iconst (-1), 1) := by decide +kernel
theorem dX14_act_122 : decode cX14_act 122 = .ok (.iastore, 1) := by decide +kernel
theorem dX14_act_123 : decode cX14_act 123 = .ok (.aload_n 0, 1) := by decide +kernel
theorem dX14_act_124 : decode cX14_act 124 = .ok (.getfield 42, 3) := by decide +kernel
theorem dX14_act_127 : decode cX14_act 127 = .ok (.getfield 224, 3) := by decide +kernel
theorem dX14_act_130 : decode cX14_act 130 = .ok (.iload_n 1, 1) := by decide +kernel
theorem dX14_act_131 : decode cX14_act 131 = .ok (.iconst (-1), 1) := by decide +kernel
theorem dX14_act_132 : decode cX14_act 132 = .ok (.iastore, 1) := by decide +kernel
theorem dX14_act_133 : decode cX14_act 133 = .ok (.iload_n 2, 1) := by decide +kernel
theorem dX14_act_134 : decode cX14_act 134 = .ok (.bipush 15, 2) := by decide +kernel
theorem dX14_act_136 : decode cX14_act 136 = .ok (.if_icmp .ne 11, 3) := by decide +kernel
theorem dX14_act_139 : decode cX14_act 139 = .ok (.aload_n 0, 1) := by decide +kernel
theorem dX14_act_140 : decode cX14_act 140 = .ok (.iload_n 1, 1) := by decide +kernel
theorem dX14_act_141 : decode cX14_act 141 = .ok (.invokevirtual 227, 3) := by decide +kernel
theorem dX14_act_144 : decode cX14_act 144 = .ok (.goto 23, 3) := by decide +kernel
theorem dX14_act_147 : decode cX14_act 147 = .ok (.iload_n 2, 1) := by decide +kernel
theorem dX14_act_148 : decode cX14_act 148 = .ok (.bipush 16, 2) := by decide +kernel
theorem dX14_act_150 : decode cX14_act 150 = .ok (.if_icmp .ne 11, 3) := by decide +kernel
theorem dX14_act_153 : decode cX14_act 153 = .ok (.aload_n 0, 1) := by decide +kernel
theorem dX14_act_154 : decode cX14_act 154 = .ok (.iload_n 1, 1) := by decide +kernel
theorem dX14_act_155 : decode cX14_act 155 = .ok (.invokevirtual 230, 3) := by decide +kernel
theorem dX14_act_158 : decode cX14_act 158 = .ok (.goto 9, 3) := by decide +kernel
theorem dX14_act_161 : decode cX14_act 161 = .ok (.aload_n 0, 1) := by decide +kernel
theorem dX14_act_162 : decode cX14_act 162 = .ok (.iload_n 1, 1) := by decide +kernel
theorem dX14_act_163 : decode cX14_act 163 = .ok (.iload_n 2, 1) := by decide +kernel
theorem dX14_act_164 : decode cX14_act 164 = .ok (.invokevirtual 233, 3) := by decide +kernel
theorem dX14_act_167 : decode cX14_act 167 = .ok (.iload_n 1, 1) := by decide +kernel
theorem dX14_act_168 : decode cX14_act 168 = .ok (.ireturn, 1) := by decide +kernel
set_option maxRecDepth 20000 in
theorem ggX14_again_X14_value : GoodIn wsX14_again wsX14_value := goodIn_r _ [6, 7, 8, 9, 10, 11, 12, 5, 13, 14, 15, 16, 17, 18, 1, 19, 20, 21, 22, 23, 24, 25, 26, 27, 28, 29, 30, 31, 32, 33, 34, 35, 36, 37, 38, 39, 40, 41, 42, 43, 44, 45, 46, 47, 48, 49, 50, 51, 52, 53, 54, 55, 56, 57, 58, 59, 60, 61, 62, 63, 64, 65, 66, 67, 68, 69, 2, 3, 4, 70, 71, 72, 102, 103, 104, 105, 106, 107, 108, 109, 110, 111, 112, 113, 114, 115, 116, 117, 118, 119, 120, 121, 122, 123, 124, 125, 126, 127, 128, 129, 130, 131, 132, 133, 134, 135, 136, 137, 138, 139, 140, 141, 142, 143, 144, 145] (by decide +kernel) (by decide +kernel)
set_option maxRecDepth 20000 in
theorem gX14_again_X14_value : GoodIn wsX14_again (wsV RX14 174 RX14 yX14_value wsX14_value) := goodIn_app (goodIn_of _ (by decide +kernel)) ggX14_again_X14_value
set_option maxRecDepth 20000 in
theorem ggX14_again_X14_block : GoodIn wsX14_again wsX14_block := goodIn_r _ [92, 93, 14, 9, 7, 1, 31, 32, 33, 5, 34, 35, 36, 27, 28, 29, 30, 10, 11, 12, 13, 94, 95, 96, 76, 77, 78, 48, 79, 70, 71, 72, 61, 62, 63, 64, 80, 81, 82, 83, 84, 85, 86, 87, 88, 89, 90, 91, 2, 3, 4, 6, 8, 15, 16, 17, 18, 19, 20, 21, 22, 23, 24, 25, 26, 37, 38, 39, 40, 41, 42, 43, 44, 45, 46, 47, 49, 50, 51, 52, 53, 54, 55, 56, 57, 58, 59, 60, 65, 66, 67, 68, 69, 0, 73, 74, 75, 97, 98, 99, 100, 101, 102, 103, 104, 105, 106, 107, 108, 109, 110, 111, 112, 113, 114, 115, 116, 117, 118, 119, 120, 121, 122, 123, 124, 125, 126, 127, 128, 129, 130, 131, 132, 133, 134, 135, 136, 137, 138, 139, 140, 141, 142, 143, 144, 145] (by decide +kernel) (by decide +kernel)
set_option maxRecDepth 20000 in
theorem gX14_again_X14_block : GoodIn wsX14_again (wsV RX14 237 RX14 yX14_block wsX14_block) := goodIn_app (goodIn_of _ (by decide +kernel)) ggX14_again_X14_block
theorem dX14_again_0 : decode cX14_again 0 = .ok (.aload_n 0, 1) := by decide +kernel
theorem dX14_again_1 : decode cX14_again 1 = .ok (.invokevirtual 174, 3) := by decide +kernel
theorem dX14_again_4 : decode cX14_again 4 = .ok (.istore_n 2, 1) := by decide +kernel
theorem dX14_again_5 : decode cX14_again 5 = .ok (.aload_n 0, 1) := by decide +kernel
theorem dX14_again_6 : decode cX14_again 6 = .ok (.invokevirtual 237, 3) := by decide +kernel
theorem dX14_again_9 : decode cX14_again 9 = .ok (.istore_n 3, 1) := by decide +kernel
theorem dX14_again_10 : decode cX14_again 10 = .ok (.aload_n 0, 1) := by decide +kernel
theorem dX14_again_11 : decode cX14_again 11 = .ok (.getfield 42, 3) := by decide +kernel
theorem dX14_again_14 : decode cX14_again 14 = .ok (.getfield 239, 3) := by decide +kernel
theorem dX14_again_17 : decode cX14_again 17 = .ok (.iload_n 1, 1) := by decide +kernel
theorem dX14_again_18 : decode cX14_again 18 = .ok (.iload_n 2, 1) := by decide +kernel
theorem dX14_again_19 : decode cX14_again 19 = .ok (.iastore, 1) := by decide +kernel
theorem dX14_again_20 : decode cX14_again 20 = .ok (.aload_n 0, 1) := by decide +kernel
theorem dX14_again_21 : decode cX14_again 21 = .ok (.getfield 42, 3) := by decide +kernel
theorem dX14_again_24 : decode cX14_again 24 = .ok (.getfield 221, 3) := by decide +kernel
theorem dX14_again_27 : decode cX14_again 27 = .ok (.iload_n 1, 1) := by decide +kernel
theorem dX14_again_28 : decode cX14_again 28 = .ok (.iload_n 3, 1) := by decide +kernel
theorem dX14_again_29 : decode cX14_again 29 = .ok (.iastore, 1) := by decide +kernel
theorem dX14_again_30 : decode cX14_again 30 = .ok (.return_, 1) := by decide +kernel
set_option maxRecDepth 20000 in
theorem ggX14_choice_X14_compare : GoodIn wsX14_choice wsX14_compare := goodIn_r _ [6, 7, 8, 9, 1, 10, 11, 12, 5, 13, 14, 15, 16, 17, 18, 19, 20, 21, 22, 23, 24, 25, 26, 27, 28, 29, 30, 31, 32, 33, 34, 35, 36, 37, 38, 39, 40, 41, 42, 43, 44, 45, 46, 47, 48, 49, 50, 51, 52, 53, 54, 55, 56, 57, 58, 59, 60, 61, 62, 63, 64, 65, 66, 67, 68, 69, 70, 71, 72, 73, 74, 75, 76, 102, 103, 104, 105, 106, 107, 108, 109, 110, 111, 112, 113, 114, 115, 116, 117, 118, 119, 120, 121, 122, 123, 124, 125, 126, 127, 128, 129, 130, 131, 132, 133, 134, 135, 136, 137, 138, 139, 140, 141, 142, 143, 144, 145] (by decide +kernel) (by decide +kernel)
set_option maxRecDepth 20000 in
theorem gX14_choice_X14_compare : GoodIn wsX14_choice (wsV RX14 241 RX14 yX14_compare wsX14_compare) := goodIn_app (goodIn_of _ (by decide +kernel)) ggX14_choice_X14_compare
set_option maxRecDepth 20000 in
theorem ggX14_choice_X14_takes : GoodIn wsX14_choice wsX14_takes := goodIn_r _ [26, 8, 15, 16, 17, 5, 18, 9, 7, 102, 103, 104, 105, 106, 107, 108, 109, 110, 111, 112, 113, 114, 115, 116, 117, 118, 119, 120, 121, 122, 123, 124] (by decide +kernel) (by decide +kernel)
set_option maxRecDepth 20000 in
theorem gX14_choice_X14_takes : GoodIn wsX14_choice (wsV RX14 181 RX14 yX14_takes wsX14_takes) := goodIn_app (goodIn_of _ (by decide +kernel)) ggX14_choice_X14_takes
set_option maxRecDepth 20000 in
theorem ggX14_choice_X14_block : GoodIn wsX14_choice wsX14_block := goodIn_r _ [97, 98, 9, 7, 8, 1, 35, 36, 37, 5, 38, 39, 40, 31, 32, 33, 34, 15, 16, 17, 18, 99, 100, 101, 80, 81, 82, 52, 83, 74, 75, 76, 65, 66, 67, 68, 84, 85, 86, 87, 88, 89, 90, 91, 92, 93, 94, 95, 10, 11, 12, 13, 14, 19, 20, 21, 22, 23, 24, 25, 26, 27, 28, 29, 30, 41, 42, 43, 44, 45, 46, 47, 48, 49, 50, 51, 53, 54, 55, 56, 57, 58, 59, 60, 61, 62, 63, 64, 69, 70, 71, 72, 73, 96, 77, 78, 79, 0, 2, 3, 4, 6, 102, 103, 104, 105, 106, 107, 108, 109, 110, 111, 112, 113, 114, 115, 116, 117, 118, 119, 120, 121, 122, 123, 124, 125, 126, 127, 128, 129, 130, 131, 132, 133, 134, 135, 136, 137, 138, 139, 140, 141, 142, 143, 144, 145] (by decide +kernel) (by decide +kernel)
set_option maxRecDepth 20000 in
theorem gX14_choice_X14_block : GoodIn wsX14_choice (wsV RX14 237 RX14 yX14_block wsX14_block) := goodIn_app (goodIn_of _ (by decide +kernel)) ggX14_choice_X14_block
theorem dX14_choice_0 : decode cX14_choice 0 = .ok (.aload_n 0, 1) := by decide +kernel
theorem dX14_choice_1 : decode cX14_choice 1 = .ok (.getfield 42, 3) := by decide +kernel
theorem dX14_choice_4 : decode cX14_choice 4 = .ok (.getfield 194, 3) := by decide +kernel
theorem dX14_choice_7 : decode cX14_choice 7 = .ok (.istore_n 2, 1) := by decide +kernel
theorem dX14_choice_8 : decode cX14_choice 8 = .ok (.aload_n 0, 1) := by decide +kernel
theorem dX14_choice_9 : decode cX14_choice 9 = .ok (.invokevirtual 241, 3) := by decide +kernel
theorem dX14_choice_12 : decode cX14_choice 12 = .ok (.aload_n 0, 1) := by decide +kernel
theorem dX14_choice_13 : decode cX14_choice 13 = .ok (.bipush 17, 2) := by decide +kernel
theorem dX14_choice_15 : decode cX14_choice 15 = .ok (.invokevirtual 181, 3) := by decide +kernel
theorem dX14_choice_18 : decode cX14_choice 18 = .ok (.ifCond .eq 10, 3) := by decide +kernel
theorem dX14_choice_21 : decode cX14_choice 21 = .ok (.aload_n 0, 1) := by decide +kernel
theorem dX14_choice_22 : decode cX14_choice 22 = .ok (.invokevirtual 241, 3) := by decide +kernel
theorem dX14_choice_25 : decode cX14_choice 25 = .ok (.goto (-13), 3) := by decide +kernel
theorem dX14_choice_28 : decode cX14_choice 28 = .ok (.aload_n 0, 1) := by decide +kernel
theorem dX14_choice_29 : decode cX14_choice 29 = .ok (.getfield 42, 3) := by decide +kernel
theorem dX14_choice_32 : decode cX14_choice 32 = .ok (.getfield 194, 3) := by decide +kernel
theorem dX14_choice_35 : decode cX14_choice 35 = .ok (.istore_n 3, 1) := by decide +kernel
theorem dX14_choice_36 : decode cX14_choice 36 = .ok (.aload_n 0, 1) := by decide +kernel
theorem dX14_choice_37 : decode cX14_choice 37 = .ok (.invokevirtual 237, 3) := by decide +kernel
theorem dX14_choice_40 : decode cX14_choice 40 = .ok (.istore 4, 2) := by decide +kernel
theorem dX14_choice_42 : decode cX14_choice 42 = .ok (.aload_n 0, 1) := by decide +kernel
theorem dX14_choice_43 : decode cX14_choice 43 = .ok (.bipush 18, 2) := by decide +kernel
theorem dX14_choice_45 : decode cX14_choice 45 = .ok (.invokevirtual 181, 3) := by decide +kernel
theorem dX14_choice_48 : decode cX14_choice 48 = .ok (.ifCond .eq 10, 3) := by decide +kernel
theorem dX14_choice_51 : decode cX14_choice 51 = .ok (.aload_n 0, 1) := by decide +kernel
theorem dX14_choice_52 : decode cX14_choice 52 = .ok (.invokevirtual 237, 3) := by decide +kernel
theorem dX14_choice_55 : decode cX14_choice 55 = .ok (.goto 4, 3) := by decide +kernel
theorem dX14_choice_58 : decode cX14_choice 58 = .ok (.iconst (-1), 1) := by decide +kernel
theorem dX14_choice_59 : decode cX14_choice 59 = .ok (.istore 5, 2) := by decide +kernel
theorem dX14_choice_61 : decode cX14_choice 61 = .ok (.aload_n 0, 1) := by decide +kernel
theorem dX14_choice_62 : decode cX14_choice 62 = .ok (.getfield 42, 3) := by decide +kernel
theorem dX14_choice_65 : decode cX14_choice 65 = .ok (.getfield 244, 3) := by decide +kernel
theorem dX14_choice_68 : decode cX14_choice 68 = .ok (.iload_n 1, 1) := by decide +kernel
theorem dX14_choice_69 : decode cX14_choice 69 = .ok (.iload_n 2, 1) := by decide +kernel
theorem dX14_choice_70 : decode cX14_choice 70 = .ok (.iastore, 1) := by decide +kernel
theorem dX14_choice_71 : decode cX14_choice 71 = .ok (.aload_n 0, 1) := by decide +kernel
theorem dX14_choice_72 : decode cX14_choice 72 = .ok (.getfield 42, 3) := by decide +kernel
theorem dX14_choice_75 : decode cX14_choice 75 = .ok (.getfield 247, 3) := by decide +kernel
theorem dX14_choice_78 : decode cX14_choice 78 = .ok (.iload_n 1, 1) := by decide +kernel
theorem dX14_choice_79 : decode cX14_choice 79 = .ok (.iload_n 3, 1) := by decide +kernel
theorem dX14_choice_80 : decode cX14_choice 80 = .ok (.iastore, 1) := by decide +kernel
theorem dX14_choice_81 : decode cX14_choice 81 = .ok (.aload_n 0, 1) := by decide +kernel
theorem dX14_choice_82 : decode cX14_choice 82 = .ok (.getfield 42, 3) := by decide +kernel
theorem dX14_choice_85 : decode cX14_choice 85 = .ok (.getfield 221, 3) := by decide +kernel
theorem dX14_choice_88 : decode cX14_choice 88 = .ok (.iload_n 1, 1) := by decide +kernel
theorem dX14_choice_89 : decode cX14_choice 89 = .ok (.iload 4, 2) := by decide +kernel
theorem dX14_choice_91 : decode cX14_choice 91 = .ok (.iastore, 1) := by decide +kernel
theorem dX14_choice_92 : decode cX14_choice 92 = .ok (.aload_n 0, 1) := by decide +kernel
theorem dX14_choice_93 : decode cX14_choice 93 = .ok (.getfield 42, 3) := by decide +kernel
theorem dX14_choice_96 : decode cX14_choice 96 = .ok (.getfield 224, 3) := by decide +kernel
theorem dX14_choice_99 : decode cX14_choice 99 = .ok (.iload_n 1, 1) := by decide +kernel
theorem dX14_choice_100 : decode cX14_choice 100 = .ok (.iload 5, 2) := by decide +kernel
theorem dX14_choice_102 : decode cX14_choice 102 = .ok (.iastore, 1) := by decide +kernel
theorem dX14_choice_103 : decode cX14_choice 103 = .ok (.return_, 1) := by decide +kernel
set_option maxRecDepth 20000 in
theorem ggX14_plain_X14_value : GoodIn wsX14_plain wsX14_value := goodIn_r _ [10, 3, 11, 12, 13, 14, 15, 9, 16, 2, 17, 18, 19, 20, 1, 21, 22, 23, 24, 25, 26, 27, 28, 29, 30, 31, 32, 33, 34, 35, 36, 37, 38, 39, 40, 41, 42, 43, 44, 45, 46, 47, 48, 49, 50, 51, 52, 53, 54, 55, 56, 57, 58, 59, 60, 61, 62, 63, 64, 65, 66, 67, 68, 69, 70, 71, 6, 7, 8, 72, 73, 74, 75, 76, 77, 78, 79, 80, 81, 82, 83, 84, 85, 86, 87, 88, 89, 90, 91, 92, 93, 94, 95, 96, 97, 98, 99, 100, 101, 102, 103, 104, 105, 106, 107, 108, 109, 110, 111, 112, 113, 114, 115, 116, 117, 118] (by decide +kernel) (by decide +kernel)
set_option maxRecDepth 20000 in
theorem gX14_plain_X14_value : GoodIn wsX14_plain (wsV RX14 174 RX14 yX14_value wsX14_value) := goodIn_app (goodIn_of _ (by decide +kernel)) ggX14_plain_X14_value
set_option maxRecDepth 20000 in
theorem ggX14_plain_X14_is : GoodIn wsX14_plain wsX14_is := goodIn_r _ [16, 2, 12, 3, 75, 76, 77, 78, 79, 80, 81, 82, 83, 84, 85, 86, 87, 88, 89, 90, 91, 92, 93, 94, 95, 96, 97] (by decide +kernel) (by decide +kernel)
set_option maxRecDepth 20000 in
theorem gX14_plain_X14_is : GoodIn wsX14_plain (wsV RX14 129 RX14 yX14_is wsX14_is) := goodIn_app (goodIn_of _ (by decide +kernel)) ggX14_plain_X14_is
set_option maxRecDepth 20000 in
theorem ggX14_plain_X14_wrong : GoodIn wsX14_plain wsX14_wrong := goodIn_r _ [36, 2, 37, 3, 38, 75, 76, 77, 78, 79, 80, 81, 82, 83, 84, 85, 86, 87, 88, 89, 90, 91, 92, 93, 94, 95, 96, 97] (by decide +kernel) (by decide +kernel)
set_option maxRecDepth 20000 in
theorem gX14_plain_X14_wrong : GoodIn wsX14_plain (wsV RX14 132 RX14 yX14_wrong wsX14_wrong) := goodIn_app (goodIn_of _ (by decide +kernel)) ggX14_plain_X14_wrong
set_option maxRecDepth 20000 in
theorem ggX14_plain_X14_take : GoodIn wsX14_plain wsX14_take := goodIn_r _ [32, 3, 13, 14, 15, 9, 16, 2, 12, 33, 34, 35, 36, 37, 38, 75, 76, 77, 78, 79, 80, 81, 82, 83, 84, 85, 86, 87, 88, 89, 90, 91, 92, 93, 94, 95, 96, 97] (by decide +kernel) (by decide +kernel)
set_option maxRecDepth 20000 in
theorem gX14_plain_X14_take : GoodIn wsX14_plain (wsV RX14 147 RX14 yX14_take wsX14_take) := goodIn_app (goodIn_of _ (by decide +kernel)) ggX14_plain_X14_take
set_option maxRecDepth 20000 in
theorem ggX14_plain_X14_pan : GoodIn wsX14_plain wsX14_pan := goodIn_r _ [42, 43, 1, 44, 45, 46, 9, 47, 48, 49, 50, 51, 13, 14, 15, 16, 2, 12, 3, 52, 53, 54, 55, 56, 57, 58, 59, 60, 61, 62, 63, 64, 65, 66, 37, 38, 29, 30, 31, 32, 33, 34, 35, 36, 75, 76, 77, 78, 79, 80, 81, 82, 83, 84, 85, 86, 87, 88, 89, 90, 91, 92, 93, 94, 95, 96, 97, 98, 99, 100, 101, 102, 103, 104, 105, 106, 107, 108, 109, 110, 111, 112, 113, 114, 115, 116, 117, 118] (by decide +kernel) (by decide +kernel)
set_option maxRecDepth 20000 in
theorem gX14_plain_X14_pan : GoodIn wsX14_plain (wsV RX14 188 RX14 yX14_pan wsX14_pan) := goodIn_app (goodIn_of _ (by decide +kernel)) ggX14_plain_X14_pan
set_option maxRecDepth 20000 in
theorem ggX14_plain_X14_name : GoodIn wsX14_plain wsX14_name := goodIn_r _ [47, 48, 49, 50, 51, 13, 14, 15, 9, 16, 2, 12, 3, 52, 53, 54, 55, 56, 57, 58, 59, 60, 61, 62, 63, 64, 65, 66, 37, 38, 29, 30, 31, 32, 33, 34, 35, 36, 75, 76, 77, 78, 79, 80, 81, 82, 83, 84, 85, 86, 87, 88, 89, 90, 91, 92, 93, 94, 95, 96, 97] (by decide +kernel) (by decide +kernel)
set_option maxRecDepth 20000 in
theorem gX14_plain_X14_name : GoodIn wsX14_plain (wsV RX14 153 RX14 yX14_name wsX14_name) := goodIn_app (goodIn_of _ (by decide +kernel)) ggX14_plain_X14_name
theorem dX14_plain_0 : decode cX14_plain 0 = .ok (.iload_n 2, 1) := by decide +kernel
theorem dX14_plain_1 : decode cX14_plain 1 = .ok (.tableswitch 247 3 14 #[63, 247, 247, 247, 161, 247, 161, 247, 207, 247, 247, 223], 63) := by decide +kernel
theorem dX14_plain_64 : decode cX14_plain 64 = .ok (.aload_n 0, 1) := by decide +kernel
theorem dX14_plain_65 : decode cX14_plain 65 = .ok (.getfield 42, 3) := by decide +kernel
theorem dX14_plain_68 : decode cX14_plain 68 = .ok (.getfield 239, 3) := by decide +kernel
theorem dX14_plain_71 : decode cX14_plain 71 = .ok (.iload_n 1, 1) := by decide +kernel
theorem dX14_plain_72 : decode cX14_plain 72 = .ok (.aload_n 0, 1) := by decide +kernel
theorem dX14_plain_73 : decode cX14_plain 73 = .ok (.invokevirtual 174, 3) := by decide +kernel
theorem dX14_plain_76 : decode cX14_plain 76 = .ok (.iastore, 1) := by decide +kernel
theorem dX14_plain_77 : decode cX14_plain 77 = .ok (.aload_n 0, 1) := by decide +kernel
theorem dX14_plain_78 : decode cX14_plain 78 = .ok (.iconst 5, 1) := by decide +kernel
theorem dX14_plain_79 : decode cX14_plain 79 = .ok (.invokevirtual 129, 3) := by decide +kernel
theorem dX14_plain_82 : decode cX14_plain 82 = .ok (.ifCond .eq 16, 3) := by decide +kernel
theorem dX14_plain_85 : decode cX14_plain 85 = .ok (.aload_n 0, 1) := by decide +kernel
theorem dX14_plain_86 : decode cX14_plain 86 = .ok (.getfield 42, 3) := by decide +kernel
theorem dX14_plain_89 : decode cX14_plain 89 = .ok (.getfield 218, 3) := by decide +kernel
theorem dX14_plain_92 : decode cX14_plain 92 = .ok (.iload_n 1, 1) := by decide +kernel
theorem dX14_plain_93 : decode cX14_plain 93 = .ok (.iconst 5, 1) := by decide +kernel
theorem dX14_plain_94 : decode cX14_plain 94 = .ok (.iastore, 1) := by decide +kernel
theorem dX14_plain_95 : decode cX14_plain 95 = .ok (.goto 28, 3) := by decide +kernel
theorem dX14_plain_98 : decode cX14_plain 98 = .ok (.aload_n 0, 1) := by decide +kernel
theorem dX14_plain_99 : decode cX14_plain 99 = .ok (.iconst 4, 1) := by decide +kernel
theorem dX14_plain_100 : decode cX14_plain 100 = .ok (.invokevirtual 129, 3) := by decide +kernel
theorem dX14_plain_103 : decode cX14_plain 103 = .ok (.ifCond .eq 16, 3) := by decide +kernel
theorem dX14_plain_106 : decode cX14_plain 106 = .ok (.aload_n 0, 1) := by decide +kernel
theorem dX14_plain_107 : decode cX14_plain 107 = .ok (.getfield 42, 3) := by decide +kernel
theorem dX14_plain_110 : decode cX14_plain 110 = .ok (.getfield 218, 3) := by decide +kernel
theorem dX14_plain_113 : decode cX14_plain 113 = .ok (.iload_n 1, 1) := by decide +kernel
theorem dX14_plain_114 : decode cX14_plain 114 = .ok (.iconst 4, 1) := by decide +kernel
theorem dX14_plain_115 : decode cX14_plain 115 = .ok (.iastore, 1) := by decide +kernel
theorem dX14_plain_116 : decode cX14_plain 116 = .ok (.goto 7, 3) := by decide +kernel
theorem dX14_plain_119 : decode cX14_plain 119 = .ok (.aload_n 0, 1) := by decide +kernel
theorem dX14_plain_120 : decode cX14_plain 120 = .ok (.invokevirtual 132, 3) := by decide +kernel
theorem dX14_plain_123 : decode cX14_plain 123 = .ok (.aload_n 0, 1) := by decide +kernel
theorem dX14_plain_124 : decode cX14_plain 124 = .ok (.getfield 116, 3) := by decide +kernel
theorem dX14_plain_127 : decode cX14_plain 127 = .ok (.ifCond .ne 13, 3) := by decide +kernel
theorem dX14_plain_130 : decode cX14_plain 130 = .ok (.aload_n 0, 1) := by decide +kernel
theorem dX14_plain_131 : decode cX14_plain 131 = .ok (.dup, 1) := by decide +kernel
theorem dX14_plain_132 : decode cX14_plain 132 = .ok (.getfield 120, 3) := by decide +kernel
theorem dX14_plain_135 : decode cX14_plain 135 = .ok (.iconst 1, 1) := by decide +kernel
theorem dX14_plain_136 : decode cX14_plain 136 = .ok (.iadd, 1) := by decide +kernel
theorem dX14_plain_137 : decode cX14_plain 137 = .ok (.putfield 120, 3) := by decide +kernel
theorem dX14_plain_140 : decode cX14_plain 140 = .ok (.aload_n 0, 1) := by decide +kernel
theorem dX14_plain_141 : decode cX14_plain 141 = .ok (.bipush 6, 2) := by decide +kernel
theorem dX14_plain_143 : decode cX14_plain 143 = .ok (.invokevirtual 147, 3) := by decide +kernel
theorem dX14_plain_146 : decode cX14_plain 146 = .ok (.aload_n 0, 1) := by decide +kernel
theorem dX14_plain_147 : decode cX14_plain 147 = .ok (.getfield 42, 3) := by decide +kernel
theorem dX14_plain_150 : decode cX14_plain 150 = .ok (.getfield 250, 3) := by decide +kernel
theorem dX14_plain_153 : decode cX14_plain 153 = .ok (.iload_n 1, 1) := by decide +kernel
theorem dX14_plain_154 : decode cX14_plain 154 = .ok (.aload_n 0, 1) := by decide +kernel
theorem dX14_plain_155 : decode cX14_plain 155 = .ok (.invokevirtual 188, 3) := by decide +kernel
theorem dX14_plain_158 : decode cX14_plain 158 = .ok (.iastore, 1) := by decide +kernel
theorem dX14_plain_159 : decode cX14_plain 159 = .ok (.goto 102, 3) := by decide +kernel
theorem dX14_plain_162 : decode cX14_plain 162 = .ok (.aload_n 0, 1) := by decide +kernel
theorem dX14_plain_163 : decode cX14_plain 163 = .ok (.getfield 42, 3) := by decide +kernel
theorem dX14_plain_166 : decode cX14_plain 166 = .ok (.getfield 250, 3) := by decide +kernel
theorem dX14_plain_169 : decode cX14_plain 169 = .ok (.iload_n 1, 1) := by decide +kernel
theorem dX14_plain_170 : decode cX14_plain 170 = .ok (.aload_n 0, 1) := by decide +kernel
theorem dX14_plain_171 : decode cX14_plain 171 = .ok (.invokevirtual 188, 3) := by decide +kernel
theorem dX14_plain_174 : decode cX14_plain 174 = .ok (.iastore, 1) := by decide +kernel
theorem dX14_plain_175 : decode cX14_plain 175 = .ok (.aload_n 0, 1) := by decide +kernel
theorem dX14_plain_176 : decode cX14_plain 176 = .ok (.iload_n 2, 1) := by decide +kernel
theorem dX14_plain_177 : decode cX14_plain 177 = .ok (.bipush 7, 2) := by decide +kernel
theorem dX14_plain_179 : decode cX14_plain 179 = .ok (.if_icmp .ne 8, 3) := by decide +kernel
theorem dX14_plain_182 : decode cX14_plain 182 = .ok (.bipush 8, 2) := by decide +kernel
theorem dX14_plain_184 : decode cX14_plain 184 = .ok (.goto 5, 3) := by decide +kernel
theorem dX14_plain_187 : decode cX14_plain 187 = .ok (.bipush 10, 2) := by decide +kernel
theorem dX14_plain_189 : decode cX14_plain 189 = .ok (.invokevirtual 147, 3) := by decide +kernel
theorem dX14_plain_192 : decode cX14_plain 192 = .ok (.aload_n 0, 1) := by decide +kernel
theorem dX14_plain_193 : decode cX14_plain 193 = .ok (.getfield 42, 3) := by decide +kernel
theorem dX14_plain_196 : decode cX14_plain 196 = .ok (.getfield 239, 3) := by decide +kernel
theorem dX14_plain_199 : decode cX14_plain 199 = .ok (.iload_n 1, 1) := by decide +kernel
theorem dX14_plain_200 : decode cX14_plain 200 = .ok (.aload_n 0, 1) := by decide +kernel
theorem dX14_plain_201 : decode cX14_plain 201 = .ok (.invokevirtual 174, 3) := by decide +kernel
theorem dX14_plain_204 : decode cX14_plain 204 = .ok (.iastore, 1) := by decide +kernel
theorem dX14_plain_205 : decode cX14_plain 205 = .ok (.goto 56, 3) := by decide +kernel
theorem dX14_plain_208 : decode cX14_plain 208 = .ok (.aload_n 0, 1) := by decide +kernel
theorem dX14_plain_209 : decode cX14_plain 209 = .ok (.getfield 42, 3) := by decide +kernel
theorem dX14_plain_212 : decode cX14_plain 212 = .ok (.getfield 250, 3) := by decide +kernel
theorem dX14_plain_215 : decode cX14_plain 215 = .ok (.iload_n 1, 1) := by decide +kernel
theorem dX14_plain_216 : decode cX14_plain 216 = .ok (.aload_n 0, 1) := by decide +kernel
theorem dX14_plain_217 : decode cX14_plain 217 = .ok (.invokevirtual 188, 3) := by decide +kernel
theorem dX14_plain_220 : decode cX14_plain 220 = .ok (.iastore, 1) := by decide +kernel
theorem dX14_plain_221 : decode cX14_plain 221 = .ok (.goto 40, 3) := by decide +kernel
theorem dX14_plain_224 : decode cX14_plain 224 = .ok (.aload_n 0, 1) := by decide +kernel
theorem dX14_plain_225 : decode cX14_plain 225 = .ok (.getfield 42, 3) := by decide +kernel
theorem dX14_plain_228 : decode cX14_plain 228 = .ok (.getfield 250, 3) := by decide +kernel
theorem dX14_plain_231 : decode cX14_plain 231 = .ok (.iload_n 1, 1) := by decide +kernel
theorem dX14_plain_232 : decode cX14_plain 232 = .ok (.aload_n 0, 1) := by decide +kernel
theorem dX14_plain_233 : decode cX14_plain 233 = .ok (.aload_n 0, 1) := by decide +kernel
theorem dX14_plain_234 : decode cX14_plain 234 = .ok (.getfield 32, 3) := by decide +kernel
theorem dX14_plain_237 : decode cX14_plain 237 = .ok (.aload_n 0, 1) := by decide +kernel
theorem dX14_plain_238 : decode cX14_plain 238 = .ok (.getfield 253, 3) := by decide +kernel
theorem dX14_plain_241 : decode cX14_plain 241 = .ok (.invokevirtual 153, 3) := by decide +kernel
theorem dX14_plain_244 : decode cX14_plain 244 = .ok (.iastore, 1) := by decide +kernel
theorem dX14_plain_245 : decode cX14_plain 245 = .ok (.goto 16, 3) := by decide +kernel
theorem dX14_plain_248 : decode cX14_plain 248 = .ok (.aload_n 0, 1) := by decide +kernel
theorem dX14_plain_249 : decode cX14_plain 249 = .ok (.getfield 42, 3) := by decide +kernel
theorem dX14_plain_252 : decode cX14_plain 252 = .ok (.getfield 239, 3) := by decide +kernel
theorem dX14_plain_255 : decode cX14_plain 255 = .ok (.iload_n 1, 1) := by decide +kernel
theorem dX14_plain_256 : decode cX14_plain 256 = .ok (.aload_n 0, 1) := by decide +kernel
theorem dX14_plain_257 : decode cX14_plain 257 = .ok (.invokevirtual 174, 3) := by decide +kernel
theorem dX14_plain_260 : decode cX14_plain 260 = .ok (.iastore, 1) := by decide +kernel
theorem dX14_plain_261 : decode cX14_plain 261 = .ok (.aload_n 0, 1) := by decide +kernel
theorem dX14_plain_262 : decode cX14_plain 262 = .ok (.bipush 52, 2) := by decide +kernel
theorem dX14_plain_264 : decode cX14_plain 264 = .ok (.invokevirtual 147, 3) := by decide +kernel
theorem dX14_plain_267 : decode cX14_plain 267 = .ok (.return_, 1) := by decide +kernel
set_option maxRecDepth 20000 in
theorem ggX14_book_X14_takes : GoodIn wsX14_book wsX14_takes := goodIn_r _ [15, 8, 16, 17, 18, 14, 19, 20, 21, 107, 108, 109, 110, 111, 112, 113, 114, 115, 116, 117, 118, 119, 120, 121, 122, 123, 124, 125, 126, 127, 128, 129] (by decide +kernel) (by decide +kernel)
set_option maxRecDepth 20000 in
theorem gX14_book_X14_takes : GoodIn wsX14_book (wsV RX14 181 RX14 yX14_takes wsX14_takes) := goodIn_app (goodIn_of _ (by decide +kernel)) ggX14_book_X14_takes
set_option maxRecDepth 20000 in
theorem ggX14_book_X14_newName : GoodIn wsX14_book wsX14_newName := goodIn_r _ [25, 6, 1, 9, 2, 3, 4, 5, 8, 16, 17, 18, 14, 19, 20, 21, 26, 27, 28, 29, 30, 31, 32, 33, 34, 35, 36, 37, 38, 39, 40, 41, 42, 43, 44, 45, 46, 47, 48, 49, 50, 107, 108, 109, 110, 111, 112, 113, 114, 115, 116, 117, 118, 119, 120, 121, 122, 123, 124, 125, 126, 127, 128, 129, 130, 131, 132, 133, 134, 135, 136, 137, 138, 139, 140, 141, 142, 143, 144, 145, 146, 147, 148, 149, 150] (by decide +kernel) (by decide +kernel)
set_option maxRecDepth 20000 in
theorem gX14_book_X14_newName : GoodIn wsX14_book (wsV RX14 256 RX14 yX14_newName wsX14_newName) := goodIn_app (goodIn_of _ (by decide +kernel)) ggX14_book_X14_newName
set_option maxRecDepth 20000 in
theorem ggX14_book_X14_take : GoodIn wsX14_book wsX14_take := goodIn_r _ [46, 8, 16, 17, 18, 14, 19, 20, 21, 47, 48, 49, 50, 41, 42, 107, 108, 109, 110, 111, 112, 113, 114, 115, 116, 117, 118, 119, 120, 121, 122, 123, 124, 125, 126, 127, 128, 129] (by decide +kernel) (by decide +kernel)
set_option maxRecDepth 20000 in
theorem gX14_book_X14_take : GoodIn wsX14_book (wsV RX14 147 RX14 yX14_take wsX14_take) := goodIn_app (goodIn_of _ (by decide +kernel)) ggX14_book_X14_take
set_option maxRecDepth 20000 in
theorem ggX14_book_X14_is : GoodIn wsX14_book wsX14_is := goodIn_r _ [19, 20, 21, 8, 107, 108, 109, 110, 111, 112, 113, 114, 115, 116, 117, 118, 119, 120, 121, 122, 123, 124, 125, 126, 127, 128, 129] (by decide +kernel) (by decide +kernel)
set_option maxRecDepth 20000 in
theorem gX14_book_X14_is : GoodIn wsX14_book (wsV RX14 129 RX14 yX14_is wsX14_is) := goodIn_app (goodIn_of _ (by decide +kernel)) ggX14_book_X14_is
set_option maxRecDepth 20000 in
theorem ggX14_book_X14_isIn : GoodIn wsX14_book wsX14_isIn := goodIn_r _ [53] (by decide +kernel) (by decide +kernel)
set_option maxRecDepth 20000 in
theorem gX14_book_X14_isIn : GoodIn wsX14_book (va_wsS RX14 69 yX14_isIn wsX14_isIn) := goodIn_app (goodIn_of _ (by decide +kernel)) ggX14_book_X14_isIn
set_option maxRecDepth 20000 in
theorem ggX14_book_X14_mark : GoodIn wsX14_book wsX14_mark := goodIn_r _ [40, 20, 41, 8, 42, 107, 108, 109, 110, 111, 112, 113, 114, 115, 116, 117, 118, 119, 120, 121, 122, 123, 124, 125, 126, 127, 128, 129] (by decide +kernel) (by decide +kernel)
set_option maxRecDepth 20000 in
theorem gX14_book_X14_mark : GoodIn wsX14_book (wsV RX14 143 RX14 yX14_mark wsX14_mark) := goodIn_app (goodIn_of _ (by decide +kernel)) ggX14_book_X14_mark
set_option maxRecDepth 20000 in
theorem ggX14_book_X14_block : GoodIn wsX14_book wsX14_block := goodIn_r _ [57, 58, 20, 21, 8, 1, 47, 48, 49, 14, 50, 41, 42, 43, 44, 45, 46, 16, 17, 18, 19, 59, 60, 61, 62, 2, 3, 4, 5, 51, 52, 53, 37, 38, 39, 40, 63, 64, 65, 66, 67, 68, 69, 70, 71, 72, 9, 10, 73, 74, 75, 76, 7, 77, 78, 79, 80, 11, 12, 13, 15, 81, 82, 83, 84, 85, 86, 87, 88, 6, 89, 90, 91, 92, 93, 94, 95, 26, 27, 28, 29, 30, 31, 32, 33, 34, 35, 36, 96, 97, 98, 99, 100, 101, 54, 55, 56, 102, 103, 104, 105, 106, 107, 108, 109, 110, 111, 112, 113, 114, 115, 116, 117, 118, 119, 120, 121, 122, 123, 124, 125, 126, 127, 128, 129, 130, 131, 132, 133, 134, 135, 136, 137, 138, 139, 140, 141, 142, 143, 144, 145, 146, 147, 148, 149, 150] (by decide +kernel) (by decide +kernel)
set_option maxRecDepth 20000 in
theorem gX14_book_X14_block : GoodIn wsX14_book (wsV RX14 237 RX14 yX14_block wsX14_block) := goodIn_app (goodIn_of _ (by decide +kernel)) ggX14_book_X14_block
set_option maxRecDepth 20000 in
theorem ggX14_book_X14_wrong : GoodIn wsX14_book wsX14_wrong := goodIn_r _ [50, 20, 41, 8, 42, 107, 108, 109, 110, 111, 112, 113, 114, 115, 116, 117, 118, 119, 120, 121, 122, 123, 124, 125, 126, 127, 128, 129] (by decide +kernel) (by decide +kernel)
set_option maxRecDepth 20000 in
theorem gX14_book_X14_wrong : GoodIn wsX14_book (wsV RX14 132 RX14 yX14_wrong wsX14_wrong) := goodIn_app (goodIn_of _ (by decide +kernel)) ggX14_book_X14_wrong
theorem dX14_book_0 : decode cX14_book 0 = .ok (.aload_n 0, 1) := by decide +kernel
theorem dX14_book_1 : decode cX14_book 1 = .ok (.iconst 0, 1) := by decide +kernel
theorem dX14_book_2 : decode cX14_book 2 = .ok (.invokevirtual 181, 3) := by decide +kernel
theorem dX14_book_5 : decode cX14_book 5 = .ok (.ifCond .eq 113, 3) := by decide +kernel
theorem dX14_book_8 : decode cX14_book 8 = .ok (.bipush 8, 2) := by decide +kernel
theorem dX14_book_10 : decode cX14_book 10 = .ok (.aload_n 0, 1) := by decide +kernel
theorem dX14_book_11 : decode cX14_book 11 = .ok (.getfield 42, 3) := by decide +kernel
theorem dX14_book_14 : decode cX14_book 14 = .ok (.getfield 150, 3) := by decide +kernel
theorem dX14_book_17 : decode cX14_book 17 = .ok (.invokestatic 57, 3) := by decide +kernel
theorem dX14_book_20 : decode cX14_book 20 = .ok (.istore_n 1, 1) := by decide +kernel
theorem dX14_book_21 : decode cX14_book 21 = .ok (.aload_n 0, 1) := by decide +kernel
theorem dX14_book_22 : decode cX14_book 22 = .ok (.aload_n 0, 1) := by decide +kernel
theorem dX14_book_23 : decode cX14_book 23 = .ok (.getfield 29, 3) := by decide +kernel
theorem dX14_book_26 : decode cX14_book 26 = .ok (.iload_n 1, 1) := by decide +kernel
theorem dX14_book_27 : decode cX14_book 27 = .ok (.bipush 8, 2) := by decide +kernel
theorem dX14_book_29 : decode cX14_book 29 = .ok (.invokevirtual 256, 3) := by decide +kernel
theorem dX14_book_32 : decode cX14_book 32 = .ok (.aload_n 0, 1) := by decide +kernel
theorem dX14_book_33 : decode cX14_book 33 = .ok (.getfield 42, 3) := by decide +kernel
theorem dX14_book_36 : decode cX14_book 36 = .ok (.bipush 8, 2) := by decide +kernel
theorem dX14_book_38 : decode cX14_book 38 = .ok (.iload_n 1, 1) := by decide +kernel
theorem dX14_book_39 : decode cX14_book 39 = .ok (.iconst 1, 1) := by decide +kernel
theorem dX14_book_40 : decode cX14_book 40 = .ok (.iadd, 1) := by decide +kernel
theorem dX14_book_41 : decode cX14_book 41 = .ok (.invokestatic 57, 3) := by decide +kernel
theorem dX14_book_44 : decode cX14_book 44 = .ok (.putfield 150, 3) := by decide +kernel
theorem dX14_book_47 : decode cX14_book 47 = .ok (.aload_n 0, 1) := by decide +kernel
theorem dX14_book_48 : decode cX14_book 48 = .ok (.iconst 1, 1) := by decide +kernel
theorem dX14_book_49 : decode cX14_book 49 = .ok (.invokevirtual 147, 3) := by decide +kernel
theorem dX14_book_52 : decode cX14_book 52 = .ok (.aload_n 0, 1) := by decide +kernel
theorem dX14_book_53 : decode cX14_book 53 = .ok (.bipush 41, 2) := by decide +kernel
theorem dX14_book_55 : decode cX14_book 55 = .ok (.invokevirtual 129, 3) := by decide +kernel
theorem dX14_book_58 : decode cX14_book 58 = .ok (.ifCond .eq 27, 3) := by decide +kernel
theorem dX14_book_61 : decode cX14_book 61 = .ok (.aload_n 0, 1) := by decide +kernel
theorem dX14_book_62 : decode cX14_book 62 = .ok (.getfield 20, 3) := by decide +kernel
theorem dX14_book_65 : decode cX14_book 65 = .ok (.aload_n 0, 1) := by decide +kernel
theorem dX14_book_66 : decode cX14_book 66 = .ok (.getfield 120, 3) := by decide +kernel
theorem dX14_book_69 : decode cX14_book 69 = .ok (.iaload, 1) := by decide +kernel
theorem dX14_book_70 : decode cX14_book 70 = .ok (.iconst 1, 1) := by decide +kernel
theorem dX14_book_71 : decode cX14_book 71 = .ok (.sipush 200, 3) := by decide +kernel
theorem dX14_book_74 : decode cX14_book 74 = .ok (.invokestatic 69, 3) := by decide +kernel
theorem dX14_book_77 : decode cX14_book 77 = .ok (.ifCond .ne 8, 3) := by decide +kernel
theorem dX14_book_80 : decode cX14_book 80 = .ok (.aload_n 0, 1) := by decide +kernel
theorem dX14_book_81 : decode cX14_book 81 = .ok (.iconst 5, 1) := by decide +kernel
theorem dX14_book_82 : decode cX14_book 82 = .ok (.invokevirtual 143, 3) := by decide +kernel
theorem dX14_book_85 : decode cX14_book 85 = .ok (.aload_n 0, 1) := by decide +kernel
theorem dX14_book_86 : decode cX14_book 86 = .ok (.getfield 42, 3) := by decide +kernel
theorem dX14_book_89 : decode cX14_book 89 = .ok (.getfield 260, 3) := by decide +kernel
theorem dX14_book_92 : decode cX14_book 92 = .ok (.iload_n 1, 1) := by decide +kernel
theorem dX14_book_93 : decode cX14_book 93 = .ok (.aload_n 0, 1) := by decide +kernel
theorem dX14_book_94 : decode cX14_book 94 = .ok (.getfield 20, 3) := by decide +kernel
theorem dX14_book_97 : decode cX14_book 97 = .ok (.aload_n 0, 1) := by decide +kernel
theorem dX14_book_98 : decode cX14_book 98 = .ok (.getfield 120, 3) := by decide +kernel
theorem dX14_book_101 : decode cX14_book 101 = .ok (.iaload, 1) := by decide +kernel
theorem dX14_book_102 : decode cX14_book 102 = .ok (.iastore, 1) := by decide +kernel
theorem dX14_book_103 : decode cX14_book 103 = .ok (.aload_n 0, 1) := by decide +kernel
theorem dX14_book_104 : decode cX14_book 104 = .ok (.bipush 41, 2) := by decide +kernel
theorem dX14_book_106 : decode cX14_book 106 = .ok (.invokevirtual 147, 3) := by decide +kernel
theorem dX14_book_109 : decode cX14_book 109 = .ok (.aload_n 0, 1) := by decide +kernel
theorem dX14_book_110 : decode cX14_book 110 = .ok (.bipush 52, 2) := by decide +kernel
theorem dX14_book_112 : decode cX14_book 112 = .ok (.invokevirtual 147, 3) := by decide +kernel
theorem dX14_book_115 : decode cX14_book 115 = .ok (.goto (-115), 3) := by decide +kernel
theorem dX14_book_118 : decode cX14_book 118 = .ok (.aload_n 0, 1) := by decide +kernel
theorem dX14_book_119 : decode cX14_book 119 = .ok (.iconst 2, 1) := by decide +kernel
theorem dX14_book_120 : decode cX14_book 120 = .ok (.invokevirtual 181, 3) := by decide +kernel
theorem dX14_book_123 : decode cX14_book 123 = .ok (.ifCond .eq 69, 3) := by decide +kernel
theorem dX14_book_126 : decode cX14_book 126 = .ok (.bipush 6, 2) := by decide +kernel
theorem dX14_book_128 : decode cX14_book 128 = .ok (.aload_n 0, 1) := by decide +kernel
theorem dX14_book_129 : decode cX14_book 129 = .ok (.getfield 42, 3) := by decide +kernel
theorem dX14_book_132 : decode cX14_book 132 = .ok (.getfield 156, 3) := by decide +kernel
theorem dX14_book_135 : decode cX14_book 135 = .ok (.invokestatic 57, 3) := by decide +kernel
theorem dX14_book_138 : decode cX14_book 138 = .ok (.istore_n 1, 1) := by decide +kernel
theorem dX14_book_139 : decode cX14_book 139 = .ok (.aload_n 0, 1) := by decide +kernel
theorem dX14_book_140 : decode cX14_book 140 = .ok (.aload_n 0, 1) := by decide +kernel
theorem dX14_book_141 : decode cX14_book 141 = .ok (.getfield 32, 3) := by decide +kernel
theorem dX14_book_144 : decode cX14_book 144 = .ok (.iload_n 1, 1) := by decide +kernel
theorem dX14_book_145 : decode cX14_book 145 = .ok (.bipush 6, 2) := by decide +kernel
theorem dX14_book_147 : decode cX14_book 147 = .ok (.invokevirtual 256, 3) := by decide +kernel
theorem dX14_book_150 : decode cX14_book 150 = .ok (.aload_n 0, 1) := by decide +kernel
theorem dX14_book_151 : decode cX14_book 151 = .ok (.getfield 42, 3) := by decide +kernel
theorem dX14_book_154 : decode cX14_book 154 = .ok (.bipush 6, 2) := by decide +kernel
theorem dX14_book_156 : decode cX14_book 156 = .ok (.iload_n 1, 1) := by decide +kernel
theorem dX14_book_157 : decode cX14_book 157 = .ok (.iconst 1, 1) := by decide +kernel
theorem dX14_book_158 : decode cX14_book 158 = .ok (.iadd, 1) := by decide +kernel
theorem dX14_book_159 : decode cX14_book 159 = .ok (.invokestatic 57, 3) := by decide +kernel
theorem dX14_book_162 : decode cX14_book 162 = .ok (.putfield 156, 3) := by decide +kernel
theorem dX14_book_165 : decode cX14_book 165 = .ok (.aload_n 0, 1) := by decide +kernel
theorem dX14_book_166 : decode cX14_book 166 = .ok (.getfield 42, 3) := by decide +kernel
theorem dX14_book_169 : decode cX14_book 169 = .ok (.getfield 263, 3) := by decide +kernel
theorem dX14_book_172 : decode cX14_book 172 = .ok (.iload_n 1, 1) := by decide +kernel
theorem dX14_book_173 : decode cX14_book 173 = .ok (.aload_n 0, 1) := by decide +kernel
theorem dX14_book_174 : decode cX14_book 174 = .ok (.invokevirtual 237, 3) := by decide +kernel
theorem dX14_book_177 : decode cX14_book 177 = .ok (.iastore, 1) := by decide +kernel
theorem dX14_book_178 : decode cX14_book 178 = .ok (.aload_n 0, 1) := by decide +kernel
theorem dX14_book_179 : decode cX14_book 179 = .ok (.aload_n 0, 1) := by decide +kernel
theorem dX14_book_180 : decode cX14_book 180 = .ok (.getfield 42, 3) := by decide +kernel
theorem dX14_book_183 : decode cX14_book 183 = .ok (.getfield 156, 3) := by decide +kernel
theorem dX14_book_186 : decode cX14_book 186 = .ok (.putfield 253, 3) := by decide +kernel
theorem dX14_book_189 : decode cX14_book 189 = .ok (.goto (-71), 3) := by decide +kernel
theorem dX14_book_192 : decode cX14_book 192 = .ok (.aload_n 0, 1) := by decide +kernel
theorem dX14_book_193 : decode cX14_book 193 = .ok (.bipush 71, 2) := by decide +kernel
theorem dX14_book_195 : decode cX14_book 195 = .ok (.invokevirtual 129, 3) := by decide +kernel
theorem dX14_book_198 : decode cX14_book 198 = .ok (.ifCond .ne 7, 3) := by decide +kernel
theorem dX14_book_201 : decode cX14_book 201 = .ok (.aload_n 0, 1) := by decide +kernel
theorem dX14_book_202 : decode cX14_book 202 = .ok (.invokevirtual 132, 3) := by decide +kernel
theorem dX14_book_205 : decode cX14_book 205 = .ok (.return_, 1) := by decide +kernel
set_option maxRecDepth 20000 in
theorem ggX14_feed_X14_no : GoodIn wsX14_feed wsX14_no := goodIn_r _ [9, 1, 10, 11, 12, 13, 14, 15, 16, 17, 18, 19, 20, 21, 22, 23, 24, 25, 26, 27, 28, 29, 30, 31, 32] (by decide +kernel) (by decide +kernel)
set_option maxRecDepth 20000 in
theorem gX14_feed_X14_no : GoodIn wsX14_feed (wsV RX14 266 RX14 yX14_no wsX14_no) := goodIn_app (goodIn_of _ (by decide +kernel)) ggX14_feed_X14_no
theorem dX14_feed_0 : decode cX14_feed 0 = .ok (.aload_n 0, 1) := by decide +kernel
theorem dX14_feed_1 : decode cX14_feed 1 = .ok (.iconst 0, 1) := by decide +kernel
theorem dX14_feed_2 : decode cX14_feed 2 = .ok (.putfield 54, 3) := by decide +kernel
theorem dX14_feed_5 : decode cX14_feed 5 = .ok (.aload_n 0, 1) := by decide +kernel
theorem dX14_feed_6 : decode cX14_feed 6 = .ok (.getfield 73, 3) := by decide +kernel
theorem dX14_feed_9 : decode cX14_feed 9 = .ok (.bipush 20, 2) := by decide +kernel
theorem dX14_feed_11 : decode cX14_feed 11 = .ok (.iadd, 1) := by decide +kernel
theorem dX14_feed_12 : decode cX14_feed 12 = .ok (.sipush 1600, 3) := by decide +kernel
theorem dX14_feed_15 : decode cX14_feed 15 = .ok (.if_icmp .le 9, 3) := by decide +kernel
theorem dX14_feed_18 : decode cX14_feed 18 = .ok (.aload_n 0, 1) := by decide +kernel
theorem dX14_feed_19 : decode cX14_feed 19 = .ok (.iconst 1, 1) := by decide +kernel
theorem dX14_feed_20 : decode cX14_feed 20 = .ok (.invokevirtual 266, 3) := by decide +kernel
theorem dX14_feed_23 : decode cX14_feed 23 = .ok (.ireturn, 1) := by decide +kernel
theorem dX14_feed_24 : decode cX14_feed 24 = .ok (.iconst 5, 1) := by decide +kernel
theorem dX14_feed_25 : decode cX14_feed 25 = .ok (.newarray .int, 2) := by decide +kernel
theorem dX14_feed_27 : decode cX14_feed 27 = .ok (.dup, 1) := by decide +kernel
theorem dX14_feed_28 : decode cX14_feed 28 = .ok (.iconst 0, 1) := by decide +kernel
theorem dX14_feed_29 : decode cX14_feed 29 = .ok (.iload_n 1, 1) := by decide +kernel
theorem dX14_feed_30 : decode cX14_feed 30 = .ok (.iastore, 1) := by decide +kernel
theorem dX14_feed_31 : decode cX14_feed 31 = .ok (.dup, 1) := by decide +kernel
theorem dX14_feed_32 : decode cX14_feed 32 = .ok (.iconst 1, 1) := by decide +kernel
theorem dX14_feed_33 : decode cX14_feed 33 = .ok (.iload_n 2, 1) := by decide +kernel
theorem dX14_feed_34 : decode cX14_feed 34 = .ok (.iastore, 1) := by decide +kernel
theorem dX14_feed_35 : decode cX14_feed 35 = .ok (.dup, 1) := by decide +kernel
theorem dX14_feed_36 : decode cX14_feed 36 = .ok (.iconst 2, 1) := by decide +kernel
theorem dX14_feed_37 : decode cX14_feed 37 = .ok (.iload_n 3, 1) := by decide +kernel
theorem dX14_feed_38 : decode cX14_feed 38 = .ok (.iastore, 1) := by decide +kernel
theorem dX14_feed_39 : decode cX14_feed 39 = .ok (.dup, 1) := by decide +kernel
theorem dX14_feed_40 : decode cX14_feed 40 = .ok (.iconst 3, 1) := by decide +kernel
theorem dX14_feed_41 : decode cX14_feed 41 = .ok (.iload 4, 2) := by decide +kernel
theorem dX14_feed_43 : decode cX14_feed 43 = .ok (.iastore, 1) := by decide +kernel
theorem dX14_feed_44 : decode cX14_feed 44 = .ok (.dup, 1) := by decide +kernel
theorem dX14_feed_45 : decode cX14_feed 45 = .ok (.iconst 4, 1) := by decide +kernel
theorem dX14_feed_46 : decode cX14_feed 46 = .ok (.iload 5, 2) := by decide +kernel
theorem dX14_feed_48 : decode cX14_feed 48 = .ok (.iastore, 1) := by decide +kernel
theorem dX14_feed_49 : decode cX14_feed 49 = .ok (.astore 6, 2) := by decide +kernel
theorem dX14_feed_51 : decode cX14_feed 51 = .ok (.aload 6, 2) := by decide +kernel
theorem dX14_feed_53 : decode cX14_feed 53 = .ok (.astore 7, 2) := by decide +kernel
theorem dX14_feed_55 : decode cX14_feed 55 = .ok (.aload 7, 2) := by decide +kernel
theorem dX14_feed_57 : decode cX14_feed 57 = .ok (.arraylength, 1) := by decide +kernel
theorem dX14_feed_58 : decode cX14_feed 58 = .ok (.istore 8, 2) := by decide +kernel
theorem dX14_feed_60 : decode cX14_feed 60 = .ok (.iconst 0, 1) := by decide +kernel
theorem dX14_feed_61 : decode cX14_feed 61 = .ok (.istore 9, 2) := by decide +kernel
theorem dX14_feed_63 : decode cX14_feed 63 = .ok (.iload 9, 2) := by decide +kernel
theorem dX14_feed_65 : decode cX14_feed 65 = .ok (.iload 8, 2) := by decide +kernel
theorem dX14_feed_67 : decode cX14_feed 67 = .ok (.if_icmp .ge 59, 3) := by decide +kernel
theorem dX14_feed_70 : decode cX14_feed 70 = .ok (.aload 7, 2) := by decide +kernel
theorem dX14_feed_72 : decode cX14_feed 72 = .ok (.iload 9, 2) := by decide +kernel
theorem dX14_feed_74 : decode cX14_feed 74 = .ok (.iaload, 1) := by decide +kernel
theorem dX14_feed_75 : decode cX14_feed 75 = .ok (.istore 10, 2) := by decide +kernel
theorem dX14_feed_77 : decode cX14_feed 77 = .ok (.bipush 24, 2) := by decide +kernel
theorem dX14_feed_79 : decode cX14_feed 79 = .ok (.istore 11, 2) := by decide +kernel
theorem dX14_feed_81 : decode cX14_feed 81 = .ok (.iload 11, 2) := by decide +kernel
theorem dX14_feed_83 : decode cX14_feed 83 = .ok (.ifCond .lt 37, 3) := by decide +kernel
theorem dX14_feed_86 : decode cX14_feed 86 = .ok (.aload_n 0, 1) := by decide +kernel
theorem dX14_feed_87 : decode cX14_feed 87 = .ok (.getfield 9, 3) := by decide +kernel
theorem dX14_feed_90 : decode cX14_feed 90 = .ok (.aload_n 0, 1) := by decide +kernel
theorem dX14_feed_91 : decode cX14_feed 91 = .ok (.getfield 73, 3) := by decide +kernel
theorem dX14_feed_94 : decode cX14_feed 94 = .ok (.iload 10, 2) := by decide +kernel
theorem dX14_feed_96 : decode cX14_feed 96 = .ok (.iload 11, 2) := by decide +kernel
theorem dX14_feed_98 : decode cX14_feed 98 = .ok (.ishr, 1) := by decide +kernel
theorem dX14_feed_99 : decode cX14_feed 99 = .ok (.sipush 255, 3) := by decide +kernel
theorem dX14_feed_102 : decode cX14_feed 102 = .ok (.iand, 1) := by decide +kernel
theorem dX14_feed_103 : decode cX14_feed 103 = .ok (.iastore, 1) := by decide +kernel
theorem dX14_feed_104 : decode cX14_feed 104 = .ok (.aload_n 0, 1) := by decide +kernel
theorem dX14_feed_105 : decode cX14_feed 105 = .ok (.dup, 1) := by decide +kernel
theorem dX14_feed_106 : decode cX14_feed 106 = .ok (.getfield 73, 3) := by decide +kernel
theorem dX14_feed_109 : decode cX14_feed 109 = .ok (.iconst 1, 1) := by decide +kernel
theorem dX14_feed_110 : decode cX14_feed 110 = .ok (.iadd, 1) := by decide +kernel
theorem dX14_feed_111 : decode cX14_feed 111 = .ok (.putfield 73, 3) := by decide +kernel
theorem dX14_feed_114 : decode cX14_feed 114 = .ok (.iinc 11 (-8), 3) := by decide +kernel
theorem dX14_feed_117 : decode cX14_feed 117 = .ok (.goto (-36), 3) := by decide +kernel
theorem dX14_feed_120 : decode cX14_feed 120 = .ok (.iinc 9 1, 3) := by decide +kernel
theorem dX14_feed_123 : decode cX14_feed 123 = .ok (.goto (-60), 3) := by decide +kernel
theorem dX14_feed_126 : decode cX14_feed 126 = .ok (.aload_n 0, 1) := by decide +kernel
theorem dX14_feed_127 : decode cX14_feed 127 = .ok (.getfield 73, 3) := by decide +kernel
theorem dX14_feed_130 : decode cX14_feed 130 = .ok (.ireturn, 1) := by decide +kernel
set_option maxRecDepth 20000 in
theorem ggX14_trim_X14_isIn : GoodIn wsX14_trim wsX14_isIn := goodIn_r _ [6] (by decide +kernel) (by decide +kernel)
set_option maxRecDepth 20000 in
theorem gX14_trim_X14_isIn : GoodIn wsX14_trim (va_wsS RX14 69 yX14_isIn wsX14_isIn) := goodIn_app (goodIn_of _ (by decide +kernel)) ggX14_trim_X14_isIn
set_option maxRecDepth 20000 in
theorem ggX14_trim_X14_no : GoodIn wsX14_trim wsX14_no := goodIn_r _ [10, 1, 11, 12, 13, 14, 15, 16, 17, 18, 19, 20, 21, 22, 23, 24, 25, 26, 27, 28, 29, 30, 31, 32, 33] (by decide +kernel) (by decide +kernel)
set_option maxRecDepth 20000 in
theorem gX14_trim_X14_no : GoodIn wsX14_trim (wsV RX14 266 RX14 yX14_no wsX14_no) := goodIn_app (goodIn_of _ (by decide +kernel)) ggX14_trim_X14_no
theorem dX14_trim_0 : decode cX14_trim 0 = .ok (.aload_n 0, 1) := by decide +kernel
theorem dX14_trim_1 : decode cX14_trim 1 = .ok (.iconst 0, 1) := by decide +kernel
theorem dX14_trim_2 : decode cX14_trim 2 = .ok (.putfield 54, 3) := by decide +kernel
theorem dX14_trim_5 : decode cX14_trim 5 = .ok (.iload_n 1, 1) := by decide +kernel
theorem dX14_trim_6 : decode cX14_trim 6 = .ok (.iconst 0, 1) := by decide +kernel
theorem dX14_trim_7 : decode cX14_trim 7 = .ok (.aload_n 0, 1) := by decide +kernel
theorem dX14_trim_8 : decode cX14_trim 8 = .ok (.getfield 73, 3) := by decide +kernel
theorem dX14_trim_11 : decode cX14_trim 11 = .ok (.invokestatic 69, 3) := by decide +kernel
theorem dX14_trim_14 : decode cX14_trim 14 = .ok (.ifCond .ne 9, 3) := by decide +kernel
theorem dX14_trim_17 : decode cX14_trim 17 = .ok (.aload_n 0, 1) := by decide +kernel
theorem dX14_trim_18 : decode cX14_trim 18 = .ok (.iconst 1, 1) := by decide +kernel
theorem dX14_trim_19 : decode cX14_trim 19 = .ok (.invokevirtual 266, 3) := by decide +kernel
theorem dX14_trim_22 : decode cX14_trim 22 = .ok (.ireturn, 1) := by decide +kernel
theorem dX14_trim_23 : decode cX14_trim 23 = .ok (.aload_n 0, 1) := by decide +kernel
theorem dX14_trim_24 : decode cX14_trim 24 = .ok (.iload_n 1, 1) := by decide +kernel
theorem dX14_trim_25 : decode cX14_trim 25 = .ok (.putfield 73, 3) := by decide +kernel
theorem dX14_trim_28 : decode cX14_trim 28 = .ok (.iload_n 1, 1) := by decide +kernel
theorem dX14_trim_29 : decode cX14_trim 29 = .ok (.ireturn, 1) := by decide +kernel
set_option maxRecDepth 20000 in
theorem ggX14_teach_X13_begin : GoodIn wsX14_teach wsX13_begin := goodIn_r _ [18, 19, 20, 21, 22, 23, 266, 267, 268, 269, 270, 271, 272, 273, 274, 275, 276, 277, 278, 279, 280, 281, 282, 283, 284, 285, 286] (by decide +kernel) (by decide +kernel)
set_option maxRecDepth 20000 in
theorem gX14_teach_X13_begin : GoodIn wsX14_teach (wsV RX14 269 RX13 yX13_begin wsX13_begin) := goodIn_app (goodIn_of _ (by decide +kernel)) ggX14_teach_X13_begin
set_option maxRecDepth 20000 in
theorem ggX14_teach_X14_readAll : GoodIn wsX14_teach wsX14_readAll := goodIn_r _ [28, 9, 29, 10, 30, 31, 32, 27, 33, 34, 35, 36, 37, 38, 39, 40, 41, 42, 43, 44, 45, 46, 47, 48, 49, 50, 51, 52, 53, 54, 55, 56, 57, 58, 59, 60, 61, 62, 63, 64, 65, 66, 67, 68, 69, 70, 71, 72, 73, 74, 75, 76, 77, 78, 79, 80, 81, 82, 83, 84, 85, 86, 87, 88, 89, 90, 91, 92, 93, 94, 95, 96, 97, 98, 99, 100, 101, 102, 103, 104, 105, 106, 107, 108, 109, 110, 111, 112, 113, 114, 243, 244, 245, 246, 247, 248, 249, 250, 251, 252, 253, 254, 255, 256, 257, 258, 259, 260, 261, 262, 263, 264, 265] (by decide +kernel) (by decide +kernel)
set_option maxRecDepth 20000 in
theorem gX14_teach_X14_readAll : GoodIn wsX14_teach (wsV RX14 272 RX14 yX14_readAll wsX14_readAll) := goodIn_app (goodIn_of _ (by decide +kernel)) ggX14_teach_X14_readAll
set_option maxRecDepth 20000 in
theorem ggX14_teach_X14_book : GoodIn wsX14_teach wsX14_book := goodIn_r _ [118, 8, 119, 120, 121, 122, 123, 43, 2, 124, 7, 125, 126, 127, 27, 128, 129, 130, 131, 132, 3, 29, 133, 134, 135, 136, 137, 138, 139, 140, 141, 142, 143, 144, 44, 38, 10, 145, 146, 147, 148, 4, 11, 149, 150, 151, 152, 153, 154, 155, 156, 48, 49, 50, 157, 158, 159, 160, 5, 161, 162, 163, 164, 165, 166, 167, 168, 169, 170, 171, 172, 173, 174, 175, 176, 177, 178, 179, 180, 181, 182, 183, 184, 185, 186, 187, 188, 189, 190, 191, 192, 193, 194, 195, 196, 197, 198, 199, 200, 201, 6, 202, 203, 204, 205, 206, 207, 243, 244, 245, 246, 247, 248, 249, 250, 251, 252, 253, 254, 255, 256, 257, 258, 259, 260, 261, 262, 263, 264, 265, 266, 267, 268, 269, 270, 271, 272, 273, 274, 275, 276, 277, 278, 279, 280, 281, 282, 283, 284, 285, 286] (by decide +kernel) (by decide +kernel)
set_option maxRecDepth 20000 in
theorem gX14_teach_X14_book : GoodIn wsX14_teach (wsV RX14 275 RX14 yX14_book wsX14_book) := goodIn_app (goodIn_of _ (by decide +kernel)) ggX14_teach_X14_book
set_option maxRecDepth 20000 in
theorem ggX14_teach_X13_become : GoodIn wsX14_teach wsX13_become := goodIn_r _ [211, 19, 20, 21, 22, 23, 212, 213, 214, 215, 216, 217, 218, 219, 220, 221, 222, 223, 224, 225, 226, 227, 228, 229, 17, 230, 231, 232, 233, 234, 266, 267, 268, 269, 270, 271, 272, 273, 274, 275, 276, 277, 278, 279, 280, 281, 282, 283, 284, 285, 286] (by decide +kernel) (by decide +kernel)
set_option maxRecDepth 20000 in
theorem gX14_teach_X13_become : GoodIn wsX14_teach (wsV RX14 278 RX13 yX13_become wsX13_become) := goodIn_app (goodIn_of _ (by decide +kernel)) ggX14_teach_X13_become
set_option maxRecDepth 20000 in
theorem ggX14_teach_X14_anew : GoodIn wsX14_teach wsX14_anew := goodIn_r _ [238, 239, 240, 241, 27, 242, 243, 244, 245, 246, 247, 248, 249, 250, 251, 252, 253, 254, 255, 256, 257, 258, 259, 260, 261, 262, 263, 264, 265] (by decide +kernel) (by decide +kernel)
set_option maxRecDepth 20000 in
theorem gX14_teach_X14_anew : GoodIn wsX14_teach (wsV RX14 51 RX14 yX14_anew wsX14_anew) := goodIn_app (goodIn_of _ (by decide +kernel)) ggX14_teach_X14_anew
theorem dX14_teach_0 : decode cX14_teach 0 = .ok (.aload_n 0, 1) := by decide +kernel
theorem dX14_teach_1 : decode cX14_teach 1 = .ok (.iconst 0, 1) := by decide +kernel
theorem dX14_teach_2 : decode cX14_teach 2 = .ok (.putfield 54, 3) := by decide +kernel
theorem dX14_teach_5 : decode cX14_teach 5 = .ok (.aload_n 0, 1) := by decide +kernel
theorem dX14_teach_6 : decode cX14_teach 6 = .ok (.iconst 0, 1) := by decide +kernel
theorem dX14_teach_7 : decode cX14_teach 7 = .ok (.putfield 120, 3) := by decide +kernel
theorem dX14_teach_10 : decode cX14_teach 10 = .ok (.aload_n 0, 1) := by decide +kernel
theorem dX14_teach_11 : decode cX14_teach 11 = .ok (.iconst 0, 1) := by decide +kernel
theorem dX14_teach_12 : decode cX14_teach 12 = .ok (.putfield 116, 3) := by decide +kernel
theorem dX14_teach_15 : decode cX14_teach 15 = .ok (.aload_n 0, 1) := by decide +kernel
theorem dX14_teach_16 : decode cX14_teach 16 = .ok (.iconst 0, 1) := by decide +kernel
theorem dX14_teach_17 : decode cX14_teach 17 = .ok (.putfield 123, 3) := by decide +kernel
theorem dX14_teach_20 : decode cX14_teach 20 = .ok (.aload_n 0, 1) := by decide +kernel
theorem dX14_teach_21 : decode cX14_teach 21 = .ok (.iconst 0, 1) := by decide +kernel
theorem dX14_teach_22 : decode cX14_teach 22 = .ok (.putfield 206, 3) := by decide +kernel
theorem dX14_teach_25 : decode cX14_teach 25 = .ok (.aload_n 0, 1) := by decide +kernel
theorem dX14_teach_26 : decode cX14_teach 26 = .ok (.iconst 0, 1) := by decide +kernel
theorem dX14_teach_27 : decode cX14_teach 27 = .ok (.putfield 171, 3) := by decide +kernel
theorem dX14_teach_30 : decode cX14_teach 30 = .ok (.aload_n 0, 1) := by decide +kernel
theorem dX14_teach_31 : decode cX14_teach 31 = .ok (.iconst 0, 1) := by decide +kernel
theorem dX14_teach_32 : decode cX14_teach 32 = .ok (.putfield 253, 3) := by decide +kernel
theorem dX14_teach_35 : decode cX14_teach 35 = .ok (.aload_n 0, 1) := by decide +kernel
theorem dX14_teach_36 : decode cX14_teach 36 = .ok (.getfield 42, 3) := by decide +kernel
theorem dX14_teach_39 : decode cX14_teach 39 = .ok (.invokevirtual 269, 3) := by decide +kernel
theorem dX14_teach_42 : decode cX14_teach 42 = .ok (.aload_n 0, 1) := by decide +kernel
theorem dX14_teach_43 : decode cX14_teach 43 = .ok (.invokevirtual 272, 3) := by decide +kernel
theorem dX14_teach_46 : decode cX14_teach 46 = .ok (.aload_n 0, 1) := by decide +kernel
theorem dX14_teach_47 : decode cX14_teach 47 = .ok (.invokevirtual 275, 3) := by decide +kernel
theorem dX14_teach_50 : decode cX14_teach 50 = .ok (.aload_n 0, 1) := by decide +kernel
theorem dX14_teach_51 : decode cX14_teach 51 = .ok (.iconst 0, 1) := by decide +kernel
theorem dX14_teach_52 : decode cX14_teach 52 = .ok (.putfield 73, 3) := by decide +kernel
theorem dX14_teach_55 : decode cX14_teach 55 = .ok (.aload_n 0, 1) := by decide +kernel
theorem dX14_teach_56 : decode cX14_teach 56 = .ok (.aload_n 0, 1) := by decide +kernel
theorem dX14_teach_57 : decode cX14_teach 57 = .ok (.getfield 123, 3) := by decide +kernel
theorem dX14_teach_60 : decode cX14_teach 60 = .ok (.ifCond .ne 7, 3) := by decide +kernel
theorem dX14_teach_63 : decode cX14_teach 63 = .ok (.iconst (-1), 1) := by decide +kernel
theorem dX14_teach_64 : decode cX14_teach 64 = .ok (.goto 12, 3) := by decide +kernel
theorem dX14_teach_67 : decode cX14_teach 67 = .ok (.aload_n 0, 1) := by decide +kernel
theorem dX14_teach_68 : decode cX14_teach 68 = .ok (.getfield 23, 3) := by decide +kernel
theorem dX14_teach_71 : decode cX14_teach 71 = .ok (.aload_n 0, 1) := by decide +kernel
theorem dX14_teach_72 : decode cX14_teach 72 = .ok (.getfield 126, 3) := by decide +kernel
theorem dX14_teach_75 : decode cX14_teach 75 = .ok (.iaload, 1) := by decide +kernel
theorem dX14_teach_76 : decode cX14_teach 76 = .ok (.putfield 13, 3) := by decide +kernel
theorem dX14_teach_79 : decode cX14_teach 79 = .ok (.aload_n 0, 1) := by decide +kernel
theorem dX14_teach_80 : decode cX14_teach 80 = .ok (.getfield 123, 3) := by decide +kernel
theorem dX14_teach_83 : decode cX14_teach 83 = .ok (.ifCond .eq 8, 3) := by decide +kernel
theorem dX14_teach_86 : decode cX14_teach 86 = .ok (.aload_n 0, 1) := by decide +kernel
theorem dX14_teach_87 : decode cX14_teach 87 = .ok (.getfield 123, 3) := by decide +kernel
theorem dX14_teach_90 : decode cX14_teach 90 = .ok (.ireturn, 1) := by decide +kernel
theorem dX14_teach_91 : decode cX14_teach 91 = .ok (.aload_n 0, 1) := by decide +kernel
theorem dX14_teach_92 : decode cX14_teach 92 = .ok (.getfield 38, 3) := by decide +kernel
theorem dX14_teach_95 : decode cX14_teach 95 = .ok (.aload_n 0, 1) := by decide +kernel
theorem dX14_teach_96 : decode cX14_teach 96 = .ok (.getfield 42, 3) := by decide +kernel
theorem dX14_teach_99 : decode cX14_teach 99 = .ok (.invokevirtual 278, 3) := by decide +kernel
theorem dX14_teach_102 : decode cX14_teach 102 = .ok (.aload_n 0, 1) := by decide +kernel
theorem dX14_teach_103 : decode cX14_teach 103 = .ok (.invokevirtual 51, 3) := by decide +kernel
theorem dX14_teach_106 : decode cX14_teach 106 = .ok (.iconst 0, 1) := by decide +kernel
theorem dX14_teach_107 : decode cX14_teach 107 = .ok (.ireturn, 1) := by decide +kernel
set_option maxRecDepth 20000 in
theorem ggX14_errorAt_X14_ok : GoodIn wsX14_errorAt wsX14_ok := goodIn_r _ [6, 7, 8, 9, 10, 11, 12, 13, 14, 15, 16, 17, 18, 19, 20, 21, 22, 23, 24, 25, 26, 27, 28, 29, 30] (by decide +kernel) (by decide +kernel)
set_option maxRecDepth 20000 in
theorem gX14_errorAt_X14_ok : GoodIn wsX14_errorAt (wsV RX14 282 RX14 yX14_ok wsX14_ok) := goodIn_app (goodIn_of _ (by decide +kernel)) ggX14_errorAt_X14_ok
theorem dX14_errorAt_0 : decode cX14_errorAt 0 = .ok (.aload_n 0, 1) := by decide +kernel
theorem dX14_errorAt_1 : decode cX14_errorAt 1 = .ok (.aload_n 0, 1) := by decide +kernel
theorem dX14_errorAt_2 : decode cX14_errorAt 2 = .ok (.getfield 13, 3) := by decide +kernel
theorem dX14_errorAt_5 : decode cX14_errorAt 5 = .ok (.invokevirtual 282, 3) := by decide +kernel
theorem dX14_errorAt_8 : decode cX14_errorAt 8 = .ok (.ireturn, 1) := by decide +kernel
set_option maxRecDepth 20000 in
theorem ggX14_pans_X14_ok : GoodIn wsX14_pans wsX14_ok := goodIn_r _ [6, 7, 8, 9, 10, 11, 12, 13, 14, 15, 16, 17, 18, 19, 20, 21, 22, 23, 24, 25, 26, 27, 28, 29, 30] (by decide +kernel) (by decide +kernel)
set_option maxRecDepth 20000 in
theorem gX14_pans_X14_ok : GoodIn wsX14_pans (wsV RX14 282 RX14 yX14_ok wsX14_ok) := goodIn_app (goodIn_of _ (by decide +kernel)) ggX14_pans_X14_ok
theorem dX14_pans_0 : decode cX14_pans 0 = .ok (.aload_n 0, 1) := by decide +kernel
theorem dX14_pans_1 : decode cX14_pans 1 = .ok (.aload_n 0, 1) := by decide +kernel
theorem dX14_pans_2 : decode cX14_pans 2 = .ok (.getfield 38, 3) := by decide +kernel
theorem dX14_pans_5 : decode cX14_pans 5 = .ok (.getfield 150, 3) := by decide +kernel
theorem dX14_pans_8 : decode cX14_pans 8 = .ok (.invokevirtual 282, 3) := by decide +kernel
theorem dX14_pans_11 : decode cX14_pans 11 = .ok (.ireturn, 1) := by decide +kernel
set_option maxRecDepth 20000 in
theorem ggX14_recipes_X14_ok : GoodIn wsX14_recipes wsX14_ok := goodIn_r _ [6, 7, 8, 9, 10, 11, 12, 13, 14, 15, 16, 17, 18, 19, 20, 21, 22, 23, 24, 25, 26, 27, 28, 29, 30] (by decide +kernel) (by decide +kernel)
set_option maxRecDepth 20000 in
theorem gX14_recipes_X14_ok : GoodIn wsX14_recipes (wsV RX14 282 RX14 yX14_ok wsX14_ok) := goodIn_app (goodIn_of _ (by decide +kernel)) ggX14_recipes_X14_ok
theorem dX14_recipes_0 : decode cX14_recipes 0 = .ok (.aload_n 0, 1) := by decide +kernel
theorem dX14_recipes_1 : decode cX14_recipes 1 = .ok (.aload_n 0, 1) := by decide +kernel
theorem dX14_recipes_2 : decode cX14_recipes 2 = .ok (.getfield 38, 3) := by decide +kernel
theorem dX14_recipes_5 : decode cX14_recipes 5 = .ok (.getfield 156, 3) := by decide +kernel
theorem dX14_recipes_8 : decode cX14_recipes 8 = .ok (.invokevirtual 282, 3) := by decide +kernel
theorem dX14_recipes_11 : decode cX14_recipes 11 = .ok (.ireturn, 1) := by decide +kernel
set_option maxRecDepth 20000 in
theorem ggX14_acts_X14_ok : GoodIn wsX14_acts wsX14_ok := goodIn_r _ [6, 7, 8, 9, 10, 11, 12, 13, 14, 15, 16, 17, 18, 19, 20, 21, 22, 23, 24, 25, 26, 27, 28, 29, 30] (by decide +kernel) (by decide +kernel)
set_option maxRecDepth 20000 in
theorem gX14_acts_X14_ok : GoodIn wsX14_acts (wsV RX14 282 RX14 yX14_ok wsX14_ok) := goodIn_app (goodIn_of _ (by decide +kernel)) ggX14_acts_X14_ok
theorem dX14_acts_0 : decode cX14_acts 0 = .ok (.aload_n 0, 1) := by decide +kernel
theorem dX14_acts_1 : decode cX14_acts 1 = .ok (.aload_n 0, 1) := by decide +kernel
theorem dX14_acts_2 : decode cX14_acts 2 = .ok (.getfield 38, 3) := by decide +kernel
theorem dX14_acts_5 : decode cX14_acts 5 = .ok (.getfield 215, 3) := by decide +kernel
theorem dX14_acts_8 : decode cX14_acts 8 = .ok (.invokevirtual 282, 3) := by decide +kernel
theorem dX14_acts_11 : decode cX14_acts 11 = .ok (.ireturn, 1) := by decide +kernel
theorem dX14_of_0 : decode cX14_of 0 = .ok (.bipush 52, 2) := by decide +kernel
theorem dX14_of_2 : decode cX14_of 2 = .ok (.iconst 4, 1) := by decide +kernel
theorem dX14_of_3 : decode cX14_of 3 = .ok (.iload_n 0, 1) := by decide +kernel
theorem dX14_of_4 : decode cX14_of 4 = .ok (.imul, 1) := by decide +kernel
theorem dX14_of_5 : decode cX14_of 5 = .ok (.iadd, 1) := by decide +kernel
theorem dX14_of_6 : decode cX14_of 6 = .ok (.iload_n 1, 1) := by decide +kernel
theorem dX14_of_7 : decode cX14_of 7 = .ok (.iadd, 1) := by decide +kernel
theorem dX14_of_8 : decode cX14_of 8 = .ok (.ireturn, 1) := by decide +kernel
set_option maxRecDepth 20000 in
theorem ggX14_boiling_X14_boils : GoodIn wsX14_boiling wsX14_boils := goodIn_r _ [5] (by decide +kernel) (by decide +kernel)
set_option maxRecDepth 20000 in
theorem gX14_boiling_X14_boils : GoodIn wsX14_boiling (va_wsS RX14 285 yX14_boils wsX14_boils) := goodIn_app (goodIn_of _ (by decide +kernel)) ggX14_boiling_X14_boils
theorem dX14_boiling_0 : decode cX14_boiling 0 = .ok (.aload_n 0, 1) := by decide +kernel
theorem dX14_boiling_1 : decode cX14_boiling 1 = .ok (.getfield 45, 3) := by decide +kernel
theorem dX14_boiling_4 : decode cX14_boiling 4 = .ok (.iconst 0, 1) := by decide +kernel
theorem dX14_boiling_5 : decode cX14_boiling 5 = .ok (.iaload, 1) := by decide +kernel
theorem dX14_boiling_6 : decode cX14_boiling 6 = .ok (.invokestatic 285, 3) := by decide +kernel
theorem dX14_boiling_9 : decode cX14_boiling 9 = .ok (.ireturn, 1) := by decide +kernel
theorem dX14_boils_0 : decode cX14_boils 0 = .ok (.bipush 100, 2) := by decide +kernel
theorem dX14_boils_2 : decode cX14_boils 2 = .ok (.iload_n 0, 1) := by decide +kernel
theorem dX14_boils_3 : decode cX14_boils 3 = .ok (.iconst 3, 1) := by decide +kernel
theorem dX14_boils_4 : decode cX14_boils 4 = .ok (.idiv, 1) := by decide +kernel
theorem dX14_boils_5 : decode cX14_boils 5 = .ok (.isub, 1) := by decide +kernel
theorem dX14_boils_6 : decode cX14_boils 6 = .ok (.ireturn, 1) := by decide +kernel
set_option maxRecDepth 20000 in
theorem ggX14_factor_X14_boils : GoodIn wsX14_factor wsX14_boils := goodIn_r _ [4] (by decide +kernel) (by decide +kernel)
set_option maxRecDepth 20000 in
theorem gX14_factor_X14_boils : GoodIn wsX14_factor (va_wsS RX14 285 yX14_boils wsX14_boils) := goodIn_app (goodIn_of _ (by decide +kernel)) ggX14_factor_X14_boils
theorem dX14_factor_0 : decode cX14_factor 0 = .ok (.bipush 100, 2) := by decide +kernel
theorem dX14_factor_2 : decode cX14_factor 2 = .ok (.iconst 5, 1) := by decide +kernel
theorem dX14_factor_3 : decode cX14_factor 3 = .ok (.bipush 100, 2) := by decide +kernel
theorem dX14_factor_5 : decode cX14_factor 5 = .ok (.iload_n 0, 1) := by decide +kernel
theorem dX14_factor_6 : decode cX14_factor 6 = .ok (.invokestatic 285, 3) := by decide +kernel
theorem dX14_factor_9 : decode cX14_factor 9 = .ok (.isub, 1) := by decide +kernel
theorem dX14_factor_10 : decode cX14_factor 10 = .ok (.imul, 1) := by decide +kernel
theorem dX14_factor_11 : decode cX14_factor 11 = .ok (.iadd, 1) := by decide +kernel
theorem dX14_factor_12 : decode cX14_factor 12 = .ok (.ireturn, 1) := by decide +kernel
set_option maxRecDepth 20000 in
theorem ggX14_longer_X14_factor : GoodIn wsX14_longer wsX14_factor := goodIn_r _ [4, 5, 6, 3, 7] (by decide +kernel) (by decide +kernel)
set_option maxRecDepth 20000 in
theorem gX14_longer_X14_factor : GoodIn wsX14_longer (va_wsS RX14 288 yX14_factor wsX14_factor) := goodIn_app (goodIn_of _ (by decide +kernel)) ggX14_longer_X14_factor
theorem dX14_longer_0 : decode cX14_longer 0 = .ok (.iload_n 0, 1) := by decide +kernel
