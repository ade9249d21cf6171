theorem dX14_longer_1 : decode cX14_longer 1 = .ok (.iload_n 1, 1) := by decide +kernel
theorem dX14_longer_2 : decode cX14_longer 2 = .ok (.invokestatic 288, 3) := by decide +kernel
theorem dX14_longer_5 : decode cX14_longer 5 = .ok (.imul, 1) := by decide +kernel
theorem dX14_longer_6 : decode cX14_longer 6 = .ok (.bipush 99, 2) := by decide +kernel
theorem dX14_longer_8 : decode cX14_longer 8 = .ok (.iadd, 1) := by decide +kernel
theorem dX14_longer_9 : decode cX14_longer 9 = .ok (.bipush 100, 2) := by decide +kernel
theorem dX14_longer_11 : decode cX14_longer 11 = .ok (.idiv, 1) := by decide +kernel
theorem dX14_longer_12 : decode cX14_longer 12 = .ok (.ireturn, 1) := by decide +kernel
set_option maxRecDepth 20000 in
theorem ggX14_translated_X14_held : GoodIn wsX14_translated wsX14_held := goodIn_r _ [5, 6, 7, 8, 9, 10, 11, 12] (by decide +kernel) (by decide +kernel)
set_option maxRecDepth 20000 in
theorem gX14_translated_X14_held : GoodIn wsX14_translated (va_wsS RX14 291 yX14_held wsX14_held) := goodIn_app (goodIn_of _ (by decide +kernel)) ggX14_translated_X14_held
theorem dX14_translated_0 : decode cX14_translated 0 = .ok (.aload_n 0, 1) := by decide +kernel
theorem dX14_translated_1 : decode cX14_translated 1 = .ok (.getfield 45, 3) := by decide +kernel
theorem dX14_translated_4 : decode cX14_translated 4 = .ok (.iconst 2, 1) := by decide +kernel
theorem dX14_translated_5 : decode cX14_translated 5 = .ok (.iaload, 1) := by decide +kernel
theorem dX14_translated_6 : decode cX14_translated 6 = .ok (.istore_n 2, 1) := by decide +kernel
theorem dX14_translated_7 : decode cX14_translated 7 = .ok (.iload_n 1, 1) := by decide +kernel
theorem dX14_translated_8 : decode cX14_translated 8 = .ok (.iconst 0, 1) := by decide +kernel
theorem dX14_translated_9 : decode cX14_translated 9 = .ok (.sipush 999, 3) := by decide +kernel
theorem dX14_translated_12 : decode cX14_translated 12 = .ok (.invokestatic 291, 3) := by decide +kernel
theorem dX14_translated_15 : decode cX14_translated 15 = .ok (.aload_n 0, 1) := by decide +kernel
theorem dX14_translated_16 : decode cX14_translated 16 = .ok (.getfield 45, 3) := by decide +kernel
theorem dX14_translated_19 : decode cX14_translated 19 = .ok (.iconst 1, 1) := by decide +kernel
theorem dX14_translated_20 : decode cX14_translated 20 = .ok (.iaload, 1) := by decide +kernel
theorem dX14_translated_21 : decode cX14_translated 21 = .ok (.imul, 1) := by decide +kernel
theorem dX14_translated_22 : decode cX14_translated 22 = .ok (.iconst 2, 1) := by decide +kernel
theorem dX14_translated_23 : decode cX14_translated 23 = .ok (.iload_n 2, 1) := by decide +kernel
theorem dX14_translated_24 : decode cX14_translated 24 = .ok (.imul, 1) := by decide +kernel
theorem dX14_translated_25 : decode cX14_translated 25 = .ok (.iadd, 1) := by decide +kernel
theorem dX14_translated_26 : decode cX14_translated 26 = .ok (.iconst 4, 1) := by decide +kernel
theorem dX14_translated_27 : decode cX14_translated 27 = .ok (.iload_n 2, 1) := by decide +kernel
theorem dX14_translated_28 : decode cX14_translated 28 = .ok (.imul, 1) := by decide +kernel
theorem dX14_translated_29 : decode cX14_translated 29 = .ok (.idiv, 1) := by decide +kernel
theorem dX14_translated_30 : decode cX14_translated 30 = .ok (.iload_n 2, 1) := by decide +kernel
theorem dX14_translated_31 : decode cX14_translated 31 = .ok (.imul, 1) := by decide +kernel
theorem dX14_translated_32 : decode cX14_translated 32 = .ok (.ireturn, 1) := by decide +kernel
set_option maxRecDepth 20000 in
theorem ggX14_inside_X14_of : GoodIn wsX14_inside wsX14_of := goodIn_r _ [5] (by decide +kernel) (by decide +kernel)
set_option maxRecDepth 20000 in
theorem gX14_inside_X14_of : GoodIn wsX14_inside (va_wsS RX14 66 yX14_of wsX14_of) := goodIn_app (goodIn_of _ (by decide +kernel)) ggX14_inside_X14_of
theorem dX14_inside_0 : decode cX14_inside 0 = .ok (.aload_n 0, 1) := by decide +kernel
theorem dX14_inside_1 : decode cX14_inside 1 = .ok (.getfield 45, 3) := by decide +kernel
theorem dX14_inside_4 : decode cX14_inside 4 = .ok (.iload_n 1, 1) := by decide +kernel
theorem dX14_inside_5 : decode cX14_inside 5 = .ok (.iconst 0, 1) := by decide +kernel
theorem dX14_inside_6 : decode cX14_inside 6 = .ok (.invokestatic 66, 3) := by decide +kernel
theorem dX14_inside_9 : decode cX14_inside 9 = .ok (.iaload, 1) := by decide +kernel
theorem dX14_inside_10 : decode cX14_inside 10 = .ok (.aload_n 0, 1) := by decide +kernel
theorem dX14_inside_11 : decode cX14_inside 11 = .ok (.getfield 45, 3) := by decide +kernel
theorem dX14_inside_14 : decode cX14_inside 14 = .ok (.iload_n 1, 1) := by decide +kernel
theorem dX14_inside_15 : decode cX14_inside 15 = .ok (.iconst 1, 1) := by decide +kernel
theorem dX14_inside_16 : decode cX14_inside 16 = .ok (.invokestatic 66, 3) := by decide +kernel
theorem dX14_inside_19 : decode cX14_inside 19 = .ok (.iaload, 1) := by decide +kernel
theorem dX14_inside_20 : decode cX14_inside 20 = .ok (.iadd, 1) := by decide +kernel
theorem dX14_inside_21 : decode cX14_inside 21 = .ok (.ireturn, 1) := by decide +kernel
set_option maxRecDepth 20000 in
theorem ggX14_room_X14_inside : GoodIn wsX14_room wsX14_inside := goodIn_r _ [6, 7, 8, 9, 5, 10, 11, 12, 13, 14, 15, 16, 17, 18, 19, 20, 21, 22, 23, 24, 25, 26, 27, 28, 29, 30, 31, 32, 33] (by decide +kernel) (by decide +kernel)
set_option maxRecDepth 20000 in
theorem gX14_room_X14_inside : GoodIn wsX14_room (wsV RX14 294 RX14 yX14_inside wsX14_inside) := goodIn_app (goodIn_of _ (by decide +kernel)) ggX14_room_X14_inside
theorem dX14_room_0 : decode cX14_room 0 = .ok (.aload_n 0, 1) := by decide +kernel
theorem dX14_room_1 : decode cX14_room 1 = .ok (.getfield 38, 3) := by decide +kernel
theorem dX14_room_4 : decode cX14_room 4 = .ok (.getfield 260, 3) := by decide +kernel
theorem dX14_room_7 : decode cX14_room 7 = .ok (.iload_n 1, 1) := by decide +kernel
theorem dX14_room_8 : decode cX14_room 8 = .ok (.iaload, 1) := by decide +kernel
theorem dX14_room_9 : decode cX14_room 9 = .ok (.aload_n 0, 1) := by decide +kernel
theorem dX14_room_10 : decode cX14_room 10 = .ok (.iload_n 1, 1) := by decide +kernel
theorem dX14_room_11 : decode cX14_room 11 = .ok (.invokevirtual 294, 3) := by decide +kernel
theorem dX14_room_14 : decode cX14_room 14 = .ok (.isub, 1) := by decide +kernel
theorem dX14_room_15 : decode cX14_room 15 = .ok (.ireturn, 1) := by decide +kernel
set_option maxRecDepth 20000 in
theorem ggX14_pour_X14_room : GoodIn wsX14_pour wsX14_room := goodIn_r _ [10, 11, 12, 13, 14, 9, 15, 5, 16, 17, 18, 19, 20, 21, 22, 23, 24, 25, 26, 27, 28, 29, 30, 31, 32, 33, 34, 35, 36, 37, 38, 39, 40, 41, 42, 43, 44, 45, 46, 47, 48, 49, 50, 51, 52, 53, 54, 55, 56, 57, 58, 59, 60, 61, 62] (by decide +kernel) (by decide +kernel)
set_option maxRecDepth 20000 in
theorem gX14_pour_X14_room : GoodIn wsX14_pour (wsV RX14 297 RX14 yX14_room wsX14_room) := goodIn_app (goodIn_of _ (by decide +kernel)) ggX14_pour_X14_room
set_option maxRecDepth 20000 in
theorem ggX14_pour_X14_inside : GoodIn wsX14_pour wsX14_inside := goodIn_r _ [15, 5, 16, 17, 9, 18, 19, 20, 21, 22, 23, 24, 25, 26, 27, 28, 29, 30, 31, 32, 33, 34, 35, 36, 37, 38, 39, 40, 41] (by decide +kernel) (by decide +kernel)
set_option maxRecDepth 20000 in
theorem gX14_pour_X14_inside : GoodIn wsX14_pour (wsV RX14 294 RX14 yX14_inside wsX14_inside) := goodIn_app (goodIn_of _ (by decide +kernel)) ggX14_pour_X14_inside
set_option maxRecDepth 20000 in
theorem ggX14_pour_X14_of : GoodIn wsX14_pour wsX14_of := goodIn_r _ [18] (by decide +kernel) (by decide +kernel)
set_option maxRecDepth 20000 in
theorem gX14_pour_X14_of : GoodIn wsX14_pour (va_wsS RX14 66 yX14_of wsX14_of) := goodIn_app (goodIn_of _ (by decide +kernel)) ggX14_pour_X14_of
theorem dX14_pour_0 : decode cX14_pour 0 = .ok (.iload_n 3, 1) := by decide +kernel
theorem dX14_pour_1 : decode cX14_pour 1 = .ok (.aload_n 0, 1) := by decide +kernel
theorem dX14_pour_2 : decode cX14_pour 2 = .ok (.iload_n 1, 1) := by decide +kernel
theorem dX14_pour_3 : decode cX14_pour 3 = .ok (.invokevirtual 297, 3) := by decide +kernel
theorem dX14_pour_6 : decode cX14_pour 6 = .ok (.invokestatic 57, 3) := by decide +kernel
theorem dX14_pour_9 : decode cX14_pour 9 = .ok (.istore 4, 2) := by decide +kernel
theorem dX14_pour_11 : decode cX14_pour 11 = .ok (.iload 4, 2) := by decide +kernel
theorem dX14_pour_13 : decode cX14_pour 13 = .ok (.iconst 1, 1) := by decide +kernel
theorem dX14_pour_14 : decode cX14_pour 14 = .ok (.if_icmp .ge 5, 3) := by decide +kernel
theorem dX14_pour_17 : decode cX14_pour 17 = .ok (.iconst 0, 1) := by decide +kernel
theorem dX14_pour_18 : decode cX14_pour 18 = .ok (.ireturn, 1) := by decide +kernel
theorem dX14_pour_19 : decode cX14_pour 19 = .ok (.aload_n 0, 1) := by decide +kernel
theorem dX14_pour_20 : decode cX14_pour 20 = .ok (.iload_n 1, 1) := by decide +kernel
theorem dX14_pour_21 : decode cX14_pour 21 = .ok (.invokevirtual 294, 3) := by decide +kernel
theorem dX14_pour_24 : decode cX14_pour 24 = .ok (.istore 5, 2) := by decide +kernel
theorem dX14_pour_26 : decode cX14_pour 26 = .ok (.aload_n 0, 1) := by decide +kernel
theorem dX14_pour_27 : decode cX14_pour 27 = .ok (.getfield 45, 3) := by decide +kernel
theorem dX14_pour_30 : decode cX14_pour 30 = .ok (.iload_n 1, 1) := by decide +kernel
theorem dX14_pour_31 : decode cX14_pour 31 = .ok (.iconst 2, 1) := by decide +kernel
theorem dX14_pour_32 : decode cX14_pour 32 = .ok (.invokestatic 66, 3) := by decide +kernel
theorem dX14_pour_35 : decode cX14_pour 35 = .ok (.aload_n 0, 1) := by decide +kernel
theorem dX14_pour_36 : decode cX14_pour 36 = .ok (.getfield 45, 3) := by decide +kernel
theorem dX14_pour_39 : decode cX14_pour 39 = .ok (.iload_n 1, 1) := by decide +kernel
theorem dX14_pour_40 : decode cX14_pour 40 = .ok (.iconst 2, 1) := by decide +kernel
theorem dX14_pour_41 : decode cX14_pour 41 = .ok (.invokestatic 66, 3) := by decide +kernel
theorem dX14_pour_44 : decode cX14_pour 44 = .ok (.iaload, 1) := by decide +kernel
theorem dX14_pour_45 : decode cX14_pour 45 = .ok (.iload 5, 2) := by decide +kernel
theorem dX14_pour_47 : decode cX14_pour 47 = .ok (.imul, 1) := by decide +kernel
theorem dX14_pour_48 : decode cX14_pour 48 = .ok (.bipush 20, 2) := by decide +kernel
theorem dX14_pour_50 : decode cX14_pour 50 = .ok (.iload 4, 2) := by decide +kernel
theorem dX14_pour_52 : decode cX14_pour 52 = .ok (.imul, 1) := by decide +kernel
theorem dX14_pour_53 : decode cX14_pour 53 = .ok (.iadd, 1) := by decide +kernel
theorem dX14_pour_54 : decode cX14_pour 54 = .ok (.iload 5, 2) := by decide +kernel
theorem dX14_pour_56 : decode cX14_pour 56 = .ok (.iload 4, 2) := by decide +kernel
theorem dX14_pour_58 : decode cX14_pour 58 = .ok (.iadd, 1) := by decide +kernel
theorem dX14_pour_59 : decode cX14_pour 59 = .ok (.idiv, 1) := by decide +kernel
theorem dX14_pour_60 : decode cX14_pour 60 = .ok (.iastore, 1) := by decide +kernel
theorem dX14_pour_61 : decode cX14_pour 61 = .ok (.aload_n 0, 1) := by decide +kernel
theorem dX14_pour_62 : decode cX14_pour 62 = .ok (.getfield 45, 3) := by decide +kernel
theorem dX14_pour_65 : decode cX14_pour 65 = .ok (.iload_n 1, 1) := by decide +kernel
theorem dX14_pour_66 : decode cX14_pour 66 = .ok (.iconst 1, 1) := by decide +kernel
theorem dX14_pour_67 : decode cX14_pour 67 = .ok (.invokestatic 66, 3) := by decide +kernel
theorem dX14_pour_70 : decode cX14_pour 70 = .ok (.iaload, 1) := by decide +kernel
theorem dX14_pour_71 : decode cX14_pour 71 = .ok (.istore 6, 2) := by decide +kernel
theorem dX14_pour_73 : decode cX14_pour 73 = .ok (.aload_n 0, 1) := by decide +kernel
theorem dX14_pour_74 : decode cX14_pour 74 = .ok (.getfield 45, 3) := by decide +kernel
theorem dX14_pour_77 : decode cX14_pour 77 = .ok (.iload_n 1, 1) := by decide +kernel
theorem dX14_pour_78 : decode cX14_pour 78 = .ok (.iload_n 2, 1) := by decide +kernel
theorem dX14_pour_79 : decode cX14_pour 79 = .ok (.invokestatic 66, 3) := by decide +kernel
theorem dX14_pour_82 : decode cX14_pour 82 = .ok (.dup2, 1) := by decide +kernel
theorem dX14_pour_83 : decode cX14_pour 83 = .ok (.iaload, 1) := by decide +kernel
theorem dX14_pour_84 : decode cX14_pour 84 = .ok (.iload 4, 2) := by decide +kernel
theorem dX14_pour_86 : decode cX14_pour 86 = .ok (.iadd, 1) := by decide +kernel
theorem dX14_pour_87 : decode cX14_pour 87 = .ok (.iastore, 1) := by decide +kernel
theorem dX14_pour_88 : decode cX14_pour 88 = .ok (.iload_n 2, 1) := by decide +kernel
theorem dX14_pour_89 : decode cX14_pour 89 = .ok (.iconst 1, 1) := by decide +kernel
theorem dX14_pour_90 : decode cX14_pour 90 = .ok (.if_icmp .ne 32, 3) := by decide +kernel
theorem dX14_pour_93 : decode cX14_pour 93 = .ok (.aload_n 0, 1) := by decide +kernel
theorem dX14_pour_94 : decode cX14_pour 94 = .ok (.getfield 45, 3) := by decide +kernel
theorem dX14_pour_97 : decode cX14_pour 97 = .ok (.iload_n 1, 1) := by decide +kernel
theorem dX14_pour_98 : decode cX14_pour 98 = .ok (.iconst 3, 1) := by decide +kernel
theorem dX14_pour_99 : decode cX14_pour 99 = .ok (.invokestatic 66, 3) := by decide +kernel
theorem dX14_pour_102 : decode cX14_pour 102 = .ok (.aload_n 0, 1) := by decide +kernel
theorem dX14_pour_103 : decode cX14_pour 103 = .ok (.getfield 45, 3) := by decide +kernel
theorem dX14_pour_106 : decode cX14_pour 106 = .ok (.iload_n 1, 1) := by decide +kernel
theorem dX14_pour_107 : decode cX14_pour 107 = .ok (.iconst 3, 1) := by decide +kernel
theorem dX14_pour_108 : decode cX14_pour 108 = .ok (.invokestatic 66, 3) := by decide +kernel
theorem dX14_pour_111 : decode cX14_pour 111 = .ok (.iaload, 1) := by decide +kernel
theorem dX14_pour_112 : decode cX14_pour 112 = .ok (.iload 6, 2) := by decide +kernel
theorem dX14_pour_114 : decode cX14_pour 114 = .ok (.imul, 1) := by decide +kernel
theorem dX14_pour_115 : decode cX14_pour 115 = .ok (.iload 6, 2) := by decide +kernel
theorem dX14_pour_117 : decode cX14_pour 117 = .ok (.iload 4, 2) := by decide +kernel
theorem dX14_pour_119 : decode cX14_pour 119 = .ok (.iadd, 1) := by decide +kernel
theorem dX14_pour_120 : decode cX14_pour 120 = .ok (.idiv, 1) := by decide +kernel
theorem dX14_pour_121 : decode cX14_pour 121 = .ok (.iastore, 1) := by decide +kernel
theorem dX14_pour_122 : decode cX14_pour 122 = .ok (.iload 4, 2) := by decide +kernel
theorem dX14_pour_124 : decode cX14_pour 124 = .ok (.ireturn, 1) := by decide +kernel
set_option maxRecDepth 20000 in
theorem ggX14_bare_X14_of : GoodIn wsX14_bare wsX14_of := goodIn_r _ [5] (by decide +kernel) (by decide +kernel)
set_option maxRecDepth 20000 in
theorem gX14_bare_X14_of : GoodIn wsX14_bare (va_wsS RX14 66 yX14_of wsX14_of) := goodIn_app (goodIn_of _ (by decide +kernel)) ggX14_bare_X14_of
theorem dX14_bare_0 : decode cX14_bare 0 = .ok (.aload_n 0, 1) := by decide +kernel
theorem dX14_bare_1 : decode cX14_bare 1 = .ok (.getfield 45, 3) := by decide +kernel
theorem dX14_bare_4 : decode cX14_bare 4 = .ok (.iload_n 1, 1) := by decide +kernel
theorem dX14_bare_5 : decode cX14_bare 5 = .ok (.iconst 0, 1) := by decide +kernel
theorem dX14_bare_6 : decode cX14_bare 6 = .ok (.invokestatic 66, 3) := by decide +kernel
theorem dX14_bare_9 : decode cX14_bare 9 = .ok (.iconst 0, 1) := by decide +kernel
theorem dX14_bare_10 : decode cX14_bare 10 = .ok (.iastore, 1) := by decide +kernel
theorem dX14_bare_11 : decode cX14_bare 11 = .ok (.aload_n 0, 1) := by decide +kernel
theorem dX14_bare_12 : decode cX14_bare 12 = .ok (.getfield 45, 3) := by decide +kernel
theorem dX14_bare_15 : decode cX14_bare 15 = .ok (.iload_n 1, 1) := by decide +kernel
theorem dX14_bare_16 : decode cX14_bare 16 = .ok (.iconst 1, 1) := by decide +kernel
theorem dX14_bare_17 : decode cX14_bare 17 = .ok (.invokestatic 66, 3) := by decide +kernel
theorem dX14_bare_20 : decode cX14_bare 20 = .ok (.iconst 0, 1) := by decide +kernel
theorem dX14_bare_21 : decode cX14_bare 21 = .ok (.iastore, 1) := by decide +kernel
theorem dX14_bare_22 : decode cX14_bare 22 = .ok (.aload_n 0, 1) := by decide +kernel
theorem dX14_bare_23 : decode cX14_bare 23 = .ok (.getfield 45, 3) := by decide +kernel
theorem dX14_bare_26 : decode cX14_bare 26 = .ok (.iload_n 1, 1) := by decide +kernel
theorem dX14_bare_27 : decode cX14_bare 27 = .ok (.iconst 2, 1) := by decide +kernel
theorem dX14_bare_28 : decode cX14_bare 28 = .ok (.invokestatic 66, 3) := by decide +kernel
theorem dX14_bare_31 : decode cX14_bare 31 = .ok (.bipush 20, 2) := by decide +kernel
theorem dX14_bare_33 : decode cX14_bare 33 = .ok (.iastore, 1) := by decide +kernel
theorem dX14_bare_34 : decode cX14_bare 34 = .ok (.aload_n 0, 1) := by decide +kernel
theorem dX14_bare_35 : decode cX14_bare 35 = .ok (.getfield 45, 3) := by decide +kernel
theorem dX14_bare_38 : decode cX14_bare 38 = .ok (.iload_n 1, 1) := by decide +kernel
theorem dX14_bare_39 : decode cX14_bare 39 = .ok (.iconst 3, 1) := by decide +kernel
theorem dX14_bare_40 : decode cX14_bare 40 = .ok (.invokestatic 66, 3) := by decide +kernel
theorem dX14_bare_43 : decode cX14_bare 43 = .ok (.iconst 0, 1) := by decide +kernel
theorem dX14_bare_44 : decode cX14_bare 44 = .ok (.iastore, 1) := by decide +kernel
theorem dX14_bare_45 : decode cX14_bare 45 = .ok (.return_, 1) := by decide +kernel
set_option maxRecDepth 20000 in
theorem ggX14_goBy_X14_of : GoodIn wsX14_goBy wsX14_of := goodIn_r _ [10] (by decide +kernel) (by decide +kernel)
set_option maxRecDepth 20000 in
theorem gX14_goBy_X14_of : GoodIn wsX14_goBy (va_wsS RX14 66 yX14_of wsX14_of) := goodIn_app (goodIn_of _ (by decide +kernel)) ggX14_goBy_X14_of
theorem dX14_goBy_0 : decode cX14_goBy 0 = .ok (.aload_n 0, 1) := by decide +kernel
theorem dX14_goBy_1 : decode cX14_goBy 1 = .ok (.getfield 45, 3) := by decide +kernel
theorem dX14_goBy_4 : decode cX14_goBy 4 = .ok (.iconst 3, 1) := by decide +kernel
theorem dX14_goBy_5 : decode cX14_goBy 5 = .ok (.dup2, 1) := by decide +kernel
theorem dX14_goBy_6 : decode cX14_goBy 6 = .ok (.iaload, 1) := by decide +kernel
theorem dX14_goBy_7 : decode cX14_goBy 7 = .ok (.iload_n 1, 1) := by decide +kernel
theorem dX14_goBy_8 : decode cX14_goBy 8 = .ok (.iadd, 1) := by decide +kernel
theorem dX14_goBy_9 : decode cX14_goBy 9 = .ok (.iastore, 1) := by decide +kernel
theorem dX14_goBy_10 : decode cX14_goBy 10 = .ok (.iconst 0, 1) := by decide +kernel
theorem dX14_goBy_11 : decode cX14_goBy 11 = .ok (.istore_n 3, 1) := by decide +kernel
theorem dX14_goBy_12 : decode cX14_goBy 12 = .ok (.iload_n 3, 1) := by decide +kernel
theorem dX14_goBy_13 : decode cX14_goBy 13 = .ok (.aload_n 0, 1) := by decide +kernel
theorem dX14_goBy_14 : decode cX14_goBy 14 = .ok (.getfield 38, 3) := by decide +kernel
theorem dX14_goBy_17 : decode cX14_goBy 17 = .ok (.getfield 150, 3) := by decide +kernel
theorem dX14_goBy_20 : decode cX14_goBy 20 = .ok (.if_icmp .ge 43, 3) := by decide +kernel
theorem dX14_goBy_23 : decode cX14_goBy 23 = .ok (.iload_n 3, 1) := by decide +kernel
theorem dX14_goBy_24 : decode cX14_goBy 24 = .ok (.iload_n 2, 1) := by decide +kernel
theorem dX14_goBy_25 : decode cX14_goBy 25 = .ok (.if_icmp .eq 32, 3) := by decide +kernel
theorem dX14_goBy_28 : decode cX14_goBy 28 = .ok (.aload_n 0, 1) := by decide +kernel
theorem dX14_goBy_29 : decode cX14_goBy 29 = .ok (.getfield 45, 3) := by decide +kernel
theorem dX14_goBy_32 : decode cX14_goBy 32 = .ok (.iload_n 3, 1) := by decide +kernel
theorem dX14_goBy_33 : decode cX14_goBy 33 = .ok (.iconst 2, 1) := by decide +kernel
theorem dX14_goBy_34 : decode cX14_goBy 34 = .ok (.invokestatic 66, 3) := by decide +kernel
theorem dX14_goBy_37 : decode cX14_goBy 37 = .ok (.bipush 20, 2) := by decide +kernel
theorem dX14_goBy_39 : decode cX14_goBy 39 = .ok (.aload_n 0, 1) := by decide +kernel
theorem dX14_goBy_40 : decode cX14_goBy 40 = .ok (.getfield 45, 3) := by decide +kernel
theorem dX14_goBy_43 : decode cX14_goBy 43 = .ok (.iload_n 3, 1) := by decide +kernel
theorem dX14_goBy_44 : decode cX14_goBy 44 = .ok (.iconst 2, 1) := by decide +kernel
theorem dX14_goBy_45 : decode cX14_goBy 45 = .ok (.invokestatic 66, 3) := by decide +kernel
theorem dX14_goBy_48 : decode cX14_goBy 48 = .ok (.iaload, 1) := by decide +kernel
theorem dX14_goBy_49 : decode cX14_goBy 49 = .ok (.iload_n 1, 1) := by decide +kernel
theorem dX14_goBy_50 : decode cX14_goBy 50 = .ok (.iconst 2, 1) := by decide +kernel
theorem dX14_goBy_51 : decode cX14_goBy 51 = .ok (.idiv, 1) := by decide +kernel
theorem dX14_goBy_52 : decode cX14_goBy 52 = .ok (.isub, 1) := by decide +kernel
theorem dX14_goBy_53 : decode cX14_goBy 53 = .ok (.invokestatic 63, 3) := by decide +kernel
theorem dX14_goBy_56 : decode cX14_goBy 56 = .ok (.iastore, 1) := by decide +kernel
theorem dX14_goBy_57 : decode cX14_goBy 57 = .ok (.iinc 3 1, 3) := by decide +kernel
theorem dX14_goBy_60 : decode cX14_goBy 60 = .ok (.goto (-48), 3) := by decide +kernel
theorem dX14_goBy_63 : decode cX14_goBy 63 = .ok (.return_, 1) := by decide +kernel
set_option maxRecDepth 20000 in
theorem ggX14_climb_X14_of : GoodIn wsX14_climb wsX14_of := goodIn_r _ [10] (by decide +kernel) (by decide +kernel)
set_option maxRecDepth 20000 in
theorem gX14_climb_X14_of : GoodIn wsX14_climb (va_wsS RX14 66 yX14_of wsX14_of) := goodIn_app (goodIn_of _ (by decide +kernel)) ggX14_climb_X14_of
set_option maxRecDepth 20000 in
theorem ggX14_climb_X14_boiling : GoodIn wsX14_climb wsX14_boiling := goodIn_r _ [14, 1, 15, 16, 9, 17, 18, 19, 20, 21, 22, 23, 24, 25, 26, 27, 28, 29, 30, 31, 32, 33, 34, 35, 36, 37, 38, 39, 40] (by decide +kernel) (by decide +kernel)
set_option maxRecDepth 20000 in
theorem gX14_climb_X14_boiling : GoodIn wsX14_climb (wsV RX14 300 RX14 yX14_boiling wsX14_boiling) := goodIn_app (goodIn_of _ (by decide +kernel)) ggX14_climb_X14_boiling
theorem dX14_climb_0 : decode cX14_climb 0 = .ok (.aload_n 0, 1) := by decide +kernel
theorem dX14_climb_1 : decode cX14_climb 1 = .ok (.getfield 45, 3) := by decide +kernel
theorem dX14_climb_4 : decode cX14_climb 4 = .ok (.iconst 0, 1) := by decide +kernel
theorem dX14_climb_5 : decode cX14_climb 5 = .ok (.iload_n 1, 1) := by decide +kernel
theorem dX14_climb_6 : decode cX14_climb 6 = .ok (.iastore, 1) := by decide +kernel
theorem dX14_climb_7 : decode cX14_climb 7 = .ok (.iconst 0, 1) := by decide +kernel
theorem dX14_climb_8 : decode cX14_climb 8 = .ok (.istore_n 2, 1) := by decide +kernel
theorem dX14_climb_9 : decode cX14_climb 9 = .ok (.iload_n 2, 1) := by decide +kernel
theorem dX14_climb_10 : decode cX14_climb 10 = .ok (.aload_n 0, 1) := by decide +kernel
theorem dX14_climb_11 : decode cX14_climb 11 = .ok (.getfield 38, 3) := by decide +kernel
theorem dX14_climb_14 : decode cX14_climb 14 = .ok (.getfield 150, 3) := by decide +kernel
theorem dX14_climb_17 : decode cX14_climb 17 = .ok (.if_icmp .ge 49, 3) := by decide +kernel
theorem dX14_climb_20 : decode cX14_climb 20 = .ok (.aload_n 0, 1) := by decide +kernel
theorem dX14_climb_21 : decode cX14_climb 21 = .ok (.getfield 45, 3) := by decide +kernel
theorem dX14_climb_24 : decode cX14_climb 24 = .ok (.iload_n 2, 1) := by decide +kernel
theorem dX14_climb_25 : decode cX14_climb 25 = .ok (.iconst 0, 1) := by decide +kernel
theorem dX14_climb_26 : decode cX14_climb 26 = .ok (.invokestatic 66, 3) := by decide +kernel
theorem dX14_climb_29 : decode cX14_climb 29 = .ok (.iaload, 1) := by decide +kernel
theorem dX14_climb_30 : decode cX14_climb 30 = .ok (.ifCond .le 30, 3) := by decide +kernel
theorem dX14_climb_33 : decode cX14_climb 33 = .ok (.aload_n 0, 1) := by decide +kernel
theorem dX14_climb_34 : decode cX14_climb 34 = .ok (.getfield 45, 3) := by decide +kernel
theorem dX14_climb_37 : decode cX14_climb 37 = .ok (.iload_n 2, 1) := by decide +kernel
theorem dX14_climb_38 : decode cX14_climb 38 = .ok (.iconst 2, 1) := by decide +kernel
theorem dX14_climb_39 : decode cX14_climb 39 = .ok (.invokestatic 66, 3) := by decide +kernel
theorem dX14_climb_42 : decode cX14_climb 42 = .ok (.aload_n 0, 1) := by decide +kernel
theorem dX14_climb_43 : decode cX14_climb 43 = .ok (.getfield 45, 3) := by decide +kernel
theorem dX14_climb_46 : decode cX14_climb 46 = .ok (.iload_n 2, 1) := by decide +kernel
theorem dX14_climb_47 : decode cX14_climb 47 = .ok (.iconst 2, 1) := by decide +kernel
theorem dX14_climb_48 : decode cX14_climb 48 = .ok (.invokestatic 66, 3) := by decide +kernel
theorem dX14_climb_51 : decode cX14_climb 51 = .ok (.iaload, 1) := by decide +kernel
theorem dX14_climb_52 : decode cX14_climb 52 = .ok (.aload_n 0, 1) := by decide +kernel
theorem dX14_climb_53 : decode cX14_climb 53 = .ok (.invokevirtual 300, 3) := by decide +kernel
theorem dX14_climb_56 : decode cX14_climb 56 = .ok (.invokestatic 57, 3) := by decide +kernel
theorem dX14_climb_59 : decode cX14_climb 59 = .ok (.iastore, 1) := by decide +kernel
theorem dX14_climb_60 : decode cX14_climb 60 = .ok (.iinc 2 1, 3) := by decide +kernel
theorem dX14_climb_63 : decode cX14_climb 63 = .ok (.goto (-54), 3) := by decide +kernel
theorem dX14_climb_66 : decode cX14_climb 66 = .ok (.return_, 1) := by decide +kernel
theorem dX14_warn_0 : decode cX14_warn 0 = .ok (.aload_n 0, 1) := by decide +kernel
theorem dX14_warn_1 : decode cX14_warn 1 = .ok (.getfield 303, 3) := by decide +kernel
theorem dX14_warn_4 : decode cX14_warn 4 = .ok (.iconst (-1), 1) := by decide +kernel
theorem dX14_warn_5 : decode cX14_warn 5 = .ok (.if_icmp .ne 11, 3) := by decide +kernel
theorem dX14_warn_8 : decode cX14_warn 8 = .ok (.aload_n 0, 1) := by decide +kernel
theorem dX14_warn_9 : decode cX14_warn 9 = .ok (.aload_n 0, 1) := by decide +kernel
theorem dX14_warn_10 : decode cX14_warn 10 = .ok (.getfield 306, 3) := by decide +kernel
theorem dX14_warn_13 : decode cX14_warn 13 = .ok (.putfield 303, 3) := by decide +kernel
theorem dX14_warn_16 : decode cX14_warn 16 = .ok (.aload_n 0, 1) := by decide +kernel
theorem dX14_warn_17 : decode cX14_warn 17 = .ok (.getfield 45, 3) := by decide +kernel
theorem dX14_warn_20 : decode cX14_warn 20 = .ok (.bipush 12, 2) := by decide +kernel
theorem dX14_warn_22 : decode cX14_warn 22 = .ok (.aload_n 0, 1) := by decide +kernel
theorem dX14_warn_23 : decode cX14_warn 23 = .ok (.getfield 45, 3) := by decide +kernel
theorem dX14_warn_26 : decode cX14_warn 26 = .ok (.iconst 4, 1) := by decide +kernel
theorem dX14_warn_27 : decode cX14_warn 27 = .ok (.iaload, 1) := by decide +kernel
theorem dX14_warn_28 : decode cX14_warn 28 = .ok (.bipush 20, 2) := by decide +kernel
theorem dX14_warn_30 : decode cX14_warn 30 = .ok (.irem, 1) := by decide +kernel
theorem dX14_warn_31 : decode cX14_warn 31 = .ok (.iadd, 1) := by decide +kernel
theorem dX14_warn_32 : decode cX14_warn 32 = .ok (.iload_n 1, 1) := by decide +kernel
theorem dX14_warn_33 : decode cX14_warn 33 = .ok (.iastore, 1) := by decide +kernel
theorem dX14_warn_34 : decode cX14_warn 34 = .ok (.aload_n 0, 1) := by decide +kernel
theorem dX14_warn_35 : decode cX14_warn 35 = .ok (.getfield 45, 3) := by decide +kernel
theorem dX14_warn_38 : decode cX14_warn 38 = .ok (.iconst 4, 1) := by decide +kernel
theorem dX14_warn_39 : decode cX14_warn 39 = .ok (.dup2, 1) := by decide +kernel
theorem dX14_warn_40 : decode cX14_warn 40 = .ok (.iaload, 1) := by decide +kernel
theorem dX14_warn_41 : decode cX14_warn 41 = .ok (.iconst 1, 1) := by decide +kernel
theorem dX14_warn_42 : decode cX14_warn 42 = .ok (.iadd, 1) := by decide +kernel
theorem dX14_warn_43 : decode cX14_warn 43 = .ok (.iastore, 1) := by decide +kernel
theorem dX14_warn_44 : decode cX14_warn 44 = .ok (.aload_n 0, 1) := by decide +kernel
theorem dX14_warn_45 : decode cX14_warn 45 = .ok (.getfield 45, 3) := by decide +kernel
theorem dX14_warn_48 : decode cX14_warn 48 = .ok (.bipush 6, 2) := by decide +kernel
theorem dX14_warn_50 : decode cX14_warn 50 = .ok (.iload_n 1, 1) := by decide +kernel
theorem dX14_warn_51 : decode cX14_warn 51 = .ok (.iadd, 1) := by decide +kernel
theorem dX14_warn_52 : decode cX14_warn 52 = .ok (.dup2, 1) := by decide +kernel
theorem dX14_warn_53 : decode cX14_warn 53 = .ok (.iaload, 1) := by decide +kernel
theorem dX14_warn_54 : decode cX14_warn 54 = .ok (.iconst 1, 1) := by decide +kernel
theorem dX14_warn_55 : decode cX14_warn 55 = .ok (.iadd, 1) := by decide +kernel
theorem dX14_warn_56 : decode cX14_warn 56 = .ok (.iastore, 1) := by decide +kernel
theorem dX14_warn_57 : decode cX14_warn 57 = .ok (.return_, 1) := by decide +kernel
set_option maxRecDepth 20000 in
theorem ggX14_reckon_X14_boiling : GoodIn wsX14_reckon wsX14_boiling := goodIn_r _ [7, 2, 8, 9, 6, 10, 28, 29, 30, 31, 32, 33, 34, 35, 36, 37, 38, 39, 40, 41, 42, 43, 44, 45, 46, 47, 48, 49, 50] (by decide +kernel) (by decide +kernel)
set_option maxRecDepth 20000 in
theorem gX14_reckon_X14_boiling : GoodIn wsX14_reckon (wsV RX14 300 RX14 yX14_boiling wsX14_boiling) := goodIn_app (goodIn_of _ (by decide +kernel)) ggX14_reckon_X14_boiling
set_option maxRecDepth 20000 in
theorem ggX14_reckon_X14_of : GoodIn wsX14_reckon wsX14_of := goodIn_r _ [13] (by decide +kernel) (by decide +kernel)
set_option maxRecDepth 20000 in
theorem gX14_reckon_X14_of : GoodIn wsX14_reckon (va_wsS RX14 66 yX14_of wsX14_of) := goodIn_app (goodIn_of _ (by decide +kernel)) ggX14_reckon_X14_of
set_option maxRecDepth 20000 in
theorem ggX14_reckon_X14_room : GoodIn wsX14_reckon wsX14_room := goodIn_r _ [17, 1, 18, 19, 20, 6, 21, 2, 11, 12, 13, 28, 29, 30, 31, 32, 33, 34, 35, 36, 37, 38, 39, 40, 41, 42, 43, 44, 45, 46, 47, 48, 49, 50, 51, 52, 53, 54, 55, 56, 57, 58, 59, 60, 61, 62, 63, 64, 65, 66, 67, 68, 69, 70, 71] (by decide +kernel) (by decide +kernel)
set_option maxRecDepth 20000 in
theorem gX14_reckon_X14_room : GoodIn wsX14_reckon (wsV RX14 297 RX14 yX14_room wsX14_room) := goodIn_app (goodIn_of _ (by decide +kernel)) ggX14_reckon_X14_room
set_option maxRecDepth 20000 in
theorem ggX14_reckon_X14_reckon : GoodIn wsX14_reckon wsX14_reckon := goodIn_r _ [0, 1, 2, 3, 4, 5, 6, 7, 8, 9, 10, 11, 12, 13, 14, 15, 16, 17, 18, 19, 20, 21, 22, 23, 24, 25, 26, 27, 28, 29, 30, 31, 32, 33, 34, 35, 36, 37, 38, 39, 40, 41, 42, 43, 44, 45, 46, 47, 48, 49, 50, 51, 52, 53, 54, 55, 56, 57, 58, 59, 60, 61, 62, 63, 64, 65, 66, 67, 68, 69, 70, 71] (by decide +kernel) (by decide +kernel)
set_option maxRecDepth 20000 in
theorem gX14_reckon_X14_reckon : GoodIn wsX14_reckon (wsV RX14 309 RX14 yX14_reckon wsX14_reckon) := goodIn_app (goodIn_of _ (by decide +kernel)) ggX14_reckon_X14_reckon
set_option maxRecDepth 20000 in
theorem ggX14_reckon_X14_joined : GoodIn wsX14_reckon wsX14_joined := goodIn_r _ [27] (by decide +kernel) (by decide +kernel)
set_option maxRecDepth 20000 in
theorem gX14_reckon_X14_joined : GoodIn wsX14_reckon (va_wsS RX14 312 yX14_joined wsX14_joined) := goodIn_app (goodIn_of _ (by decide +kernel)) ggX14_reckon_X14_joined
theorem dX14_reckon_0 : decode cX14_reckon 0 = .ok (.aload_n 0, 1) := by decide +kernel
theorem dX14_reckon_1 : decode cX14_reckon 1 = .ok (.getfield 38, 3) := by decide +kernel
theorem dX14_reckon_4 : decode cX14_reckon 4 = .ok (.getfield 165, 3) := by decide +kernel
theorem dX14_reckon_7 : decode cX14_reckon 7 = .ok (.iload_n 1, 1) := by decide +kernel
theorem dX14_reckon_8 : decode cX14_reckon 8 = .ok (.iaload, 1) := by decide +kernel
theorem dX14_reckon_9 : decode cX14_reckon 9 = .ok (.istore_n 2, 1) := by decide +kernel
theorem dX14_reckon_10 : decode cX14_reckon 10 = .ok (.aload_n 0, 1) := by decide +kernel
theorem dX14_reckon_11 : decode cX14_reckon 11 = .ok (.getfield 38, 3) := by decide +kernel
theorem dX14_reckon_14 : decode cX14_reckon 14 = .ok (.getfield 162, 3) := by decide +kernel
theorem dX14_reckon_17 : decode cX14_reckon 17 = .ok (.iload_n 1, 1) := by decide +kernel
theorem dX14_reckon_18 : decode cX14_reckon 18 = .ok (.iaload, 1) := by decide +kernel
theorem dX14_reckon_19 : decode cX14_reckon 19 = .ok (.tableswitch 250 4 41 #[200, 211, 250, 222, 250, 250, 250, 250, 250, 250, 250, 250, 250, 250, 250, 167, 174, 179, 186, 193, 250, 233, 244, 250, 250, 250, 250, 250, 250, 250, 250, 250, 250, 250, 250, 250, 250, 165], 165) := by decide +kernel
theorem dX14_reckon_184 : decode cX14_reckon 184 = .ok (.iload_n 2, 1) := by decide +kernel
theorem dX14_reckon_185 : decode cX14_reckon 185 = .ok (.ireturn, 1) := by decide +kernel
theorem dX14_reckon_186 : decode cX14_reckon 186 = .ok (.aload_n 0, 1) := by decide +kernel
theorem dX14_reckon_187 : decode cX14_reckon 187 = .ok (.getfield 45, 3) := by decide +kernel
theorem dX14_reckon_190 : decode cX14_reckon 190 = .ok (.iconst 0, 1) := by decide +kernel
theorem dX14_reckon_191 : decode cX14_reckon 191 = .ok (.iaload, 1) := by decide +kernel
theorem dX14_reckon_192 : decode cX14_reckon 192 = .ok (.ireturn, 1) := by decide +kernel
theorem dX14_reckon_193 : decode cX14_reckon 193 = .ok (.aload_n 0, 1) := by decide +kernel
theorem dX14_reckon_194 : decode cX14_reckon 194 = .ok (.invokevirtual 300, 3) := by decide +kernel
theorem dX14_reckon_197 : decode cX14_reckon 197 = .ok (.ireturn, 1) := by decide +kernel
theorem dX14_reckon_198 : decode cX14_reckon 198 = .ok (.aload_n 0, 1) := by decide +kernel
theorem dX14_reckon_199 : decode cX14_reckon 199 = .ok (.getfield 45, 3) := by decide +kernel
theorem dX14_reckon_202 : decode cX14_reckon 202 = .ok (.iconst 3, 1) := by decide +kernel
theorem dX14_reckon_203 : decode cX14_reckon 203 = .ok (.iaload, 1) := by decide +kernel
theorem dX14_reckon_204 : decode cX14_reckon 204 = .ok (.ireturn, 1) := by decide +kernel
theorem dX14_reckon_205 : decode cX14_reckon 205 = .ok (.aload_n 0, 1) := by decide +kernel
theorem dX14_reckon_206 : decode cX14_reckon 206 = .ok (.getfield 45, 3) := by decide +kernel
theorem dX14_reckon_209 : decode cX14_reckon 209 = .ok (.iconst 1, 1) := by decide +kernel
theorem dX14_reckon_210 : decode cX14_reckon 210 = .ok (.iaload, 1) := by decide +kernel
theorem dX14_reckon_211 : decode cX14_reckon 211 = .ok (.ireturn, 1) := by decide +kernel
theorem dX14_reckon_212 : decode cX14_reckon 212 = .ok (.aload_n 0, 1) := by decide +kernel
theorem dX14_reckon_213 : decode cX14_reckon 213 = .ok (.getfield 45, 3) := by decide +kernel
theorem dX14_reckon_216 : decode cX14_reckon 216 = .ok (.iconst 2, 1) := by decide +kernel
theorem dX14_reckon_217 : decode cX14_reckon 217 = .ok (.iaload, 1) := by decide +kernel
theorem dX14_reckon_218 : decode cX14_reckon 218 = .ok (.ireturn, 1) := by decide +kernel
theorem dX14_reckon_219 : decode cX14_reckon 219 = .ok (.aload_n 0, 1) := by decide +kernel
theorem dX14_reckon_220 : decode cX14_reckon 220 = .ok (.getfield 45, 3) := by decide +kernel
theorem dX14_reckon_223 : decode cX14_reckon 223 = .ok (.iload_n 2, 1) := by decide +kernel
theorem dX14_reckon_224 : decode cX14_reckon 224 = .ok (.iconst 0, 1) := by decide +kernel
theorem dX14_reckon_225 : decode cX14_reckon 225 = .ok (.invokestatic 66, 3) := by decide +kernel
theorem dX14_reckon_228 : decode cX14_reckon 228 = .ok (.iaload, 1) := by decide +kernel
theorem dX14_reckon_229 : decode cX14_reckon 229 = .ok (.ireturn, 1) := by decide +kernel
theorem dX14_reckon_230 : decode cX14_reckon 230 = .ok (.aload_n 0, 1) := by decide +kernel
theorem dX14_reckon_231 : decode cX14_reckon 231 = .ok (.getfield 45, 3) := by decide +kernel
theorem dX14_reckon_234 : decode cX14_reckon 234 = .ok (.iload_n 2, 1) := by decide +kernel
theorem dX14_reckon_235 : decode cX14_reckon 235 = .ok (.iconst 1, 1) := by decide +kernel
theorem dX14_reckon_236 : decode cX14_reckon 236 = .ok (.invokestatic 66, 3) := by decide +kernel
theorem dX14_reckon_239 : decode cX14_reckon 239 = .ok (.iaload, 1) := by decide +kernel
theorem dX14_reckon_240 : decode cX14_reckon 240 = .ok (.ireturn, 1) := by decide +kernel
theorem dX14_reckon_241 : decode cX14_reckon 241 = .ok (.aload_n 0, 1) := by decide +kernel
theorem dX14_reckon_242 : decode cX14_reckon 242 = .ok (.getfield 45, 3) := by decide +kernel
theorem dX14_reckon_245 : decode cX14_reckon 245 = .ok (.iload_n 2, 1) := by decide +kernel
theorem dX14_reckon_246 : decode cX14_reckon 246 = .ok (.iconst 2, 1) := by decide +kernel
theorem dX14_reckon_247 : decode cX14_reckon 247 = .ok (.invokestatic 66, 3) := by decide +kernel
theorem dX14_reckon_250 : decode cX14_reckon 250 = .ok (.iaload, 1) := by decide +kernel
theorem dX14_reckon_251 : decode cX14_reckon 251 = .ok (.ireturn, 1) := by decide +kernel
theorem dX14_reckon_252 : decode cX14_reckon 252 = .ok (.aload_n 0, 1) := by decide +kernel
theorem dX14_reckon_253 : decode cX14_reckon 253 = .ok (.getfield 45, 3) := by decide +kernel
theorem dX14_reckon_256 : decode cX14_reckon 256 = .ok (.iload_n 2, 1) := by decide +kernel
theorem dX14_reckon_257 : decode cX14_reckon 257 = .ok (.iconst 3, 1) := by decide +kernel
theorem dX14_reckon_258 : decode cX14_reckon 258 = .ok (.invokestatic 66, 3) := by decide +kernel
theorem dX14_reckon_261 : decode cX14_reckon 261 = .ok (.iaload, 1) := by decide +kernel
theorem dX14_reckon_262 : decode cX14_reckon 262 = .ok (.ireturn, 1) := by decide +kernel
theorem dX14_reckon_263 : decode cX14_reckon 263 = .ok (.aload_n 0, 1) := by decide +kernel
theorem dX14_reckon_264 : decode cX14_reckon 264 = .ok (.iload_n 2, 1) := by decide +kernel
theorem dX14_reckon_265 : decode cX14_reckon 265 = .ok (.invokevirtual 297, 3) := by decide +kernel
theorem dX14_reckon_268 : decode cX14_reckon 268 = .ok (.ireturn, 1) := by decide +kernel
theorem dX14_reckon_269 : decode cX14_reckon 269 = .ok (.aload_n 0, 1) := by decide +kernel
theorem dX14_reckon_270 : decode cX14_reckon 270 = .ok (.getfield 38, 3) := by decide +kernel
theorem dX14_reckon_273 : decode cX14_reckon 273 = .ok (.getfield 162, 3) := by decide +kernel
theorem dX14_reckon_276 : decode cX14_reckon 276 = .ok (.iload_n 1, 1) := by decide +kernel
theorem dX14_reckon_277 : decode cX14_reckon 277 = .ok (.iaload, 1) := by decide +kernel
theorem dX14_reckon_278 : decode cX14_reckon 278 = .ok (.aload_n 0, 1) := by decide +kernel
theorem dX14_reckon_279 : decode cX14_reckon 279 = .ok (.iload_n 2, 1) := by decide +kernel
theorem dX14_reckon_280 : decode cX14_reckon 280 = .ok (.invokevirtual 309, 3) := by decide +kernel
theorem dX14_reckon_283 : decode cX14_reckon 283 = .ok (.aload_n 0, 1) := by decide +kernel
theorem dX14_reckon_284 : decode cX14_reckon 284 = .ok (.aload_n 0, 1) := by decide +kernel
theorem dX14_reckon_285 : decode cX14_reckon 285 = .ok (.getfield 38, 3) := by decide +kernel
theorem dX14_reckon_288 : decode cX14_reckon 288 = .ok (.getfield 168, 3) := by decide +kernel
theorem dX14_reckon_291 : decode cX14_reckon 291 = .ok (.iload_n 1, 1) := by decide +kernel
theorem dX14_reckon_292 : decode cX14_reckon 292 = .ok (.iaload, 1) := by decide +kernel
theorem dX14_reckon_293 : decode cX14_reckon 293 = .ok (.invokevirtual 309, 3) := by decide +kernel
theorem dX14_reckon_296 : decode cX14_reckon 296 = .ok (.invokestatic 312, 3) := by decide +kernel
theorem dX14_reckon_299 : decode cX14_reckon 299 = .ok (.ireturn, 1) := by decide +kernel
theorem dX14_joined_0 : decode cX14_joined 0 = .ok (.iload_n 0, 1) := by decide +kernel
theorem dX14_joined_1 : decode cX14_joined 1 = .ok (.tableswitch 39 56 58 #[27, 31, 35], 27) := by decide +kernel
theorem dX14_joined_28 : decode cX14_joined 28 = .ok (.iload_n 1, 1) := by decide +kernel
theorem dX14_joined_29 : decode cX14_joined 29 = .ok (.iload_n 2, 1) := by decide +kernel
theorem dX14_joined_30 : decode cX14_joined 30 = .ok (.iadd, 1) := by decide +kernel
theorem dX14_joined_31 : decode cX14_joined 31 = .ok (.ireturn, 1) := by decide +kernel
theorem dX14_joined_32 : decode cX14_joined 32 = .ok (.iload_n 1, 1) := by decide +kernel
theorem dX14_joined_33 : decode cX14_joined 33 = .ok (.iload_n 2, 1) := by decide +kernel
theorem dX14_joined_34 : decode cX14_joined 34 = .ok (.isub, 1) := by decide +kernel
theorem dX14_joined_35 : decode cX14_joined 35 = .ok (.ireturn, 1) := by decide +kernel
theorem dX14_joined_36 : decode cX14_joined 36 = .ok (.iload_n 1, 1) := by decide +kernel
theorem dX14_joined_37 : decode cX14_joined 37 = .ok (.iload_n 2, 1) := by decide +kernel
theorem dX14_joined_38 : decode cX14_joined 38 = .ok (.imul, 1) := by decide +kernel
theorem dX14_joined_39 : decode cX14_joined 39 = .ok (.ireturn, 1) := by decide +kernel
theorem dX14_joined_40 : decode cX14_joined 40 = .ok (.iload_n 2, 1) := by decide +kernel
theorem dX14_joined_41 : decode cX14_joined 41 = .ok (.ifCond .ne 7, 3) := by decide +kernel
theorem dX14_joined_44 : decode cX14_joined 44 = .ok (.iconst 0, 1) := by decide +kernel
theorem dX14_joined_45 : decode cX14_joined 45 = .ok (.goto 6, 3) := by decide +kernel
theorem dX14_joined_48 : decode cX14_joined 48 = .ok (.iload_n 1, 1) := by decide +kernel
theorem dX14_joined_49 : decode cX14_joined 49 = .ok (.iload_n 2, 1) := by decide +kernel
theorem dX14_joined_50 : decode cX14_joined 50 = .ok (.idiv, 1) := by decide +kernel
theorem dX14_joined_51 : decode cX14_joined 51 = .ok (.ireturn, 1) := by decide +kernel
set_option maxRecDepth 20000 in
theorem ggX14_isSo_X14_reckon : GoodIn wsX14_isSo wsX14_reckon := goodIn_r _ [6, 1, 7, 8, 9, 10, 5, 11, 12, 13, 14, 15, 16, 17, 18, 19, 20, 21, 22, 23, 24, 25, 2, 3, 4, 26, 27, 28, 29, 30, 31, 32, 33, 34, 35, 36, 37, 38, 39, 40, 41, 42, 43, 44, 45, 46, 47, 48, 49, 50, 51, 52, 53, 54, 55, 56, 57, 58, 59, 60, 61, 62, 63, 64, 65, 66, 67, 68, 69, 70, 71, 72] (by decide +kernel) (by decide +kernel)
set_option maxRecDepth 20000 in
theorem gX14_isSo_X14_reckon : GoodIn wsX14_isSo (wsV RX14 309 RX14 yX14_reckon wsX14_reckon) := goodIn_app (goodIn_of _ (by decide +kernel)) ggX14_isSo_X14_reckon
theorem dX14_isSo_0 : decode cX14_isSo 0 = .ok (.aload_n 0, 1) := by decide +kernel
theorem dX14_isSo_1 : decode cX14_isSo 1 = .ok (.aload_n 0, 1) := by decide +kernel
theorem dX14_isSo_2 : decode cX14_isSo 2 = .ok (.getfield 38, 3) := by decide +kernel
theorem dX14_isSo_5 : decode cX14_isSo 5 = .ok (.getfield 200, 3) := by decide +kernel
theorem dX14_isSo_8 : decode cX14_isSo 8 = .ok (.iload_n 1, 1) := by decide +kernel
theorem dX14_isSo_9 : decode cX14_isSo 9 = .ok (.iaload, 1) := by decide +kernel
theorem dX14_isSo_10 : decode cX14_isSo 10 = .ok (.invokevirtual 309, 3) := by decide +kernel
theorem dX14_isSo_13 : decode cX14_isSo 13 = .ok (.istore_n 2, 1) := by decide +kernel
theorem dX14_isSo_14 : decode cX14_isSo 14 = .ok (.aload_n 0, 1) := by decide +kernel
theorem dX14_isSo_15 : decode cX14_isSo 15 = .ok (.aload_n 0, 1) := by decide +kernel
theorem dX14_isSo_16 : decode cX14_isSo 16 = .ok (.getfield 38, 3) := by decide +kernel
theorem dX14_isSo_19 : decode cX14_isSo 19 = .ok (.getfield 203, 3) := by decide +kernel
theorem dX14_isSo_22 : decode cX14_isSo 22 = .ok (.iload_n 1, 1) := by decide +kernel
theorem dX14_isSo_23 : decode cX14_isSo 23 = .ok (.iaload, 1) := by decide +kernel
theorem dX14_isSo_24 : decode cX14_isSo 24 = .ok (.invokevirtual 309, 3) := by decide +kernel
theorem dX14_isSo_27 : decode cX14_isSo 27 = .ok (.istore_n 3, 1) := by decide +kernel
theorem dX14_isSo_28 : decode cX14_isSo 28 = .ok (.aload_n 0, 1) := by decide +kernel
theorem dX14_isSo_29 : decode cX14_isSo 29 = .ok (.getfield 38, 3) := by decide +kernel
theorem dX14_isSo_32 : decode cX14_isSo 32 = .ok (.getfield 197, 3) := by decide +kernel
theorem dX14_isSo_35 : decode cX14_isSo 35 = .ok (.iload_n 1, 1) := by decide +kernel
theorem dX14_isSo_36 : decode cX14_isSo 36 = .ok (.iaload, 1) := by decide +kernel
theorem dX14_isSo_37 : decode cX14_isSo 37 = .ok (.bipush 53, 2) := by decide +kernel
theorem dX14_isSo_39 : decode cX14_isSo 39 = .ok (.if_icmp .ne 16, 3) := by decide +kernel
theorem dX14_isSo_42 : decode cX14_isSo 42 = .ok (.iload_n 2, 1) := by decide +kernel
theorem dX14_isSo_43 : decode cX14_isSo 43 = .ok (.iload_n 3, 1) := by decide +kernel
theorem dX14_isSo_44 : decode cX14_isSo 44 = .ok (.if_icmp .ge 7, 3) := by decide +kernel
theorem dX14_isSo_47 : decode cX14_isSo 47 = .ok (.iconst 1, 1) := by decide +kernel
theorem dX14_isSo_48 : decode cX14_isSo 48 = .ok (.goto 44, 3) := by decide +kernel
theorem dX14_isSo_51 : decode cX14_isSo 51 = .ok (.iconst 0, 1) := by decide +kernel
theorem dX14_isSo_52 : decode cX14_isSo 52 = .ok (.goto 40, 3) := by decide +kernel
theorem dX14_isSo_55 : decode cX14_isSo 55 = .ok (.aload_n 0, 1) := by decide +kernel
theorem dX14_isSo_56 : decode cX14_isSo 56 = .ok (.getfield 38, 3) := by decide +kernel
theorem dX14_isSo_59 : decode cX14_isSo 59 = .ok (.getfield 197, 3) := by decide +kernel
theorem dX14_isSo_62 : decode cX14_isSo 62 = .ok (.iload_n 1, 1) := by decide +kernel
theorem dX14_isSo_63 : decode cX14_isSo 63 = .ok (.iaload, 1) := by decide +kernel
theorem dX14_isSo_64 : decode cX14_isSo 64 = .ok (.bipush 54, 2) := by decide +kernel
theorem dX14_isSo_66 : decode cX14_isSo 66 = .ok (.if_icmp .ne 16, 3) := by decide +kernel
theorem dX14_isSo_69 : decode cX14_isSo 69 = .ok (.iload_n 2, 1) := by decide +kernel
theorem dX14_isSo_70 : decode cX14_isSo 70 = .ok (.iload_n 3, 1) := by decide +kernel
theorem dX14_isSo_71 : decode cX14_isSo 71 = .ok (.if_icmp .le 7, 3) := by decide +kernel
theorem dX14_isSo_74 : decode cX14_isSo 74 = .ok (.iconst 1, 1) := by decide +kernel
theorem dX14_isSo_75 : decode cX14_isSo 75 = .ok (.goto 17, 3) := by decide +kernel
theorem dX14_isSo_78 : decode cX14_isSo 78 = .ok (.iconst 0, 1) := by decide +kernel
theorem dX14_isSo_79 : decode cX14_isSo 79 = .ok (.goto 13, 3) := by decide +kernel
theorem dX14_isSo_82 : decode cX14_isSo 82 = .ok (.iload_n 2, 1) := by decide +kernel
theorem dX14_isSo_83 : decode cX14_isSo 83 = .ok (.iload_n 3, 1) := by decide +kernel
theorem dX14_isSo_84 : decode cX14_isSo 84 = .ok (.if_icmp .ne 7, 3) := by decide +kernel
theorem dX14_isSo_87 : decode cX14_isSo 87 = .ok (.iconst 1, 1) := by decide +kernel
theorem dX14_isSo_88 : decode cX14_isSo 88 = .ok (.goto 4, 3) := by decide +kernel
theorem dX14_isSo_91 : decode cX14_isSo 91 = .ok (.iconst 0, 1) := by decide +kernel
theorem dX14_isSo_92 : decode cX14_isSo 92 = .ok (.ireturn, 1) := by decide +kernel
set_option maxRecDepth 20000 in
theorem ggX14_areSo_X14_isSo : GoodIn wsX14_areSo wsX14_isSo := goodIn_r _ [6, 1, 7, 8, 9, 5, 10, 11, 12, 13, 14, 15, 16, 17, 18, 19, 20, 21, 22, 23, 24, 25, 26, 27, 28, 29, 30, 31, 32, 33, 34, 35, 36, 37, 38, 39, 40, 41, 42, 43, 44, 45, 46, 47, 48, 49, 50, 51, 52, 53, 54, 55, 56, 57, 58, 59, 60, 61, 62, 63, 64, 65, 66, 67, 68, 69, 70, 71, 72, 73, 74, 75, 76] (by decide +kernel) (by decide +kernel)
set_option maxRecDepth 20000 in
theorem gX14_areSo_X14_isSo : GoodIn wsX14_areSo (wsV RX14 315 RX14 yX14_isSo wsX14_isSo) := goodIn_app (goodIn_of _ (by decide +kernel)) ggX14_areSo_X14_isSo
theorem dX14_areSo_0 : decode cX14_areSo 0 = .ok (.aload_n 0, 1) := by decide +kernel
theorem dX14_areSo_1 : decode cX14_areSo 1 = .ok (.getfield 38, 3) := by decide +kernel
theorem dX14_areSo_4 : decode cX14_areSo 4 = .ok (.getfield 244, 3) := by decide +kernel
theorem dX14_areSo_7 : decode cX14_areSo 7 = .ok (.iload_n 1, 1) := by decide +kernel
theorem dX14_areSo_8 : decode cX14_areSo 8 = .ok (.iaload, 1) := by decide +kernel
theorem dX14_areSo_9 : decode cX14_areSo 9 = .ok (.istore_n 2, 1) := by decide +kernel
theorem dX14_areSo_10 : decode cX14_areSo 10 = .ok (.iload_n 2, 1) := by decide +kernel
theorem dX14_areSo_11 : decode cX14_areSo 11 = .ok (.aload_n 0, 1) := by decide +kernel
theorem dX14_areSo_12 : decode cX14_areSo 12 = .ok (.getfield 38, 3) := by decide +kernel
theorem dX14_areSo_15 : decode cX14_areSo 15 = .ok (.getfield 247, 3) := by decide +kernel
theorem dX14_areSo_18 : decode cX14_areSo 18 = .ok (.iload_n 1, 1) := by decide +kernel
theorem dX14_areSo_19 : decode cX14_areSo 19 = .ok (.iaload, 1) := by decide +kernel
theorem dX14_areSo_20 : decode cX14_areSo 20 = .ok (.if_icmp .ge 19, 3) := by decide +kernel
theorem dX14_areSo_23 : decode cX14_areSo 23 = .ok (.aload_n 0, 1) := by decide +kernel
theorem dX14_areSo_24 : decode cX14_areSo 24 = .ok (.iload_n 2, 1) := by decide +kernel
theorem dX14_areSo_25 : decode cX14_areSo 25 = .ok (.invokevirtual 315, 3) := by decide +kernel
theorem dX14_areSo_28 : decode cX14_areSo 28 = .ok (.ifCond .ne 5, 3) := by decide +kernel
theorem dX14_areSo_31 : decode cX14_areSo 31 = .ok (.iconst 0, 1) := by decide +kernel
theorem dX14_areSo_32 : decode cX14_areSo 32 = .ok (.ireturn, 1) := by decide +kernel
theorem dX14_areSo_33 : decode cX14_areSo 33 = .ok (.iinc 2 1, 3) := by decide +kernel
theorem dX14_areSo_36 : decode cX14_areSo 36 = .ok (.goto (-26), 3) := by decide +kernel
theorem dX14_areSo_39 : decode cX14_areSo 39 = .ok (.iconst 1, 1) := by decide +kernel
theorem dX14_areSo_40 : decode cX14_areSo 40 = .ok (.ireturn, 1) := by decide +kernel
set_option maxRecDepth 20000 in
theorem ggX14_doBlock_X14_does : GoodIn wsX14_doBlock wsX14_does := goodIn_r _ [7, 2, 8, 1, 9, 10, 11, 6, 12, 13, 14, 15, 16, 17, 18, 19, 20, 21, 22, 23, 24, 25, 26, 27, 28, 29, 30, 31, 32, 33, 34, 35, 36, 37, 38, 39, 40, 41, 42, 43, 44, 45, 46, 47, 48, 49, 50, 51, 52, 53, 54, 55, 56, 57, 58, 59, 60, 61, 62, 63, 64, 65, 66, 67, 68, 69, 70, 71, 72, 73, 74, 75, 76, 77, 78, 79, 80, 81, 82, 83, 84, 85, 86, 87, 88, 89, 90, 91, 92, 93, 0, 3, 4, 5, 94, 95, 96, 97, 98, 99, 100, 101, 102, 103, 104, 105, 106, 107, 108, 109, 110, 111, 112, 113, 114, 115, 116, 117, 118, 119, 120, 121, 122, 123, 124, 125, 126, 127, 128, 129, 130, 131, 132, 133, 134, 135, 136, 137] (by decide +kernel) (by decide +kernel)
set_option maxRecDepth 20000 in
theorem gX14_doBlock_X14_does : GoodIn wsX14_doBlock (wsV RX14 318 RX14 yX14_does wsX14_does) := goodIn_app (goodIn_of _ (by decide +kernel)) ggX14_doBlock_X14_does
theorem dX14_doBlock_0 : decode cX14_doBlock 0 = .ok (.iload_n 1, 1) := by decide +kernel
theorem dX14_doBlock_1 : decode cX14_doBlock 1 = .ok (.istore_n 2, 1) := by decide +kernel
theorem dX14_doBlock_2 : decode cX14_doBlock 2 = .ok (.iload_n 2, 1) := by decide +kernel
theorem dX14_doBlock_3 : decode cX14_doBlock 3 = .ok (.iconst (-1), 1) := by decide +kernel
theorem dX14_doBlock_4 : decode cX14_doBlock 4 = .ok (.if_icmp .eq 40, 3) := by decide +kernel
theorem dX14_doBlock_7 : decode cX14_doBlock 7 = .ok (.aload_n 0, 1) := by decide +kernel
theorem dX14_doBlock_8 : decode cX14_doBlock 8 = .ok (.getfield 306, 3) := by decide +kernel
theorem dX14_doBlock_11 : decode cX14_doBlock 11 = .ok (.bipush 100, 2) := by decide +kernel
theorem dX14_doBlock_13 : decode cX14_doBlock 13 = .ok (.if_icmp .ge 31, 3) := by decide +kernel
theorem dX14_doBlock_16 : decode cX14_doBlock 16 = .ok (.aload_n 0, 1) := by decide +kernel
theorem dX14_doBlock_17 : decode cX14_doBlock 17 = .ok (.dup, 1) := by decide +kernel
theorem dX14_doBlock_18 : decode cX14_doBlock 18 = .ok (.getfield 306, 3) := by decide +kernel
theorem dX14_doBlock_21 : decode cX14_doBlock 21 = .ok (.iconst 1, 1) := by decide +kernel
theorem dX14_doBlock_22 : decode cX14_doBlock 22 = .ok (.iadd, 1) := by decide +kernel
theorem dX14_doBlock_23 : decode cX14_doBlock 23 = .ok (.putfield 306, 3) := by decide +kernel
theorem dX14_doBlock_26 : decode cX14_doBlock 26 = .ok (.aload_n 0, 1) := by decide +kernel
theorem dX14_doBlock_27 : decode cX14_doBlock 27 = .ok (.iload_n 2, 1) := by decide +kernel
theorem dX14_doBlock_28 : decode cX14_doBlock 28 = .ok (.invokevirtual 318, 3) := by decide +kernel
theorem dX14_doBlock_31 : decode cX14_doBlock 31 = .ok (.aload_n 0, 1) := by decide +kernel
theorem dX14_doBlock_32 : decode cX14_doBlock 32 = .ok (.getfield 38, 3) := by decide +kernel
theorem dX14_doBlock_35 : decode cX14_doBlock 35 = .ok (.getfield 212, 3) := by decide +kernel
theorem dX14_doBlock_38 : decode cX14_doBlock 38 = .ok (.iload_n 2, 1) := by decide +kernel
theorem dX14_doBlock_39 : decode cX14_doBlock 39 = .ok (.iaload, 1) := by decide +kernel
theorem dX14_doBlock_40 : decode cX14_doBlock 40 = .ok (.istore_n 2, 1) := by decide +kernel
theorem dX14_doBlock_41 : decode cX14_doBlock 41 = .ok (.goto (-39), 3) := by decide +kernel
theorem dX14_doBlock_44 : decode cX14_doBlock 44 = .ok (.return_, 1) := by decide +kernel
set_option maxRecDepth 20000 in
theorem ggX14_does_X14_reckon : GoodIn wsX14_does wsX14_reckon := goodIn_r _ [8, 1, 2, 9, 10, 11, 7, 12, 13, 14, 15, 16, 17, 18, 19, 20, 21, 22, 23, 24, 25, 26, 4, 5, 6, 27, 28, 29, 94, 95, 96, 97, 98, 99, 100, 101, 102, 103, 104, 105, 106, 107, 108, 109, 110, 111, 112, 113, 114, 115, 116, 117, 118, 119, 120, 121, 122, 123, 124, 125, 126, 127, 128, 129, 130, 131, 132, 133, 134, 135, 136, 137] (by decide +kernel) (by decide +kernel)
set_option maxRecDepth 20000 in
theorem gX14_does_X14_reckon : GoodIn wsX14_does (wsV RX14 309 RX14 yX14_reckon wsX14_reckon) := goodIn_app (goodIn_of _ (by decide +kernel)) ggX14_does_X14_reckon
set_option maxRecDepth 20000 in
theorem ggX14_does_X14_pours : GoodIn wsX14_does wsX14_pours := goodIn_r _ [33, 34, 35, 36, 7, 37, 2, 38, 39, 40, 41, 42, 43, 44, 45, 46, 47, 48, 49, 50, 51, 19, 20, 21, 22, 1, 23, 24, 25, 26, 16, 17, 18, 52, 53, 54, 55, 56, 3, 57, 58, 59, 60, 94, 95, 96, 97, 98, 99, 100, 101, 102, 103, 104, 105, 106, 107, 108, 109, 110, 111, 112, 113, 114, 115, 116, 117, 118, 119, 120, 121, 122, 123, 124, 125, 126, 127, 128, 129, 130, 131, 132, 133, 134, 135, 136, 137] (by decide +kernel) (by decide +kernel)
set_option maxRecDepth 20000 in
theorem gX14_does_X14_pours : GoodIn wsX14_does (wsV RX14 320 RX14 yX14_pours wsX14_pours) := goodIn_app (goodIn_of _ (by decide +kernel)) ggX14_does_X14_pours
set_option maxRecDepth 20000 in
theorem ggX14_does_X14_heats : GoodIn wsX14_does wsX14_heats := goodIn_r _ [64, 41, 42, 43, 44, 2, 23, 24, 25, 7, 26, 16, 17, 18, 52, 53, 54, 55, 56, 3, 9, 10, 11, 12, 13, 14, 15, 57, 58, 59, 60, 1, 45, 46, 47, 94, 95, 96, 97, 98, 99, 100, 101, 102, 103, 104, 105, 106, 107, 108, 109, 110, 111, 112, 113, 114, 115, 116, 117, 118, 119, 120, 121, 122, 123, 124, 125, 126, 127, 128, 129, 130, 131, 132, 133, 134, 135, 136, 137] (by decide +kernel) (by decide +kernel)
set_option maxRecDepth 20000 in
theorem gX14_does_X14_heats : GoodIn wsX14_does (wsV RX14 324 RX14 yX14_heats wsX14_heats) := goodIn_app (goodIn_of _ (by decide +kernel)) ggX14_does_X14_heats
set_option maxRecDepth 20000 in
theorem ggX14_does_X14_boils_ : GoodIn wsX14_does wsX14_boils_ := goodIn_r _ [68, 2, 41, 42, 43, 44, 16, 17, 7, 18, 9, 10, 11, 12, 13, 14, 15, 52, 53, 54, 55, 56, 3, 38, 39, 40, 45, 46, 47, 69, 70, 71, 72, 73, 74, 57, 58, 59, 60, 1, 94, 95, 96, 97, 98, 99, 100, 101, 102, 103, 104, 105, 106, 107, 108, 109, 110, 111, 112, 113, 114, 115, 116, 117, 118, 119, 120, 121, 122, 123, 124, 125, 126, 127, 128, 129, 130, 131, 132, 133, 134, 135, 136, 137] (by decide +kernel) (by decide +kernel)
set_option maxRecDepth 20000 in
theorem gX14_does_X14_boils_ : GoodIn wsX14_does (wsV RX14 327 RX14 yX14_boils_ wsX14_boils_) := goodIn_app (goodIn_of _ (by decide +kernel)) ggX14_does_X14_boils_
set_option maxRecDepth 20000 in
theorem ggX14_does_X14_bare : GoodIn wsX14_does wsX14_bare := goodIn_r _ [78, 2, 16, 17, 7, 18, 94, 95, 96, 97, 98, 99, 100, 101, 102, 103, 104, 105, 106, 107, 108, 109, 110, 111, 112, 113, 114, 115, 116] (by decide +kernel) (by decide +kernel)
set_option maxRecDepth 20000 in
theorem gX14_does_X14_bare : GoodIn wsX14_does (wsV RX14 329 RX14 yX14_bare wsX14_bare) := goodIn_app (goodIn_of _ (by decide +kernel)) ggX14_does_X14_bare
set_option maxRecDepth 20000 in
theorem ggX14_does_X14_goBy : GoodIn wsX14_does wsX14_goBy := goodIn_r _ [60, 2, 1, 45, 46, 43, 47, 16, 17, 7, 18, 94, 95, 96, 97, 98, 99, 100, 101, 102, 103, 104, 105, 106, 107, 108, 109, 110, 111, 112, 113, 114, 115, 116, 117, 118, 119, 120, 121, 122, 123, 124, 125, 126, 127, 128, 129, 130, 131, 132, 133, 134, 135, 136, 137] (by decide +kernel) (by decide +kernel)
set_option maxRecDepth 20000 in
theorem gX14_does_X14_goBy : GoodIn wsX14_does (wsV RX14 332 RX14 yX14_goBy wsX14_goBy) := goodIn_app (goodIn_of _ (by decide +kernel)) ggX14_does_X14_goBy
set_option maxRecDepth 20000 in
theorem ggX14_does_X14_held : GoodIn wsX14_does wsX14_held := goodIn_r _ [40, 41, 42, 43, 44, 45, 46, 47] (by decide +kernel) (by decide +kernel)
set_option maxRecDepth 20000 in
theorem gX14_does_X14_held : GoodIn wsX14_does (va_wsS RX14 291 yX14_held wsX14_held) := goodIn_app (goodIn_of _ (by decide +kernel)) ggX14_does_X14_held
set_option maxRecDepth 20000 in
theorem ggX14_does_X14_doBlock : GoodIn wsX14_does wsX14_doBlock := goodIn_r _ [90, 3, 1, 91, 92, 93, 7, 0, 2, 4, 5, 6, 8, 9, 10, 11, 12, 13, 14, 15, 16, 17, 18, 19, 20, 21, 22, 23, 24, 25, 26, 27, 28, 29, 30, 31, 32, 33, 34, 35, 36, 37, 38, 39, 40, 41, 42, 43, 44, 45, 46, 47, 48, 49, 50, 51, 52, 53, 54, 55, 56, 57, 58, 59, 60, 61, 62, 63, 64, 65, 66, 67, 68, 69, 70, 71, 72, 73, 74, 75, 76, 77, 78, 79, 80, 81, 82, 83, 84, 85, 86, 87, 88, 89, 94, 95, 96, 97, 98, 99, 100, 101, 102, 103, 104, 105, 106, 107, 108, 109, 110, 111, 112, 113, 114, 115, 116, 117, 118, 119, 120, 121, 122, 123, 124, 125, 126, 127, 128, 129, 130, 131, 132, 133, 134, 135, 136, 137] (by decide +kernel) (by decide +kernel)
set_option maxRecDepth 20000 in
theorem gX14_does_X14_doBlock : GoodIn wsX14_does (wsV RX14 335 RX14 yX14_doBlock wsX14_doBlock) := goodIn_app (goodIn_of _ (by decide +kernel)) ggX14_does_X14_doBlock
set_option maxRecDepth 20000 in
theorem ggX14_does_X14_areSo : GoodIn wsX14_does wsX14_areSo := goodIn_r _ [85, 1, 86, 87, 88, 7, 89, 4, 5, 6, 8, 2, 9, 10, 11, 12, 13, 14, 15, 16, 17, 18, 19, 20, 21, 22, 23, 24, 25, 26, 27, 28, 29, 94, 95, 96, 97, 98, 99, 100, 101, 102, 103, 104, 105, 106, 107, 108, 109, 110, 111, 112, 113, 114, 115, 116, 117, 118, 119, 120, 121, 122, 123, 124, 125, 126, 127, 128, 129, 130, 131, 132, 133, 134, 135, 136, 137] (by decide +kernel) (by decide +kernel)
set_option maxRecDepth 20000 in
theorem gX14_does_X14_areSo : GoodIn wsX14_does (wsV RX14 338 RX14 yX14_areSo wsX14_areSo) := goodIn_app (goodIn_of _ (by decide +kernel)) ggX14_does_X14_areSo
theorem dX14_does_0 : decode cX14_does 0 = .ok (.aload_n 0, 1) := by decide +kernel
theorem dX14_does_1 : decode cX14_does 1 = .ok (.getfield 38, 3) := by decide +kernel
theorem dX14_does_4 : decode cX14_does 4 = .ok (.getfield 250, 3) := by decide +kernel
theorem dX14_does_7 : decode cX14_does 7 = .ok (.iload_n 1, 1) := by decide +kernel
theorem dX14_does_8 : decode cX14_does 8 = .ok (.iaload, 1) := by decide +kernel
theorem dX14_does_9 : decode cX14_does 9 = .ok (.istore_n 2, 1) := by decide +kernel
theorem dX14_does_10 : decode cX14_does 10 = .ok (.aload_n 0, 1) := by decide +kernel
theorem dX14_does_11 : decode cX14_does 11 = .ok (.getfield 38, 3) := by decide +kernel
theorem dX14_does_14 : decode cX14_does 14 = .ok (.getfield 218, 3) := by decide +kernel
theorem dX14_does_17 : decode cX14_does 17 = .ok (.iload_n 1, 1) := by decide +kernel
theorem dX14_does_18 : decode cX14_does 18 = .ok (.iaload, 1) := by decide +kernel
theorem dX14_does_19 : decode cX14_does 19 = .ok (.tableswitch 312 4 15 #[61, 83, 312, 105, 312, 126, 312, 147, 161, 189, 232, 248], 61) := by decide +kernel
theorem dX14_does_80 : decode cX14_does 80 = .ok (.aload_n 0, 1) := by decide +kernel
theorem dX14_does_81 : decode cX14_does 81 = .ok (.iload_n 2, 1) := by decide +kernel
theorem dX14_does_82 : decode cX14_does 82 = .ok (.iconst 0, 1) := by decide +kernel
theorem dX14_does_83 : decode cX14_does 83 = .ok (.aload_n 0, 1) := by decide +kernel
theorem dX14_does_84 : decode cX14_does 84 = .ok (.aload_n 0, 1) := by decide +kernel
theorem dX14_does_85 : decode cX14_does 85 = .ok (.getfield 38, 3) := by decide +kernel
theorem dX14_does_88 : decode cX14_does 88 = .ok (.getfield 239, 3) := by decide +kernel
theorem dX14_does_91 : decode cX14_does 91 = .ok (.iload_n 1, 1) := by decide +kernel
theorem dX14_does_92 : decode cX14_does 92 = .ok (.iaload, 1) := by decide +kernel
theorem dX14_does_93 : decode cX14_does 93 = .ok (.invokevirtual 309, 3) := by decide +kernel
theorem dX14_does_96 : decode cX14_does 96 = .ok (.invokevirtual 320, 3) := by decide +kernel
theorem dX14_does_99 : decode cX14_does 99 = .ok (.goto 265, 3) := by decide +kernel
theorem dX14_does_102 : decode cX14_does 102 = .ok (.aload_n 0, 1) := by decide +kernel
theorem dX14_does_103 : decode cX14_does 103 = .ok (.iload_n 2, 1) := by decide +kernel
theorem dX14_does_104 : decode cX14_does 104 = .ok (.iconst 1, 1) := by decide +kernel
theorem dX14_does_105 : decode cX14_does 105 = .ok (.aload_n 0, 1) := by decide +kernel
theorem dX14_does_106 : decode cX14_does 106 = .ok (.aload_n 0, 1) := by decide +kernel
theorem dX14_does_107 : decode cX14_does 107 = .ok (.getfield 38, 3) := by decide +kernel
theorem dX14_does_110 : decode cX14_does 110 = .ok (.getfield 239, 3) := by decide +kernel
theorem dX14_does_113 : decode cX14_does 113 = .ok (.iload_n 1, 1) := by decide +kernel
theorem dX14_does_114 : decode cX14_does 114 = .ok (.iaload, 1) := by decide +kernel
theorem dX14_does_115 : decode cX14_does 115 = .ok (.invokevirtual 309, 3) := by decide +kernel
theorem dX14_does_118 : decode cX14_does 118 = .ok (.invokevirtual 320, 3) := by decide +kernel
theorem dX14_does_121 : decode cX14_does 121 = .ok (.goto 243, 3) := by decide +kernel
theorem dX14_does_124 : decode cX14_does 124 = .ok (.aload_n 0, 1) := by decide +kernel
theorem dX14_does_125 : decode cX14_does 125 = .ok (.iload_n 2, 1) := by decide +kernel
theorem dX14_does_126 : decode cX14_does 126 = .ok (.aload_n 0, 1) := by decide +kernel
theorem dX14_does_127 : decode cX14_does 127 = .ok (.aload_n 0, 1) := by decide +kernel
theorem dX14_does_128 : decode cX14_does 128 = .ok (.getfield 38, 3) := by decide +kernel
theorem dX14_does_131 : decode cX14_does 131 = .ok (.getfield 239, 3) := by decide +kernel
theorem dX14_does_134 : decode cX14_does 134 = .ok (.iload_n 1, 1) := by decide +kernel
theorem dX14_does_135 : decode cX14_does 135 = .ok (.iaload, 1) := by decide +kernel
theorem dX14_does_136 : decode cX14_does 136 = .ok (.invokevirtual 309, 3) := by decide +kernel
theorem dX14_does_139 : decode cX14_does 139 = .ok (.invokevirtual 324, 3) := by decide +kernel
theorem dX14_does_142 : decode cX14_does 142 = .ok (.goto 222, 3) := by decide +kernel
theorem dX14_does_145 : decode cX14_does 145 = .ok (.aload_n 0, 1) := by decide +kernel
theorem dX14_does_146 : decode cX14_does 146 = .ok (.iload_n 2, 1) := by decide +kernel
theorem dX14_does_147 : decode cX14_does 147 = .ok (.aload_n 0, 1) := by decide +kernel
theorem dX14_does_148 : decode cX14_does 148 = .ok (.aload_n 0, 1) := by decide +kernel
theorem dX14_does_149 : decode cX14_does 149 = .ok (.getfield 38, 3) := by decide +kernel
theorem dX14_does_152 : decode cX14_does 152 = .ok (.getfield 239, 3) := by decide +kernel
theorem dX14_does_155 : decode cX14_does 155 = .ok (.iload_n 1, 1) := by decide +kernel
theorem dX14_does_156 : decode cX14_does 156 = .ok (.iaload, 1) := by decide +kernel
theorem dX14_does_157 : decode cX14_does 157 = .ok (.invokevirtual 309, 3) := by decide +kernel
theorem dX14_does_160 : decode cX14_does 160 = .ok (.invokevirtual 327, 3) := by decide +kernel
theorem dX14_does_163 : decode cX14_does 163 = .ok (.goto 201, 3) := by decide +kernel
theorem dX14_does_166 : decode cX14_does 166 = .ok (.aload_n 0, 1) := by decide +kernel
theorem dX14_does_167 : decode cX14_does 167 = .ok (.iload_n 2, 1) := by decide +kernel
theorem dX14_does_168 : decode cX14_does 168 = .ok (.invokevirtual 329, 3) := by decide +kernel
theorem dX14_does_171 : decode cX14_does 171 = .ok (.aload_n 0, 1) := by decide +kernel
theorem dX14_does_172 : decode cX14_does 172 = .ok (.iconst 1, 1) := by decide +kernel
theorem dX14_does_173 : decode cX14_does 173 = .ok (.iload_n 2, 1) := by decide +kernel
theorem dX14_does_174 : decode cX14_does 174 = .ok (.invokevirtual 332, 3) := by decide +kernel
theorem dX14_does_177 : decode cX14_does 177 = .ok (.goto 187, 3) := by decide +kernel
theorem dX14_does_180 : decode cX14_does 180 = .ok (.aload_n 0, 1) := by decide +kernel
theorem dX14_does_181 : decode cX14_does 181 = .ok (.aload_n 0, 1) := by decide +kernel
theorem dX14_does_182 : decode cX14_does 182 = .ok (.aload_n 0, 1) := by decide +kernel
theorem dX14_does_183 : decode cX14_does 183 = .ok (.getfield 38, 3) := by decide +kernel
theorem dX14_does_186 : decode cX14_does 186 = .ok (.getfield 239, 3) := by decide +kernel
theorem dX14_does_189 : decode cX14_does 189 = .ok (.iload_n 1, 1) := by decide +kernel
theorem dX14_does_190 : decode cX14_does 190 = .ok (.iaload, 1) := by decide +kernel
theorem dX14_does_191 : decode cX14_does 191 = .ok (.invokevirtual 309, 3) := by decide +kernel
theorem dX14_does_194 : decode cX14_does 194 = .ok (.iconst 0, 1) := by decide +kernel
theorem dX14_does_195 : decode cX14_does 195 = .ok (.sipush 600, 3) := by decide +kernel
theorem dX14_does_198 : decode cX14_does 198 = .ok (.invokestatic 291, 3) := by decide +kernel
theorem dX14_does_201 : decode cX14_does 201 = .ok (.iconst (-1), 1) := by decide +kernel
theorem dX14_does_202 : decode cX14_does 202 = .ok (.invokevirtual 332, 3) := by decide +kernel
theorem dX14_does_205 : decode cX14_does 205 = .ok (.goto 159, 3) := by decide +kernel
theorem dX14_does_208 : decode cX14_does 208 = .ok (.aload_n 0, 1) := by decide +kernel
theorem dX14_does_209 : decode cX14_does 209 = .ok (.getfield 45, 3) := by decide +kernel
theorem dX14_does_212 : decode cX14_does 212 = .ok (.bipush 32, 2) := by decide +kernel
theorem dX14_does_214 : decode cX14_does 214 = .ok (.aload_n 0, 1) := by decide +kernel
theorem dX14_does_215 : decode cX14_does 215 = .ok (.getfield 45, 3) := by decide +kernel
theorem dX14_does_218 : decode cX14_does 218 = .ok (.iconst 5, 1) := by decide +kernel
theorem dX14_does_219 : decode cX14_does 219 = .ok (.iaload, 1) := by decide +kernel
theorem dX14_does_220 : decode cX14_does 220 = .ok (.bipush 20, 2) := by decide +kernel
theorem dX14_does_222 : decode cX14_does 222 = .ok (.irem, 1) := by decide +kernel
theorem dX14_does_223 : decode cX14_does 223 = .ok (.iadd, 1) := by decide +kernel
theorem dX14_does_224 : decode cX14_does 224 = .ok (.aload_n 0, 1) := by decide +kernel
theorem dX14_does_225 : decode cX14_does 225 = .ok (.aload_n 0, 1) := by decide +kernel
theorem dX14_does_226 : decode cX14_does 226 = .ok (.getfield 38, 3) := by decide +kernel
theorem dX14_does_229 : decode cX14_does 229 = .ok (.getfield 239, 3) := by decide +kernel
theorem dX14_does_232 : decode cX14_does 232 = .ok (.iload_n 1, 1) := by decide +kernel
theorem dX14_does_233 : decode cX14_does 233 = .ok (.iaload, 1) := by decide +kernel
theorem dX14_does_234 : decode cX14_does 234 = .ok (.invokevirtual 309, 3) := by decide +kernel
theorem dX14_does_237 : decode cX14_does 237 = .ok (.iastore, 1) := by decide +kernel
theorem dX14_does_238 : decode cX14_does 238 = .ok (.aload_n 0, 1) := by decide +kernel
theorem dX14_does_239 : decode cX14_does 239 = .ok (.getfield 45, 3) := by decide +kernel
theorem dX14_does_242 : decode cX14_does 242 = .ok (.iconst 5, 1) := by decide +kernel
theorem dX14_does_243 : decode cX14_does 243 = .ok (.dup2, 1) := by decide +kernel
theorem dX14_does_244 : decode cX14_does 244 = .ok (.iaload, 1) := by decide +kernel
theorem dX14_does_245 : decode cX14_does 245 = .ok (.iconst 1, 1) := by decide +kernel
theorem dX14_does_246 : decode cX14_does 246 = .ok (.iadd, 1) := by decide +kernel
theorem dX14_does_247 : decode cX14_does 247 = .ok (.iastore, 1) := by decide +kernel
theorem dX14_does_248 : decode cX14_does 248 = .ok (.goto 116, 3) := by decide +kernel
theorem dX14_does_251 : decode cX14_does 251 = .ok (.aload_n 0, 1) := by decide +kernel
theorem dX14_does_252 : decode cX14_does 252 = .ok (.aload_n 0, 1) := by decide +kernel
theorem dX14_does_253 : decode cX14_does 253 = .ok (.getfield 38, 3) := by decide +kernel
theorem dX14_does_256 : decode cX14_does 256 = .ok (.getfield 263, 3) := by decide +kernel
theorem dX14_does_259 : decode cX14_does 259 = .ok (.iload_n 2, 1) := by decide +kernel
theorem dX14_does_260 : decode cX14_does 260 = .ok (.iaload, 1) := by decide +kernel
theorem dX14_does_261 : decode cX14_does 261 = .ok (.invokevirtual 335, 3) := by decide +kernel
theorem dX14_does_264 : decode cX14_does 264 = .ok (.goto 100, 3) := by decide +kernel
theorem dX14_does_267 : decode cX14_does 267 = .ok (.aload_n 0, 1) := by decide +kernel
theorem dX14_does_268 : decode cX14_does 268 = .ok (.aload_n 0, 1) := by decide +kernel
theorem dX14_does_269 : decode cX14_does 269 = .ok (.getfield 38, 3) := by decide +kernel
theorem dX14_does_272 : decode cX14_does 272 = .ok (.getfield 239, 3) := by decide +kernel
theorem dX14_does_275 : decode cX14_does 275 = .ok (.iload_n 1, 1) := by decide +kernel
theorem dX14_does_276 : decode cX14_does 276 = .ok (.iaload, 1) := by decide +kernel
theorem dX14_does_277 : decode cX14_does 277 = .ok (.invokevirtual 309, 3) := by decide +kernel
theorem dX14_does_280 : decode cX14_does 280 = .ok (.istore_n 3, 1) := by decide +kernel
theorem dX14_does_281 : decode cX14_does 281 = .ok (.aload_n 0, 1) := by decide +kernel
theorem dX14_does_282 : decode cX14_does 282 = .ok (.getfield 38, 3) := by decide +kernel
theorem dX14_does_285 : decode cX14_does 285 = .ok (.getfield 221, 3) := by decide +kernel
theorem dX14_does_288 : decode cX14_does 288 = .ok (.iload_n 1, 1) := by decide +kernel
theorem dX14_does_289 : decode cX14_does 289 = .ok (.iaload, 1) := by decide +kernel
theorem dX14_does_290 : decode cX14_does 290 = .ok (.istore 4, 2) := by decide +kernel
theorem dX14_does_292 : decode cX14_does 292 = .ok (.iconst 0, 1) := by decide +kernel
theorem dX14_does_293 : decode cX14_does 293 = .ok (.istore 5, 2) := by decide +kernel
theorem dX14_does_295 : decode cX14_does 295 = .ok (.iload 5, 2) := by decide +kernel
theorem dX14_does_297 : decode cX14_does 297 = .ok (.iload_n 3, 1) := by decide +kernel
theorem dX14_does_298 : decode cX14_does 298 = .ok (.if_icmp .ge 30, 3) := by decide +kernel
theorem dX14_does_301 : decode cX14_does 301 = .ok (.iload 4, 2) := by decide +kernel
theorem dX14_does_303 : decode cX14_does 303 = .ok (.iconst (-1), 1) := by decide +kernel
theorem dX14_does_304 : decode cX14_does 304 = .ok (.if_icmp .eq 24, 3) := by decide +kernel
theorem dX14_does_307 : decode cX14_does 307 = .ok (.aload_n 0, 1) := by decide +kernel
theorem dX14_does_308 : decode cX14_does 308 = .ok (.getfield 306, 3) := by decide +kernel
theorem dX14_does_311 : decode cX14_does 311 = .ok (.bipush 100, 2) := by decide +kernel
theorem dX14_does_313 : decode cX14_does 313 = .ok (.if_icmp .ge 15, 3) := by decide +kernel
theorem dX14_does_316 : decode cX14_does 316 = .ok (.aload_n 0, 1) := by decide +kernel
theorem dX14_does_317 : decode cX14_does 317 = .ok (.iload 4, 2) := by decide +kernel
theorem dX14_does_319 : decode cX14_does 319 = .ok (.invokevirtual 335, 3) := by decide +kernel
theorem dX14_does_322 : decode cX14_does 322 = .ok (.iinc 5 1, 3) := by decide +kernel
theorem dX14_does_325 : decode cX14_does 325 = .ok (.goto (-30), 3) := by decide +kernel
theorem dX14_does_328 : decode cX14_does 328 = .ok (.goto 36, 3) := by decide +kernel
theorem dX14_does_331 : decode cX14_does 331 = .ok (.aload_n 0, 1) := by decide +kernel
theorem dX14_does_332 : decode cX14_does 332 = .ok (.aload_n 0, 1) := by decide +kernel
theorem dX14_does_333 : decode cX14_does 333 = .ok (.iload_n 1, 1) := by decide +kernel
theorem dX14_does_334 : decode cX14_does 334 = .ok (.invokevirtual 338, 3) := by decide +kernel
theorem dX14_does_337 : decode cX14_does 337 = .ok (.ifCond .eq 15, 3) := by decide +kernel
theorem dX14_does_340 : decode cX14_does 340 = .ok (.aload_n 0, 1) := by decide +kernel
theorem dX14_does_341 : decode cX14_does 341 = .ok (.getfield 38, 3) := by decide +kernel
theorem dX14_does_344 : decode cX14_does 344 = .ok (.getfield 221, 3) := by decide +kernel
theorem dX14_does_347 : decode cX14_does 347 = .ok (.iload_n 1, 1) := by decide +kernel
theorem dX14_does_348 : decode cX14_does 348 = .ok (.iaload, 1) := by decide +kernel
theorem dX14_does_349 : decode cX14_does 349 = .ok (.goto 12, 3) := by decide +kernel
theorem dX14_does_352 : decode cX14_does 352 = .ok (.aload_n 0, 1) := by decide +kernel
theorem dX14_does_353 : decode cX14_does 353 = .ok (.getfield 38, 3) := by decide +kernel
theorem dX14_does_356 : decode cX14_does 356 = .ok (.getfield 224, 3) := by decide +kernel
theorem dX14_does_359 : decode cX14_does 359 = .ok (.iload_n 1, 1) := by decide +kernel
theorem dX14_does_360 : decode cX14_does 360 = .ok (.iaload, 1) := by decide +kernel
theorem dX14_does_361 : decode cX14_does 361 = .ok (.invokevirtual 335, 3) := by decide +kernel
theorem dX14_does_364 : decode cX14_does 364 = .ok (.return_, 1) := by decide +kernel
set_option maxRecDepth 20000 in
theorem ggX14_pours_X14_translated : GoodIn wsX14_pours wsX14_translated := goodIn_r _ [5, 6, 7, 8, 4, 9, 10, 11, 12, 13, 14, 15, 16, 43, 44, 45, 46, 47, 48, 49, 50, 51, 52, 53, 54, 55, 56, 57, 58, 59, 60, 61, 62, 63, 64, 65] (by decide +kernel) (by decide +kernel)
set_option maxRecDepth 20000 in
theorem gX14_pours_X14_translated : GoodIn wsX14_pours (wsV RX14 341 RX14 yX14_translated wsX14_translated) := goodIn_app (goodIn_of _ (by decide +kernel)) ggX14_pours_X14_translated
set_option maxRecDepth 20000 in
theorem ggX14_pours_X14_pour : GoodIn wsX14_pours wsX14_pour := goodIn_r _ [20, 10, 11, 12, 13, 6, 21, 22, 23, 4, 24, 25, 26, 27, 28, 29, 30, 31, 32, 43, 44, 45, 46, 47, 48, 49, 50, 51, 52, 53, 54, 55, 56, 57, 58, 59, 60, 61, 62, 63, 64, 65, 66, 67, 68, 69, 70, 71, 72, 73, 74, 75, 76, 77, 78, 79, 80, 81, 82, 83, 84, 85, 86] (by decide +kernel) (by decide +kernel)
set_option maxRecDepth 20000 in
theorem gX14_pours_X14_pour : GoodIn wsX14_pours (wsV RX14 344 RX14 yX14_pour wsX14_pour) := goodIn_app (goodIn_of _ (by decide +kernel)) ggX14_pours_X14_pour
set_option maxRecDepth 20000 in
theorem ggX14_pours_X14_warn : GoodIn wsX14_pours wsX14_warn := goodIn_r _ [36, 37, 38, 6, 43, 44, 45, 46, 47, 48, 49, 50, 51, 52, 53, 54, 55, 56, 57, 58, 59, 60, 61, 62, 63, 64, 65] (by decide +kernel) (by decide +kernel)
set_option maxRecDepth 20000 in
theorem gX14_pours_X14_warn : GoodIn wsX14_pours (wsV RX14 347 RX14 yX14_warn wsX14_warn) := goodIn_app (goodIn_of _ (by decide +kernel)) ggX14_pours_X14_warn
set_option maxRecDepth 20000 in
theorem ggX14_pours_X14_goBy : GoodIn wsX14_pours wsX14_goBy := goodIn_r _ [42, 6, 25, 14, 15, 12, 16, 30, 31, 4, 32, 43, 44, 45, 46, 47, 48, 49, 50, 51, 52, 53, 54, 55, 56, 57, 58, 59, 60, 61, 62, 63, 64, 65, 66, 67, 68, 69, 70, 71, 72, 73, 74, 75, 76, 77, 78, 79, 80, 81, 82, 83, 84, 85, 86] (by decide +kernel) (by decide +kernel)
set_option maxRecDepth 20000 in
theorem gX14_pours_X14_goBy : GoodIn wsX14_pours (wsV RX14 332 RX14 yX14_goBy wsX14_goBy) := goodIn_app (goodIn_of _ (by decide +kernel)) ggX14_pours_X14_goBy
theorem dX14_pours_0 : decode cX14_pours 0 = .ok (.aload_n 0, 1) := by decide +kernel
theorem dX14_pours_1 : decode cX14_pours 1 = .ok (.iload_n 3, 1) := by decide +kernel
theorem dX14_pours_2 : decode cX14_pours 2 = .ok (.invokevirtual 341, 3) := by decide +kernel
theorem dX14_pours_5 : decode cX14_pours 5 = .ok (.istore 4, 2) := by decide +kernel
theorem dX14_pours_7 : decode cX14_pours 7 = .ok (.aload_n 0, 1) := by decide +kernel
theorem dX14_pours_8 : decode cX14_pours 8 = .ok (.iload_n 1, 1) := by decide +kernel
theorem dX14_pours_9 : decode cX14_pours 9 = .ok (.iload_n 2, 1) := by decide +kernel
theorem dX14_pours_10 : decode cX14_pours 10 = .ok (.iload 4, 2) := by decide +kernel
theorem dX14_pours_12 : decode cX14_pours 12 = .ok (.invokevirtual 344, 3) := by decide +kernel
theorem dX14_pours_15 : decode cX14_pours 15 = .ok (.iload 4, 2) := by decide +kernel
theorem dX14_pours_17 : decode cX14_pours 17 = .ok (.if_icmp .ge 8, 3) := by decide +kernel
theorem dX14_pours_20 : decode cX14_pours 20 = .ok (.aload_n 0, 1) := by decide +kernel
theorem dX14_pours_21 : decode cX14_pours 21 = .ok (.iconst 1, 1) := by decide +kernel
theorem dX14_pours_22 : decode cX14_pours 22 = .ok (.invokevirtual 347, 3) := by decide +kernel
theorem dX14_pours_25 : decode cX14_pours 25 = .ok (.aload_n 0, 1) := by decide +kernel
theorem dX14_pours_26 : decode cX14_pours 26 = .ok (.iconst 1, 1) := by decide +kernel
theorem dX14_pours_27 : decode cX14_pours 27 = .ok (.iload_n 1, 1) := by decide +kernel
theorem dX14_pours_28 : decode cX14_pours 28 = .ok (.invokevirtual 332, 3) := by decide +kernel
theorem dX14_pours_31 : decode cX14_pours 31 = .ok (.return_, 1) := by decide +kernel
set_option maxRecDepth 20000 in
theorem ggX14_heats_X14_inside : GoodIn wsX14_heats wsX14_inside := goodIn_r _ [10, 5, 11, 12, 9, 13, 35, 36, 37, 38, 39, 40, 41, 42, 43, 44, 45, 46, 47, 48, 49, 50, 51, 52, 53, 54, 55, 56, 57] (by decide +kernel) (by decide +kernel)
set_option maxRecDepth 20000 in
theorem gX14_heats_X14_inside : GoodIn wsX14_heats (wsV RX14 294 RX14 yX14_inside wsX14_inside) := goodIn_app (goodIn_of _ (by decide +kernel)) ggX14_heats_X14_inside
set_option maxRecDepth 20000 in
theorem ggX14_heats_X14_warn : GoodIn wsX14_heats wsX14_warn := goodIn_r _ [17, 18, 19, 5, 35, 36, 37, 38, 39, 40, 41, 42, 43, 44, 45, 46, 47, 48, 49, 50, 51, 52, 53, 54, 55, 56, 57] (by decide +kernel) (by decide +kernel)
set_option maxRecDepth 20000 in
theorem gX14_heats_X14_warn : GoodIn wsX14_heats (wsV RX14 347 RX14 yX14_warn wsX14_warn) := goodIn_app (goodIn_of _ (by decide +kernel)) ggX14_heats_X14_warn
set_option maxRecDepth 20000 in
theorem ggX14_heats_X14_boiling : GoodIn wsX14_heats wsX14_boiling := goodIn_r _ [23, 5, 24, 25, 9, 26, 35, 36, 37, 38, 39, 40, 41, 42, 43, 44, 45, 46, 47, 48, 49, 50, 51, 52, 53, 54, 55, 56, 57] (by decide +kernel) (by decide +kernel)
set_option maxRecDepth 20000 in
theorem gX14_heats_X14_boiling : GoodIn wsX14_heats (wsV RX14 300 RX14 yX14_boiling wsX14_boiling) := goodIn_app (goodIn_of _ (by decide +kernel)) ggX14_heats_X14_boiling
set_option maxRecDepth 20000 in
theorem ggX14_heats_X14_of : GoodIn wsX14_heats wsX14_of := goodIn_r _ [13] (by decide +kernel) (by decide +kernel)
set_option maxRecDepth 20000 in
theorem gX14_heats_X14_of : GoodIn wsX14_heats (va_wsS RX14 66 yX14_of wsX14_of) := goodIn_app (goodIn_of _ (by decide +kernel)) ggX14_heats_X14_of
set_option maxRecDepth 20000 in
theorem ggX14_heats_X14_goBy : GoodIn wsX14_heats wsX14_goBy := goodIn_r _ [30, 5, 31, 32, 33, 3, 34, 11, 12, 9, 13, 35, 36, 37, 38, 39, 40, 41, 42, 43, 44, 45, 46, 47, 48, 49, 50, 51, 52, 53, 54, 55, 56, 57, 58, 59, 60, 61, 62, 63, 64, 65, 66, 67, 68, 69, 70, 71, 72, 73, 74, 75, 76, 77, 78] (by decide +kernel) (by decide +kernel)
set_option maxRecDepth 20000 in
theorem gX14_heats_X14_goBy : GoodIn wsX14_heats (wsV RX14 332 RX14 yX14_goBy wsX14_goBy) := goodIn_app (goodIn_of _ (by decide +kernel)) ggX14_heats_X14_goBy
theorem dX14_heats_0 : decode cX14_heats 0 = .ok (.aload_n 0, 1) := by decide +kernel
theorem dX14_heats_1 : decode cX14_heats 1 = .ok (.iload_n 1, 1) := by decide +kernel
theorem dX14_heats_2 : decode cX14_heats 2 = .ok (.invokevirtual 294, 3) := by decide +kernel
theorem dX14_heats_5 : decode cX14_heats 5 = .ok (.ifCond .ne 9, 3) := by decide +kernel
theorem dX14_heats_8 : decode cX14_heats 8 = .ok (.aload_n 0, 1) := by decide +kernel
theorem dX14_heats_9 : decode cX14_heats 9 = .ok (.iconst 3, 1) := by decide +kernel
theorem dX14_heats_10 : decode cX14_heats 10 = .ok (.invokevirtual 347, 3) := by decide +kernel
theorem dX14_heats_13 : decode cX14_heats 13 = .ok (.return_, 1) := by decide +kernel
theorem dX14_heats_14 : decode cX14_heats 14 = .ok (.iload_n 2, 1) := by decide +kernel
theorem dX14_heats_15 : decode cX14_heats 15 = .ok (.aload_n 0, 1) := by decide +kernel
theorem dX14_heats_16 : decode cX14_heats 16 = .ok (.invokevirtual 300, 3) := by decide +kernel
theorem dX14_heats_19 : decode cX14_heats 19 = .ok (.if_icmp .le 8, 3) := by decide +kernel
theorem dX14_heats_22 : decode cX14_heats 22 = .ok (.aload_n 0, 1) := by decide +kernel
theorem dX14_heats_23 : decode cX14_heats 23 = .ok (.iconst 2, 1) := by decide +kernel
theorem dX14_heats_24 : decode cX14_heats 24 = .ok (.invokevirtual 347, 3) := by decide +kernel
theorem dX14_heats_27 : decode cX14_heats 27 = .ok (.iload_n 2, 1) := by decide +kernel
theorem dX14_heats_28 : decode cX14_heats 28 = .ok (.aload_n 0, 1) := by decide +kernel
theorem dX14_heats_29 : decode cX14_heats 29 = .ok (.invokevirtual 300, 3) := by decide +kernel
theorem dX14_heats_32 : decode cX14_heats 32 = .ok (.invokestatic 57, 3) := by decide +kernel
theorem dX14_heats_35 : decode cX14_heats 35 = .ok (.istore_n 3, 1) := by decide +kernel
theorem dX14_heats_36 : decode cX14_heats 36 = .ok (.aload_n 0, 1) := by decide +kernel
theorem dX14_heats_37 : decode cX14_heats 37 = .ok (.getfield 45, 3) := by decide +kernel
theorem dX14_heats_40 : decode cX14_heats 40 = .ok (.iload_n 1, 1) := by decide +kernel
theorem dX14_heats_41 : decode cX14_heats 41 = .ok (.iconst 2, 1) := by decide +kernel
theorem dX14_heats_42 : decode cX14_heats 42 = .ok (.invokestatic 66, 3) := by decide +kernel
theorem dX14_heats_45 : decode cX14_heats 45 = .ok (.iaload, 1) := by decide +kernel
theorem dX14_heats_46 : decode cX14_heats 46 = .ok (.istore 4, 2) := by decide +kernel
theorem dX14_heats_48 : decode cX14_heats 48 = .ok (.iload 4, 2) := by decide +kernel
theorem dX14_heats_50 : decode cX14_heats 50 = .ok (.iload_n 3, 1) := by decide +kernel
theorem dX14_heats_51 : decode cX14_heats 51 = .ok (.if_icmp .lt 4, 3) := by decide +kernel
theorem dX14_heats_54 : decode cX14_heats 54 = .ok (.return_, 1) := by decide +kernel
theorem dX14_heats_55 : decode cX14_heats 55 = .ok (.aload_n 0, 1) := by decide +kernel
theorem dX14_heats_56 : decode cX14_heats 56 = .ok (.getfield 45, 3) := by decide +kernel
theorem dX14_heats_59 : decode cX14_heats 59 = .ok (.iload_n 1, 1) := by decide +kernel
theorem dX14_heats_60 : decode cX14_heats 60 = .ok (.iconst 2, 1) := by decide +kernel
theorem dX14_heats_61 : decode cX14_heats 61 = .ok (.invokestatic 66, 3) := by decide +kernel
theorem dX14_heats_64 : decode cX14_heats 64 = .ok (.iload_n 3, 1) := by decide +kernel
theorem dX14_heats_65 : decode cX14_heats 65 = .ok (.iastore, 1) := by decide +kernel
theorem dX14_heats_66 : decode cX14_heats 66 = .ok (.aload_n 0, 1) := by decide +kernel
theorem dX14_heats_67 : decode cX14_heats 67 = .ok (.iload_n 3, 1) := by decide +kernel
theorem dX14_heats_68 : decode cX14_heats 68 = .ok (.iload 4, 2) := by decide +kernel
theorem dX14_heats_70 : decode cX14_heats 70 = .ok (.isub, 1) := by decide +kernel
theorem dX14_heats_71 : decode cX14_heats 71 = .ok (.bipush 9, 2) := by decide +kernel
theorem dX14_heats_73 : decode cX14_heats 73 = .ok (.iadd, 1) := by decide +kernel
theorem dX14_heats_74 : decode cX14_heats 74 = .ok (.bipush 10, 2) := by decide +kernel
theorem dX14_heats_76 : decode cX14_heats 76 = .ok (.idiv, 1) := by decide +kernel
theorem dX14_heats_77 : decode cX14_heats 77 = .ok (.iload_n 1, 1) := by decide +kernel
theorem dX14_heats_78 : decode cX14_heats 78 = .ok (.invokevirtual 332, 3) := by decide +kernel
theorem dX14_heats_81 : decode cX14_heats 81 = .ok (.return_, 1) := by decide +kernel
set_option maxRecDepth 20000 in
theorem ggX14_boils__X14_of : GoodIn wsX14_boils_ wsX14_of := goodIn_r _ [9] (by decide +kernel) (by decide +kernel)
set_option maxRecDepth 20000 in
theorem gX14_boils__X14_of : GoodIn wsX14_boils_ (va_wsS RX14 66 yX14_of wsX14_of) := goodIn_app (goodIn_of _ (by decide +kernel)) ggX14_boils__X14_of
set_option maxRecDepth 20000 in
theorem ggX14_boils__X14_boiling : GoodIn wsX14_boils_ wsX14_boiling := goodIn_r _ [13, 1, 14, 15, 8, 16, 40, 41, 42, 43, 44, 45, 46, 47, 48, 49, 50, 51, 52, 53, 54, 55, 56, 57, 58, 59, 60, 61, 62] (by decide +kernel) (by decide +kernel)
set_option maxRecDepth 20000 in
theorem gX14_boils__X14_boiling : GoodIn wsX14_boils_ (wsV RX14 300 RX14 yX14_boiling wsX14_boiling) := goodIn_app (goodIn_of _ (by decide +kernel)) ggX14_boils__X14_boiling
set_option maxRecDepth 20000 in
theorem ggX14_boils__X14_warn : GoodIn wsX14_boils_ wsX14_warn := goodIn_r _ [20, 21, 22, 1, 40, 41, 42, 43, 44, 45, 46, 47, 48, 49, 50, 51, 52, 53, 54, 55, 56, 57, 58, 59, 60, 61, 62] (by decide +kernel) (by decide +kernel)
set_option maxRecDepth 20000 in
theorem gX14_boils__X14_warn : GoodIn wsX14_boils_ (wsV RX14 347 RX14 yX14_warn wsX14_warn) := goodIn_app (goodIn_of _ (by decide +kernel)) ggX14_boils__X14_warn
set_option maxRecDepth 20000 in
theorem ggX14_boils__X14_held : GoodIn wsX14_boils_ wsX14_held := goodIn_r _ [25, 2, 3, 4, 5, 26, 27, 28] (by decide +kernel) (by decide +kernel)
set_option maxRecDepth 20000 in
theorem gX14_boils__X14_held : GoodIn wsX14_boils_ (va_wsS RX14 291 yX14_held wsX14_held) := goodIn_app (goodIn_of _ (by decide +kernel)) ggX14_boils__X14_held
set_option maxRecDepth 20000 in
theorem ggX14_boils__X14_longer : GoodIn wsX14_boils_ wsX14_longer := goodIn_r _ [31, 32, 33, 8, 34, 14, 15, 16] (by decide +kernel) (by decide +kernel)
set_option maxRecDepth 20000 in
theorem gX14_boils__X14_longer : GoodIn wsX14_boils_ (va_wsS RX14 350 yX14_longer wsX14_longer) := goodIn_app (goodIn_of _ (by decide +kernel)) ggX14_boils__X14_longer
set_option maxRecDepth 20000 in
theorem ggX14_boils__X14_factor : GoodIn wsX14_boils_ wsX14_factor := goodIn_r _ [34, 14, 15, 8, 16] (by decide +kernel) (by decide +kernel)
set_option maxRecDepth 20000 in
theorem gX14_boils__X14_factor : GoodIn wsX14_boils_ (va_wsS RX14 288 yX14_factor wsX14_factor) := goodIn_app (goodIn_of _ (by decide +kernel)) ggX14_boils__X14_factor
set_option maxRecDepth 20000 in
theorem ggX14_boils__X14_goBy : GoodIn wsX14_boils_ wsX14_goBy := goodIn_r _ [38, 1, 39, 26, 27, 4, 28, 6, 7, 8, 9, 40, 41, 42, 43, 44, 45, 46, 47, 48, 49, 50, 51, 52, 53, 54, 55, 56, 57, 58, 59, 60, 61, 62, 63, 64, 65, 66, 67, 68, 69, 70, 71, 72, 73, 74, 75, 76, 77, 78, 79, 80, 81, 82, 83] (by decide +kernel) (by decide +kernel)
set_option maxRecDepth 20000 in
theorem gX14_boils__X14_goBy : GoodIn wsX14_boils_ (wsV RX14 332 RX14 yX14_goBy wsX14_goBy) := goodIn_app (goodIn_of _ (by decide +kernel)) ggX14_boils__X14_goBy
theorem dX14_boils__0 : decode cX14_boils_ 0 = .ok (.aload_n 0, 1) := by decide +kernel
theorem dX14_boils__1 : decode cX14_boils_ 1 = .ok (.getfield 45, 3) := by decide +kernel
theorem dX14_boils__4 : decode cX14_boils_ 4 = .ok (.iload_n 1, 1) := by decide +kernel
theorem dX14_boils__5 : decode cX14_boils_ 5 = .ok (.iconst 0, 1) := by decide +kernel
theorem dX14_boils__6 : decode cX14_boils_ 6 = .ok (.invokestatic 66, 3) := by decide +kernel
theorem dX14_boils__9 : decode cX14_boils_ 9 = .ok (.iaload, 1) := by decide +kernel
theorem dX14_boils__10 : decode cX14_boils_ 10 = .ok (.istore_n 3, 1) := by decide +kernel
theorem dX14_boils__11 : decode cX14_boils_ 11 = .ok (.iload_n 3, 1) := by decide +kernel
theorem dX14_boils__12 : decode cX14_boils_ 12 = .ok (.ifCond .eq 20, 3) := by decide +kernel
theorem dX14_boils__15 : decode cX14_boils_ 15 = .ok (.aload_n 0, 1) := by decide +kernel
theorem dX14_boils__16 : decode cX14_boils_ 16 = .ok (.getfield 45, 3) := by decide +kernel
theorem dX14_boils__19 : decode cX14_boils_ 19 = .ok (.iload_n 1, 1) := by decide +kernel
theorem dX14_boils__20 : decode cX14_boils_ 20 = .ok (.iconst 2, 1) := by decide +kernel
theorem dX14_boils__21 : decode cX14_boils_ 21 = .ok (.invokestatic 66, 3) := by decide +kernel
theorem dX14_boils__24 : decode cX14_boils_ 24 = .ok (.iaload, 1) := by decide +kernel
theorem dX14_boils__25 : decode cX14_boils_ 25 = .ok (.aload_n 0, 1) := by decide +kernel
theorem dX14_boils__26 : decode cX14_boils_ 26 = .ok (.invokevirtual 300, 3) := by decide +kernel
theorem dX14_boils__29 : decode cX14_boils_ 29 = .ok (.if_icmp .ge 9, 3) := by decide +kernel
theorem dX14_boils__32 : decode cX14_boils_ 32 = .ok (.aload_n 0, 1) := by decide +kernel
theorem dX14_boils__33 : decode cX14_boils_ 33 = .ok (.iconst 4, 1) := by decide +kernel
theorem dX14_boils__34 : decode cX14_boils_ 34 = .ok (.invokevirtual 347, 3) := by decide +kernel
theorem dX14_boils__37 : decode cX14_boils_ 37 = .ok (.return_, 1) := by decide +kernel
theorem dX14_boils__38 : decode cX14_boils_ 38 = .ok (.iload_n 2, 1) := by decide +kernel
theorem dX14_boils__39 : decode cX14_boils_ 39 = .ok (.iconst 0, 1) := by decide +kernel
theorem dX14_boils__40 : decode cX14_boils_ 40 = .ok (.sipush 999, 3) := by decide +kernel
theorem dX14_boils__43 : decode cX14_boils_ 43 = .ok (.invokestatic 291, 3) := by decide +kernel
theorem dX14_boils__46 : decode cX14_boils_ 46 = .ok (.aload_n 0, 1) := by decide +kernel
theorem dX14_boils__47 : decode cX14_boils_ 47 = .ok (.getfield 45, 3) := by decide +kernel
theorem dX14_boils__50 : decode cX14_boils_ 50 = .ok (.iconst 0, 1) := by decide +kernel
theorem dX14_boils__51 : decode cX14_boils_ 51 = .ok (.iaload, 1) := by decide +kernel
theorem dX14_boils__52 : decode cX14_boils_ 52 = .ok (.invokestatic 350, 3) := by decide +kernel
theorem dX14_boils__55 : decode cX14_boils_ 55 = .ok (.istore 4, 2) := by decide +kernel
theorem dX14_boils__57 : decode cX14_boils_ 57 = .ok (.iload 4, 2) := by decide +kernel
theorem dX14_boils__59 : decode cX14_boils_ 59 = .ok (.iconst 5, 1) := by decide +kernel
theorem dX14_boils__60 : decode cX14_boils_ 60 = .ok (.iload_n 3, 1) := by decide +kernel
theorem dX14_boils__61 : decode cX14_boils_ 61 = .ok (.imul, 1) := by decide +kernel
theorem dX14_boils__62 : decode cX14_boils_ 62 = .ok (.if_icmp .le 8, 3) := by decide +kernel
theorem dX14_boils__65 : decode cX14_boils_ 65 = .ok (.aload_n 0, 1) := by decide +kernel
theorem dX14_boils__66 : decode cX14_boils_ 66 = .ok (.iconst 5, 1) := by decide +kernel
theorem dX14_boils__67 : decode cX14_boils_ 67 = .ok (.invokevirtual 347, 3) := by decide +kernel
theorem dX14_boils__70 : decode cX14_boils_ 70 = .ok (.iload 4, 2) := by decide +kernel
theorem dX14_boils__72 : decode cX14_boils_ 72 = .ok (.iconst 5, 1) := by decide +kernel
theorem dX14_boils__73 : decode cX14_boils_ 73 = .ok (.iload_n 3, 1) := by decide +kernel
theorem dX14_boils__74 : decode cX14_boils_ 74 = .ok (.imul, 1) := by decide +kernel
theorem dX14_boils__75 : decode cX14_boils_ 75 = .ok (.invokestatic 57, 3) := by decide +kernel
theorem dX14_boils__78 : decode cX14_boils_ 78 = .ok (.istore 4, 2) := by decide +kernel
theorem dX14_boils__80 : decode cX14_boils_ 80 = .ok (.aload_n 0, 1) := by decide +kernel
theorem dX14_boils__81 : decode cX14_boils_ 81 = .ok (.getfield 45, 3) := by decide +kernel
theorem dX14_boils__84 : decode cX14_boils_ 84 = .ok (.iload_n 1, 1) := by decide +kernel
theorem dX14_boils__85 : decode cX14_boils_ 85 = .ok (.iconst 0, 1) := by decide +kernel
theorem dX14_boils__86 : decode cX14_boils_ 86 = .ok (.invokestatic 66, 3) := by decide +kernel
theorem dX14_boils__89 : decode cX14_boils_ 89 = .ok (.dup2, 1) := by decide +kernel
theorem dX14_boils__90 : decode cX14_boils_ 90 = .ok (.iaload, 1) := by decide +kernel
theorem dX14_boils__91 : decode cX14_boils_ 91 = .ok (.iload 4, 2) := by decide +kernel
theorem dX14_boils__93 : decode cX14_boils_ 93 = .ok (.iconst 5, 1) := by decide +kernel
theorem dX14_boils__94 : decode cX14_boils_ 94 = .ok (.idiv, 1) := by decide +kernel
theorem dX14_boils__95 : decode cX14_boils_ 95 = .ok (.isub, 1) := by decide +kernel
theorem dX14_boils__96 : decode cX14_boils_ 96 = .ok (.iastore, 1) := by decide +kernel
theorem dX14_boils__97 : decode cX14_boils_ 97 = .ok (.aload_n 0, 1) := by decide +kernel
theorem dX14_boils__98 : decode cX14_boils_ 98 = .ok (.getfield 45, 3) := by decide +kernel
theorem dX14_boils__101 : decode cX14_boils_ 101 = .ok (.iload_n 1, 1) := by decide +kernel
theorem dX14_boils__102 : decode cX14_boils_ 102 = .ok (.iconst 1, 1) := by decide +kernel
theorem dX14_boils__103 : decode cX14_boils_ 103 = .ok (.invokestatic 66, 3) := by decide +kernel
theorem dX14_boils__106 : decode cX14_boils_ 106 = .ok (.iaload, 1) := by decide +kernel
theorem dX14_boils__107 : decode cX14_boils_ 107 = .ok (.ifCond .le 44, 3) := by decide +kernel
theorem dX14_boils__110 : decode cX14_boils_ 110 = .ok (.aload_n 0, 1) := by decide +kernel
theorem dX14_boils__111 : decode cX14_boils_ 111 = .ok (.getfield 45, 3) := by decide +kernel
theorem dX14_boils__114 : decode cX14_boils_ 114 = .ok (.iload_n 1, 1) := by decide +kernel
theorem dX14_boils__115 : decode cX14_boils_ 115 = .ok (.iconst 3, 1) := by decide +kernel
theorem dX14_boils__116 : decode cX14_boils_ 116 = .ok (.invokestatic 66, 3) := by decide +kernel
theorem dX14_boils__119 : decode cX14_boils_ 119 = .ok (.bipush 100, 2) := by decide +kernel
theorem dX14_boils__121 : decode cX14_boils_ 121 = .ok (.aload_n 0, 1) := by decide +kernel
theorem dX14_boils__122 : decode cX14_boils_ 122 = .ok (.getfield 45, 3) := by decide +kernel
theorem dX14_boils__125 : decode cX14_boils_ 125 = .ok (.iload_n 1, 1) := by decide +kernel
theorem dX14_boils__126 : decode cX14_boils_ 126 = .ok (.iconst 3, 1) := by decide +kernel
theorem dX14_boils__127 : decode cX14_boils_ 127 = .ok (.invokestatic 66, 3) := by decide +kernel
theorem dX14_boils__130 : decode cX14_boils_ 130 = .ok (.iaload, 1) := by decide +kernel
theorem dX14_boils__131 : decode cX14_boils_ 131 = .ok (.iload 4, 2) := by decide +kernel
theorem dX14_boils__133 : decode cX14_boils_ 133 = .ok (.bipush 100, 2) := by decide +kernel
theorem dX14_boils__135 : decode cX14_boils_ 135 = .ok (.imul, 1) := by decide +kernel
theorem dX14_boils__136 : decode cX14_boils_ 136 = .ok (.aload_n 0, 1) := by decide +kernel
theorem dX14_boils__137 : decode cX14_boils_ 137 = .ok (.getfield 45, 3) := by decide +kernel
theorem dX14_boils__140 : decode cX14_boils_ 140 = .ok (.iconst 0, 1) := by decide +kernel
theorem dX14_boils__141 : decode cX14_boils_ 141 = .ok (.iaload, 1) := by decide +kernel
theorem dX14_boils__142 : decode cX14_boils_ 142 = .ok (.invokestatic 288, 3) := by decide +kernel
theorem dX14_boils__145 : decode cX14_boils_ 145 = .ok (.idiv, 1) := by decide +kernel
theorem dX14_boils__146 : decode cX14_boils_ 146 = .ok (.iadd, 1) := by decide +kernel
theorem dX14_boils__147 : decode cX14_boils_ 147 = .ok (.invokestatic 57, 3) := by decide +kernel
theorem dX14_boils__150 : decode cX14_boils_ 150 = .ok (.iastore, 1) := by decide +kernel
theorem dX14_boils__151 : decode cX14_boils_ 151 = .ok (.aload_n 0, 1) := by decide +kernel
theorem dX14_boils__152 : decode cX14_boils_ 152 = .ok (.getfield 45, 3) := by decide +kernel
theorem dX14_boils__155 : decode cX14_boils_ 155 = .ok (.iload_n 1, 1) := by decide +kernel
theorem dX14_boils__156 : decode cX14_boils_ 156 = .ok (.iconst 2, 1) := by decide +kernel
theorem dX14_boils__157 : decode cX14_boils_ 157 = .ok (.invokestatic 66, 3) := by decide +kernel
theorem dX14_boils__160 : decode cX14_boils_ 160 = .ok (.aload_n 0, 1) := by decide +kernel
theorem dX14_boils__161 : decode cX14_boils_ 161 = .ok (.invokevirtual 300, 3) := by decide +kernel
theorem dX14_boils__164 : decode cX14_boils_ 164 = .ok (.iastore, 1) := by decide +kernel
theorem dX14_boils__165 : decode cX14_boils_ 165 = .ok (.aload_n 0, 1) := by decide +kernel
theorem dX14_boils__166 : decode cX14_boils_ 166 = .ok (.iload 4, 2) := by decide +kernel
theorem dX14_boils__168 : decode cX14_boils_ 168 = .ok (.iload_n 1, 1) := by decide +kernel
theorem dX14_boils__169 : decode cX14_boils_ 169 = .ok (.invokevirtual 332, 3) := by decide +kernel
theorem dX14_boils__172 : decode cX14_boils_ 172 = .ok (.return_, 1) := by decide +kernel
set_option maxRecDepth 20000 in
theorem ggX14_run_X14_doBlock : GoodIn wsX14_run wsX14_doBlock := goodIn_r _ [8, 1, 3, 9, 10, 11, 7, 12, 13, 14, 15, 16, 17, 18, 19, 20, 21, 22, 23, 24, 25, 26, 27, 28, 29, 30, 31, 32, 33, 34, 35, 36, 37, 38, 39, 40, 41, 42, 43, 44, 45, 46, 47, 48, 49, 50, 51, 52, 53, 54, 55, 56, 57, 58, 59, 60, 61, 62, 63, 64, 2, 65, 66, 67, 68, 69, 70, 71, 72, 73, 74, 75, 76, 77, 78, 79, 80, 81, 82, 83, 84, 85, 86, 4, 5, 6, 87, 88, 89, 90, 91, 92, 93, 94, 95, 96, 97, 98, 99, 100, 101, 102, 103, 104, 105, 106, 107, 108, 109, 110, 111, 112, 113, 114, 115, 116, 117, 118, 119, 120, 121, 122, 123, 124, 125, 126, 127, 128, 129, 130, 131, 132, 133, 134, 135, 136, 137, 138] (by decide +kernel) (by decide +kernel)
set_option maxRecDepth 20000 in
theorem gX14_run_X14_doBlock : GoodIn wsX14_run (wsV RX14 335 RX14 yX14_doBlock wsX14_doBlock) := goodIn_app (goodIn_of _ (by decide +kernel)) ggX14_run_X14_doBlock
theorem dX14_run_0 : decode cX14_run 0 = .ok (.aload_n 0, 1) := by decide +kernel
theorem dX14_run_1 : decode cX14_run 1 = .ok (.iconst 0, 1) := by decide +kernel
theorem dX14_run_2 : decode cX14_run 2 = .ok (.putfield 306, 3) := by decide +kernel
theorem dX14_run_5 : decode cX14_run 5 = .ok (.aload_n 0, 1) := by decide +kernel
theorem dX14_run_6 : decode cX14_run 6 = .ok (.iconst (-1), 1) := by decide +kernel
theorem dX14_run_7 : decode cX14_run 7 = .ok (.putfield 303, 3) := by decide +kernel
theorem dX14_run_10 : decode cX14_run 10 = .ok (.aload_n 0, 1) := by decide +kernel
theorem dX14_run_11 : decode cX14_run 11 = .ok (.aload_n 0, 1) := by decide +kernel
theorem dX14_run_12 : decode cX14_run 12 = .ok (.getfield 38, 3) := by decide +kernel
theorem dX14_run_15 : decode cX14_run 15 = .ok (.getfield 263, 3) := by decide +kernel
theorem dX14_run_18 : decode cX14_run 18 = .ok (.iload_n 1, 1) := by decide +kernel
theorem dX14_run_19 : decode cX14_run 19 = .ok (.iaload, 1) := by decide +kernel
theorem dX14_run_20 : decode cX14_run 20 = .ok (.invokevirtual 335, 3) := by decide +kernel
theorem dX14_run_23 : decode cX14_run 23 = .ok (.return_, 1) := by decide +kernel
theorem dX14_keep_0 : decode cX14_keep 0 = .ok (.aload_n 0, 1) := by decide +kernel
theorem dX14_keep_1 : decode cX14_keep 1 = .ok (.getfield 45, 3) := by decide +kernel
theorem dX14_keep_4 : decode cX14_keep 4 = .ok (.iconst 0, 1) := by decide +kernel
theorem dX14_keep_5 : decode cX14_keep 5 = .ok (.aload_n 0, 1) := by decide +kernel
theorem dX14_keep_6 : decode cX14_keep 6 = .ok (.getfield 48, 3) := by decide +kernel
theorem dX14_keep_9 : decode cX14_keep 9 = .ok (.iconst 0, 1) := by decide +kernel
theorem dX14_keep_10 : decode cX14_keep 10 = .ok (.bipush 84, 2) := by decide +kernel
theorem dX14_keep_12 : decode cX14_keep 12 = .ok (.invokestatic 353, 3) := by decide +kernel
theorem dX14_keep_15 : decode cX14_keep 15 = .ok (.return_, 1) := by decide +kernel
theorem dX14_bringBack_0 : decode cX14_bringBack 0 = .ok (.aload_n 0, 1) := by decide +kernel
theorem dX14_bringBack_1 : decode cX14_bringBack 1 = .ok (.getfield 48, 3) := by decide +kernel
theorem dX14_bringBack_4 : decode cX14_bringBack 4 = .ok (.iconst 0, 1) := by decide +kernel
theorem dX14_bringBack_5 : decode cX14_bringBack 5 = .ok (.aload_n 0, 1) := by decide +kernel
theorem dX14_bringBack_6 : decode cX14_bringBack 6 = .ok (.getfield 45, 3) := by decide +kernel
theorem dX14_bringBack_9 : decode cX14_bringBack 9 = .ok (.iconst 0, 1) := by decide +kernel
theorem dX14_bringBack_10 : decode cX14_bringBack 10 = .ok (.bipush 84, 2) := by decide +kernel
theorem dX14_bringBack_12 : decode cX14_bringBack 12 = .ok (.invokestatic 353, 3) := by decide +kernel
theorem dX14_bringBack_15 : decode cX14_bringBack 15 = .ok (.return_, 1) := by decide +kernel
set_option maxRecDepth 20000 in
theorem ggX14_altitude_X14_ok : GoodIn wsX14_altitude wsX14_ok := goodIn_r _ [6, 7, 8, 9, 10, 11, 12, 13, 14, 15, 16, 17, 18, 19, 20, 21, 22, 23, 24, 25, 26, 27, 28, 29, 30] (by decide +kernel) (by decide +kernel)
set_option maxRecDepth 20000 in
theorem gX14_altitude_X14_ok : GoodIn wsX14_altitude (wsV RX14 282 RX14 yX14_ok wsX14_ok) := goodIn_app (goodIn_of _ (by decide +kernel)) ggX14_altitude_X14_ok
theorem dX14_altitude_0 : decode cX14_altitude 0 = .ok (.aload_n 0, 1) := by decide +kernel
theorem dX14_altitude_1 : decode cX14_altitude 1 = .ok (.aload_n 0, 1) := by decide +kernel
theorem dX14_altitude_2 : decode cX14_altitude 2 = .ok (.getfield 45, 3) := by decide +kernel
theorem dX14_altitude_5 : decode cX14_altitude 5 = .ok (.iconst 0, 1) := by decide +kernel
theorem dX14_altitude_6 : decode cX14_altitude 6 = .ok (.iaload, 1) := by decide +kernel
theorem dX14_altitude_7 : decode cX14_altitude 7 = .ok (.invokevirtual 282, 3) := by decide +kernel
theorem dX14_altitude_10 : decode cX14_altitude 10 = .ok (.ireturn, 1) := by decide +kernel
set_option maxRecDepth 20000 in
theorem ggX14_boilingPoint_X14_boiling : GoodIn wsX14_boilingPoint wsX14_boiling := goodIn_r _ [5, 6, 7, 8, 4, 9, 15, 16, 17, 18, 19, 20, 21, 22, 23, 24, 25, 26, 27, 28, 29, 30, 31, 32, 33, 34, 35, 36, 37] (by decide +kernel) (by decide +kernel)
set_option maxRecDepth 20000 in
theorem gX14_boilingPoint_X14_boiling : GoodIn wsX14_boilingPoint (wsV RX14 300 RX14 yX14_boiling wsX14_boiling) := goodIn_app (goodIn_of _ (by decide +kernel)) ggX14_boilingPoint_X14_boiling
set_option maxRecDepth 20000 in
theorem ggX14_boilingPoint_X14_ok : GoodIn wsX14_boilingPoint wsX14_ok := goodIn_r _ [13, 14, 15, 16, 17, 18, 19, 20, 21, 22, 23, 24, 25, 26, 27, 28, 29, 30, 31, 32, 33, 34, 35, 36, 37] (by decide +kernel) (by decide +kernel)
set_option maxRecDepth 20000 in
theorem gX14_boilingPoint_X14_ok : GoodIn wsX14_boilingPoint (wsV RX14 282 RX14 yX14_ok wsX14_ok) := goodIn_app (goodIn_of _ (by decide +kernel)) ggX14_boilingPoint_X14_ok
theorem dX14_boilingPoint_0 : decode cX14_boilingPoint 0 = .ok (.aload_n 0, 1) := by decide +kernel
theorem dX14_boilingPoint_1 : decode cX14_boilingPoint 1 = .ok (.aload_n 0, 1) := by decide +kernel
theorem dX14_boilingPoint_2 : decode cX14_boilingPoint 2 = .ok (.invokevirtual 300, 3) := by decide +kernel
theorem dX14_boilingPoint_5 : decode cX14_boilingPoint 5 = .ok (.invokevirtual 282, 3) := by decide +kernel
theorem dX14_boilingPoint_8 : decode cX14_boilingPoint 8 = .ok (.ireturn, 1) := by decide +kernel
set_option maxRecDepth 20000 in
theorem ggX14_servings_X14_ok : GoodIn wsX14_servings wsX14_ok := goodIn_r _ [6, 7, 8, 9, 10, 11, 12, 13, 14, 15, 16, 17, 18, 19, 20, 21, 22, 23, 24, 25, 26, 27, 28, 29, 30] (by decide +kernel) (by decide +kernel)
set_option maxRecDepth 20000 in
theorem gX14_servings_X14_ok : GoodIn wsX14_servings (wsV RX14 282 RX14 yX14_ok wsX14_ok) := goodIn_app (goodIn_of _ (by decide +kernel)) ggX14_servings_X14_ok
theorem dX14_servings_0 : decode cX14_servings 0 = .ok (.aload_n 0, 1) := by decide +kernel
theorem dX14_servings_1 : decode cX14_servings 1 = .ok (.aload_n 0, 1) := by decide +kernel
theorem dX14_servings_2 : decode cX14_servings 2 = .ok (.getfield 45, 3) := by decide +kernel
theorem dX14_servings_5 : decode cX14_servings 5 = .ok (.iconst 1, 1) := by decide +kernel
theorem dX14_servings_6 : decode cX14_servings 6 = .ok (.iaload, 1) := by decide +kernel
theorem dX14_servings_7 : decode cX14_servings 7 = .ok (.invokevirtual 282, 3) := by decide +kernel
theorem dX14_servings_10 : decode cX14_servings 10 = .ok (.ireturn, 1) := by decide +kernel
set_option maxRecDepth 20000 in
theorem ggX14_spoon_X14_ok : GoodIn wsX14_spoon wsX14_ok := goodIn_r _ [6, 7, 8, 9, 10, 11, 12, 13, 14, 15, 16, 17, 18, 19, 20, 21, 22, 23, 24, 25, 26, 27, 28, 29, 30] (by decide +kernel) (by decide +kernel)
set_option maxRecDepth 20000 in
theorem gX14_spoon_X14_ok : GoodIn wsX14_spoon (wsV RX14 282 RX14 yX14_ok wsX14_ok) := goodIn_app (goodIn_of _ (by decide +kernel)) ggX14_spoon_X14_ok
theorem dX14_spoon_0 : decode cX14_spoon 0 = .ok (.aload_n 0, 1) := by decide +kernel
theorem dX14_spoon_1 : decode cX14_spoon 1 = .ok (.aload_n 0, 1) := by decide +kernel
theorem dX14_spoon_2 : decode cX14_spoon 2 = .ok (.getfield 45, 3) := by decide +kernel
theorem dX14_spoon_5 : decode cX14_spoon 5 = .ok (.iconst 2, 1) := by decide +kernel
theorem dX14_spoon_6 : decode cX14_spoon 6 = .ok (.iaload, 1) := by decide +kernel
theorem dX14_spoon_7 : decode cX14_spoon 7 = .ok (.invokevirtual 282, 3) := by decide +kernel
theorem dX14_spoon_10 : decode cX14_spoon 10 = .ok (.ireturn, 1) := by decide +kernel
set_option maxRecDepth 20000 in
theorem ggX14_minute_X14_ok : GoodIn wsX14_minute wsX14_ok := goodIn_r _ [6, 7, 8, 9, 10, 11, 12, 13, 14, 15, 16, 17, 18, 19, 20, 21, 22, 23, 24, 25, 26, 27, 28, 29, 30] (by decide +kernel) (by decide +kernel)
set_option maxRecDepth 20000 in
theorem gX14_minute_X14_ok : GoodIn wsX14_minute (wsV RX14 282 RX14 yX14_ok wsX14_ok) := goodIn_app (goodIn_of _ (by decide +kernel)) ggX14_minute_X14_ok
theorem dX14_minute_0 : decode cX14_minute 0 = .ok (.aload_n 0, 1) := by decide +kernel
theorem dX14_minute_1 : decode cX14_minute 1 = .ok (.aload_n 0, 1) := by decide +kernel
theorem dX14_minute_2 : decode cX14_minute 2 = .ok (.getfield 45, 3) := by decide +kernel
theorem dX14_minute_5 : decode cX14_minute 5 = .ok (.iconst 3, 1) := by decide +kernel
theorem dX14_minute_6 : decode cX14_minute 6 = .ok (.iaload, 1) := by decide +kernel
theorem dX14_minute_7 : decode cX14_minute 7 = .ok (.invokevirtual 282, 3) := by decide +kernel
theorem dX14_minute_10 : decode cX14_minute 10 = .ok (.ireturn, 1) := by decide +kernel
set_option maxRecDepth 20000 in
theorem ggX14_isPan_X14_isIn : GoodIn wsX14_isPan wsX14_isIn := goodIn_r _ [5] (by decide +kernel) (by decide +kernel)
set_option maxRecDepth 20000 in
theorem gX14_isPan_X14_isIn : GoodIn wsX14_isPan (va_wsS RX14 69 yX14_isIn wsX14_isIn) := goodIn_app (goodIn_of _ (by decide +kernel)) ggX14_isPan_X14_isIn
theorem dX14_isPan_0 : decode cX14_isPan 0 = .ok (.iload_n 1, 1) := by decide +kernel
theorem dX14_isPan_1 : decode cX14_isPan 1 = .ok (.iconst 0, 1) := by decide +kernel
theorem dX14_isPan_2 : decode cX14_isPan 2 = .ok (.aload_n 0, 1) := by decide +kernel
theorem dX14_isPan_3 : decode cX14_isPan 3 = .ok (.getfield 38, 3) := by decide +kernel
theorem dX14_isPan_6 : decode cX14_isPan 6 = .ok (.getfield 150, 3) := by decide +kernel
theorem dX14_isPan_9 : decode cX14_isPan 9 = .ok (.iconst 1, 1) := by decide +kernel
theorem dX14_isPan_10 : decode cX14_isPan 10 = .ok (.isub, 1) := by decide +kernel
theorem dX14_isPan_11 : decode cX14_isPan 11 = .ok (.invokestatic 69, 3) := by decide +kernel
theorem dX14_isPan_14 : decode cX14_isPan 14 = .ok (.ireturn, 1) := by decide +kernel
set_option maxRecDepth 20000 in
theorem ggX14_isRecipe_X14_isIn : GoodIn wsX14_isRecipe wsX14_isIn := goodIn_r _ [5] (by decide +kernel) (by decide +kernel)
set_option maxRecDepth 20000 in
theorem gX14_isRecipe_X14_isIn : GoodIn wsX14_isRecipe (va_wsS RX14 69 yX14_isIn wsX14_isIn) := goodIn_app (goodIn_of _ (by decide +kernel)) ggX14_isRecipe_X14_isIn
theorem dX14_isRecipe_0 : decode cX14_isRecipe 0 = .ok (.iload_n 1, 1) := by decide +kernel
theorem dX14_isRecipe_1 : decode cX14_isRecipe 1 = .ok (.iconst 0, 1) := by decide +kernel
theorem dX14_isRecipe_2 : decode cX14_isRecipe 2 = .ok (.aload_n 0, 1) := by decide +kernel
theorem dX14_isRecipe_3 : decode cX14_isRecipe 3 = .ok (.getfield 38, 3) := by decide +kernel
theorem dX14_isRecipe_6 : decode cX14_isRecipe 6 = .ok (.getfield 156, 3) := by decide +kernel
theorem dX14_isRecipe_9 : decode cX14_isRecipe 9 = .ok (.iconst 1, 1) := by decide +kernel
theorem dX14_isRecipe_10 : decode cX14_isRecipe 10 = .ok (.isub, 1) := by decide +kernel
theorem dX14_isRecipe_11 : decode cX14_isRecipe 11 = .ok (.invokestatic 69, 3) := by decide +kernel
theorem dX14_isRecipe_14 : decode cX14_isRecipe 14 = .ok (.ireturn, 1) := by decide +kernel
set_option maxRecDepth 20000 in
theorem ggX14_ofPan_X14_isPan : GoodIn wsX14_ofPan wsX14_isPan := goodIn_r _ [7, 8, 9, 10, 6, 11, 19, 20, 21, 22, 23, 24, 25, 26, 27, 28, 29, 30, 31, 32, 33, 34, 35, 36, 37, 38, 39, 40, 41, 42, 43, 44, 45, 46, 47, 48, 49, 50, 51, 52, 53, 54, 55, 56, 57, 58, 59, 60, 61, 62] (by decide +kernel) (by decide +kernel)
set_option maxRecDepth 20000 in
theorem gX14_ofPan_X14_isPan : GoodIn wsX14_ofPan (wsV RX14 359 RX14 yX14_isPan wsX14_isPan) := goodIn_app (goodIn_of _ (by decide +kernel)) ggX14_ofPan_X14_isPan
set_option maxRecDepth 20000 in
theorem ggX14_ofPan_X14_of : GoodIn wsX14_ofPan wsX14_of := goodIn_r _ [14] (by decide +kernel) (by decide +kernel)
set_option maxRecDepth 20000 in
theorem gX14_ofPan_X14_of : GoodIn wsX14_ofPan (va_wsS RX14 66 yX14_of wsX14_of) := goodIn_app (goodIn_of _ (by decide +kernel)) ggX14_ofPan_X14_of
set_option maxRecDepth 20000 in
theorem ggX14_ofPan_X14_no : GoodIn wsX14_ofPan wsX14_no := goodIn_r _ [18, 1, 19, 20, 21, 22, 23, 24, 25, 26, 27, 28, 29, 30, 31, 32, 33, 34, 35, 36, 37, 38, 39, 40, 41] (by decide +kernel) (by decide +kernel)
set_option maxRecDepth 20000 in
theorem gX14_ofPan_X14_no : GoodIn wsX14_ofPan (wsV RX14 266 RX14 yX14_no wsX14_no) := goodIn_app (goodIn_of _ (by decide +kernel)) ggX14_ofPan_X14_no
theorem dX14_ofPan_0 : decode cX14_ofPan 0 = .ok (.aload_n 0, 1) := by decide +kernel
theorem dX14_ofPan_1 : decode cX14_ofPan 1 = .ok (.iconst 0, 1) := by decide +kernel
theorem dX14_ofPan_2 : decode cX14_ofPan 2 = .ok (.putfield 54, 3) := by decide +kernel
theorem dX14_ofPan_5 : decode cX14_ofPan 5 = .ok (.aload_n 0, 1) := by decide +kernel
theorem dX14_ofPan_6 : decode cX14_ofPan 6 = .ok (.iload_n 1, 1) := by decide +kernel
theorem dX14_ofPan_7 : decode cX14_ofPan 7 = .ok (.invokevirtual 359, 3) := by decide +kernel
theorem dX14_ofPan_10 : decode cX14_ofPan 10 = .ok (.ifCond .eq 16, 3) := by decide +kernel
theorem dX14_ofPan_13 : decode cX14_ofPan 13 = .ok (.aload_n 0, 1) := by decide +kernel
theorem dX14_ofPan_14 : decode cX14_ofPan 14 = .ok (.getfield 45, 3) := by decide +kernel
theorem dX14_ofPan_17 : decode cX14_ofPan 17 = .ok (.iload_n 1, 1) := by decide +kernel
theorem dX14_ofPan_18 : decode cX14_ofPan 18 = .ok (.iload_n 2, 1) := by decide +kernel
theorem dX14_ofPan_19 : decode cX14_ofPan 19 = .ok (.invokestatic 66, 3) := by decide +kernel
theorem dX14_ofPan_22 : decode cX14_ofPan 22 = .ok (.iaload, 1) := by decide +kernel
theorem dX14_ofPan_23 : decode cX14_ofPan 23 = .ok (.goto 8, 3) := by decide +kernel
theorem dX14_ofPan_26 : decode cX14_ofPan 26 = .ok (.aload_n 0, 1) := by decide +kernel
theorem dX14_ofPan_27 : decode cX14_ofPan 27 = .ok (.iconst 1, 1) := by decide +kernel
theorem dX14_ofPan_28 : decode cX14_ofPan 28 = .ok (.invokevirtual 266, 3) := by decide +kernel
theorem dX14_ofPan_31 : decode cX14_ofPan 31 = .ok (.ireturn, 1) := by decide +kernel
set_option maxRecDepth 20000 in
theorem ggX14_holdsOf_X14_isPan : GoodIn wsX14_holdsOf wsX14_isPan := goodIn_r _ [7, 2, 8, 9, 6, 10, 15, 16, 17, 18, 19, 20, 21, 22, 23, 24, 25, 26, 27, 28, 29, 30, 31, 32, 33, 34, 35, 36, 37, 38, 39, 40, 41, 42, 43, 44, 45, 46, 47, 48, 49, 50, 51, 52, 53, 54, 55, 56, 57, 58] (by decide +kernel) (by decide +kernel)
set_option maxRecDepth 20000 in
theorem gX14_holdsOf_X14_isPan : GoodIn wsX14_holdsOf (wsV RX14 359 RX14 yX14_isPan wsX14_isPan) := goodIn_app (goodIn_of _ (by decide +kernel)) ggX14_holdsOf_X14_isPan
set_option maxRecDepth 20000 in
theorem ggX14_holdsOf_X14_no : GoodIn wsX14_holdsOf wsX14_no := goodIn_r _ [14, 1, 15, 16, 17, 18, 19, 20, 21, 22, 23, 24, 25, 26, 27, 28, 29, 30, 31, 32, 33, 34, 35, 36, 37] (by decide +kernel) (by decide +kernel)
set_option maxRecDepth 20000 in
theorem gX14_holdsOf_X14_no : GoodIn wsX14_holdsOf (wsV RX14 266 RX14 yX14_no wsX14_no) := goodIn_app (goodIn_of _ (by decide +kernel)) ggX14_holdsOf_X14_no
theorem dX14_holdsOf_0 : decode cX14_holdsOf 0 = .ok (.aload_n 0, 1) := by decide +kernel
theorem dX14_holdsOf_1 : decode cX14_holdsOf 1 = .ok (.iconst 0, 1) := by decide +kernel
theorem dX14_holdsOf_2 : decode cX14_holdsOf 2 = .ok (.putfield 54, 3) := by decide +kernel
theorem dX14_holdsOf_5 : decode cX14_holdsOf 5 = .ok (.aload_n 0, 1) := by decide +kernel
theorem dX14_holdsOf_6 : decode cX14_holdsOf 6 = .ok (.iload_n 1, 1) := by decide +kernel
theorem dX14_holdsOf_7 : decode cX14_holdsOf 7 = .ok (.invokevirtual 359, 3) := by decide +kernel
theorem dX14_holdsOf_10 : decode cX14_holdsOf 10 = .ok (.ifCond .eq 15, 3) := by decide +kernel
theorem dX14_holdsOf_13 : decode cX14_holdsOf 13 = .ok (.aload_n 0, 1) := by decide +kernel
theorem dX14_holdsOf_14 : decode cX14_holdsOf 14 = .ok (.getfield 38, 3) := by decide +kernel
theorem dX14_holdsOf_17 : decode cX14_holdsOf 17 = .ok (.getfield 260, 3) := by decide +kernel
theorem dX14_holdsOf_20 : decode cX14_holdsOf 20 = .ok (.iload_n 1, 1) := by decide +kernel
theorem dX14_holdsOf_21 : decode cX14_holdsOf 21 = .ok (.iaload, 1) := by decide +kernel
theorem dX14_holdsOf_22 : decode cX14_holdsOf 22 = .ok (.goto 8, 3) := by decide +kernel
theorem dX14_holdsOf_25 : decode cX14_holdsOf 25 = .ok (.aload_n 0, 1) := by decide +kernel
theorem dX14_holdsOf_26 : decode cX14_holdsOf 26 = .ok (.iconst 1, 1) := by decide +kernel
theorem dX14_holdsOf_27 : decode cX14_holdsOf 27 = .ok (.invokevirtual 266, 3) := by decide +kernel
theorem dX14_holdsOf_30 : decode cX14_holdsOf 30 = .ok (.ireturn, 1) := by decide +kernel
set_option maxRecDepth 20000 in
theorem ggX14_waterIn_X14_ofPan : GoodIn wsX14_waterIn wsX14_ofPan := goodIn_r _ [5, 6, 7, 8, 9, 10, 4, 11, 12, 13, 14, 15, 16, 17, 18, 19, 20, 21, 22, 23, 24, 25, 26, 27, 28, 29, 30, 31, 32, 33, 34, 35, 36, 37, 38, 39, 40, 41, 42, 43, 44, 45, 46, 47, 48, 49, 50, 51, 52, 53, 54, 55, 56, 57, 58, 59, 60, 61, 62, 63, 64, 65, 66] (by decide +kernel) (by decide +kernel)
set_option maxRecDepth 20000 in
theorem gX14_waterIn_X14_ofPan : GoodIn wsX14_waterIn (wsV RX14 362 RX14 yX14_ofPan wsX14_ofPan) := goodIn_app (goodIn_of _ (by decide +kernel)) ggX14_waterIn_X14_ofPan
theorem dX14_waterIn_0 : decode cX14_waterIn 0 = .ok (.aload_n 0, 1) := by decide +kernel
theorem dX14_waterIn_1 : decode cX14_waterIn 1 = .ok (.iload_n 1, 1) := by decide +kernel
theorem dX14_waterIn_2 : decode cX14_waterIn 2 = .ok (.iconst 0, 1) := by decide +kernel
theorem dX14_waterIn_3 : decode cX14_waterIn 3 = .ok (.invokevirtual 362, 3) := by decide +kernel
theorem dX14_waterIn_6 : decode cX14_waterIn 6 = .ok (.ireturn, 1) := by decide +kernel
set_option maxRecDepth 20000 in
theorem ggX14_mealIn_X14_ofPan : GoodIn wsX14_mealIn wsX14_ofPan := goodIn_r _ [5, 6, 7, 8, 9, 10, 4, 11, 12, 13, 14, 15, 16, 17, 18, 19, 20, 21, 22, 23, 24, 25, 26, 27, 28, 29, 30, 31, 32, 33, 34, 35, 36, 37, 38, 39, 40, 41, 42, 43, 44, 45, 46, 47, 48, 49, 50, 51, 52, 53, 54, 55, 56, 57, 58, 59, 60, 61, 62, 63, 64, 65, 66] (by decide +kernel) (by decide +kernel)
set_option maxRecDepth 20000 in
theorem gX14_mealIn_X14_ofPan : GoodIn wsX14_mealIn (wsV RX14 362 RX14 yX14_ofPan wsX14_ofPan) := goodIn_app (goodIn_of _ (by decide +kernel)) ggX14_mealIn_X14_ofPan
theorem dX14_mealIn_0 : decode cX14_mealIn 0 = .ok (.aload_n 0, 1) := by decide +kernel
theorem dX14_mealIn_1 : decode cX14_mealIn 1 = .ok (.iload_n 1, 1) := by decide +kernel
theorem dX14_mealIn_2 : decode cX14_mealIn 2 = .ok (.iconst 1, 1) := by decide +kernel
theorem dX14_mealIn_3 : decode cX14_mealIn 3 = .ok (.invokevirtual 362, 3) := by decide +kernel
theorem dX14_mealIn_6 : decode cX14_mealIn 6 = .ok (.ireturn, 1) := by decide +kernel
set_option maxRecDepth 20000 in
theorem ggX14_heatOf_X14_ofPan : GoodIn wsX14_heatOf wsX14_ofPan := goodIn_r _ [5, 6, 7, 8, 9, 10, 4, 11, 12, 13, 14, 15, 16, 17, 18, 19, 20, 21, 22, 23, 24, 25, 26, 27, 28, 29, 30, 31, 32, 33, 34, 35, 36, 37, 38, 39, 40, 41, 42, 43, 44, 45, 46, 47, 48, 49, 50, 51, 52, 53, 54, 55, 56, 57, 58, 59, 60, 61, 62, 63, 64, 65, 66] (by decide +kernel) (by decide +kernel)
set_option maxRecDepth 20000 in
theorem gX14_heatOf_X14_ofPan : GoodIn wsX14_heatOf (wsV RX14 362 RX14 yX14_ofPan wsX14_ofPan) := goodIn_app (goodIn_of _ (by decide +kernel)) ggX14_heatOf_X14_ofPan
theorem dX14_heatOf_0 : decode cX14_heatOf 0 = .ok (.aload_n 0, 1) := by decide +kernel
theorem dX14_heatOf_1 : decode cX14_heatOf 1 = .ok (.iload_n 1, 1) := by decide +kernel
theorem dX14_heatOf_2 : decode cX14_heatOf 2 = .ok (.iconst 2, 1) := by decide +kernel
theorem dX14_heatOf_3 : decode cX14_heatOf 3 = .ok (.invokevirtual 362, 3) := by decide +kernel
theorem dX14_heatOf_6 : decode cX14_heatOf 6 = .ok (.ireturn, 1) := by decide +kernel
set_option maxRecDepth 20000 in
theorem ggX14_doneIn_X14_ofPan : GoodIn wsX14_doneIn wsX14_ofPan := goodIn_r _ [5, 6, 7, 8, 9, 10, 4, 11, 12, 13, 14, 15, 16, 17, 18, 19, 20, 21, 22, 23, 24, 25, 26, 27, 28, 29, 30, 31, 32, 33, 34, 35, 36, 37, 38, 39, 40, 41, 42, 43, 44, 45, 46, 47, 48, 49, 50, 51, 52, 53, 54, 55, 56, 57, 58, 59, 60, 61, 62, 63, 64, 65, 66] (by decide +kernel) (by decide +kernel)
set_option maxRecDepth 20000 in
theorem gX14_doneIn_X14_ofPan : GoodIn wsX14_doneIn (wsV RX14 362 RX14 yX14_ofPan wsX14_ofPan) := goodIn_app (goodIn_of _ (by decide +kernel)) ggX14_doneIn_X14_ofPan
theorem dX14_doneIn_0 : decode cX14_doneIn 0 = .ok (.aload_n 0, 1) := by decide +kernel
theorem dX14_doneIn_1 : decode cX14_doneIn 1 = .ok (.iload_n 1, 1) := by decide +kernel
theorem dX14_doneIn_2 : decode cX14_doneIn 2 = .ok (.iconst 3, 1) := by decide +kernel
theorem dX14_doneIn_3 : decode cX14_doneIn 3 = .ok (.invokevirtual 362, 3) := by decide +kernel
theorem dX14_doneIn_6 : decode cX14_doneIn 6 = .ok (.ireturn, 1) := by decide +kernel
set_option maxRecDepth 20000 in
theorem ggX14_roomIn_X14_isPan : GoodIn wsX14_roomIn wsX14_isPan := goodIn_r _ [6, 7, 8, 9, 5, 10, 27, 28, 29, 30, 31, 32, 33, 34, 35, 36, 37, 38, 39, 40, 41, 42, 43, 44, 45, 46, 47, 48, 49, 50, 51, 52, 53, 54, 55, 56, 57, 58, 59, 60, 61, 62, 63, 64, 65, 66, 67, 68, 69, 70] (by decide +kernel) (by decide +kernel)
set_option maxRecDepth 20000 in
theorem gX14_roomIn_X14_isPan : GoodIn wsX14_roomIn (wsV RX14 359 RX14 yX14_isPan wsX14_isPan) := goodIn_app (goodIn_of _ (by decide +kernel)) ggX14_roomIn_X14_isPan
set_option maxRecDepth 20000 in
theorem ggX14_roomIn_X14_room : GoodIn wsX14_roomIn wsX14_room := goodIn_r _ [14, 7, 15, 16, 17, 5, 18, 19, 20, 21, 22, 27, 28, 29, 30, 31, 32, 33, 34, 35, 36, 37, 38, 39, 40, 41, 42, 43, 44, 45, 46, 47, 48, 49, 50, 51, 52, 53, 54, 55, 56, 57, 58, 59, 60, 61, 62, 63, 64, 65, 66, 67, 68, 69, 70] (by decide +kernel) (by decide +kernel)
set_option maxRecDepth 20000 in
theorem gX14_roomIn_X14_room : GoodIn wsX14_roomIn (wsV RX14 297 RX14 yX14_room wsX14_room) := goodIn_app (goodIn_of _ (by decide +kernel)) ggX14_roomIn_X14_room
set_option maxRecDepth 20000 in
theorem ggX14_roomIn_X14_no : GoodIn wsX14_roomIn wsX14_no := goodIn_r _ [26, 1, 27, 28, 29, 30, 31, 32, 33, 34, 35, 36, 37, 38, 39, 40, 41, 42, 43, 44, 45, 46, 47, 48, 49] (by decide +kernel) (by decide +kernel)
set_option maxRecDepth 20000 in
theorem gX14_roomIn_X14_no : GoodIn wsX14_roomIn (wsV RX14 266 RX14 yX14_no wsX14_no) := goodIn_app (goodIn_of _ (by decide +kernel)) ggX14_roomIn_X14_no
theorem dX14_roomIn_0 : decode cX14_roomIn 0 = .ok (.aload_n 0, 1) := by decide +kernel
theorem dX14_roomIn_1 : decode cX14_roomIn 1 = .ok (.iconst 0, 1) := by decide +kernel
theorem dX14_roomIn_2 : decode cX14_roomIn 2 = .ok (.putfield 54, 3) := by decide +kernel
theorem dX14_roomIn_5 : decode cX14_roomIn 5 = .ok (.aload_n 0, 1) := by decide +kernel
theorem dX14_roomIn_6 : decode cX14_roomIn 6 = .ok (.iload_n 1, 1) := by decide +kernel
theorem dX14_roomIn_7 : decode cX14_roomIn 7 = .ok (.invokevirtual 359, 3) := by decide +kernel
theorem dX14_roomIn_10 : decode cX14_roomIn 10 = .ok (.ifCond .eq 11, 3) := by decide +kernel
theorem dX14_roomIn_13 : decode cX14_roomIn 13 = .ok (.aload_n 0, 1) := by decide +kernel
theorem dX14_roomIn_14 : decode cX14_roomIn 14 = .ok (.iload_n 1, 1) := by decide +kernel
theorem dX14_roomIn_15 : decode cX14_roomIn 15 = .ok (.invokevirtual 297, 3) := by decide +kernel
theorem dX14_roomIn_18 : decode cX14_roomIn 18 = .ok (.goto 8, 3) := by decide +kernel
theorem dX14_roomIn_21 : decode cX14_roomIn 21 = .ok (.aload_n 0, 1) := by decide +kernel
theorem dX14_roomIn_22 : decode cX14_roomIn 22 = .ok (.iconst 1, 1) := by decide +kernel
