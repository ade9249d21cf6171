theorem dX8_readValue_57 : decode cX8_readValue 57 = .ok (.ifCond .eq 33, 3) := by decide +kernel
theorem dX8_readValue_60 : decode cX8_readValue 60 = .ok (.aload_n 0, 1) := by decide +kernel
theorem dX8_readValue_61 : decode cX8_readValue 61 = .ok (.getfield 10, 3) := by decide +kernel
theorem dX8_readValue_64 : decode cX8_readValue 64 = .ok (.iconst 1, 1) := by decide +kernel
theorem dX8_readValue_65 : decode cX8_readValue 65 = .ok (.invokevirtual 120, 3) := by decide +kernel
theorem dX8_readValue_68 : decode cX8_readValue 68 = .ok (.aload_n 0, 1) := by decide +kernel
theorem dX8_readValue_69 : decode cX8_readValue 69 = .ok (.getfield 10, 3) := by decide +kernel
theorem dX8_readValue_72 : decode cX8_readValue 72 = .ok (.getstatic 243, 3) := by decide +kernel
theorem dX8_readValue_75 : decode cX8_readValue 75 = .ok (.invokevirtual 46, 3) := by decide +kernel
theorem dX8_readValue_78 : decode cX8_readValue 78 = .ok (.aload_n 2, 1) := by decide +kernel
theorem dX8_readValue_79 : decode cX8_readValue 79 = .ok (.aload_n 0, 1) := by decide +kernel
theorem dX8_readValue_80 : decode cX8_readValue 80 = .ok (.iconst 0, 1) := by decide +kernel
theorem dX8_readValue_81 : decode cX8_readValue 81 = .ok (.invokevirtual 199, 3) := by decide +kernel
theorem dX8_readValue_84 : decode cX8_readValue 84 = .ok (.putfield 237, 3) := by decide +kernel
theorem dX8_readValue_87 : decode cX8_readValue 87 = .ok (.goto 105, 3) := by decide +kernel
theorem dX8_readValue_90 : decode cX8_readValue 90 = .ok (.aload_n 2, 1) := by decide +kernel
theorem dX8_readValue_91 : decode cX8_readValue 91 = .ok (.getfield 236, 3) := by decide +kernel
theorem dX8_readValue_94 : decode cX8_readValue 94 = .ok (.getstatic 124, 3) := by decide +kernel
theorem dX8_readValue_97 : decode cX8_readValue 97 = .ok (.if_acmp .ne 81, 3) := by decide +kernel
theorem dX8_readValue_100 : decode cX8_readValue 100 = .ok (.iload_n 1, 1) := by decide +kernel
theorem dX8_readValue_101 : decode cX8_readValue 101 = .ok (.iconst 3, 1) := by decide +kernel
theorem dX8_readValue_102 : decode cX8_readValue 102 = .ok (.if_icmp .gt 76, 3) := by decide +kernel
theorem dX8_readValue_105 : decode cX8_readValue 105 = .ok (.aload_n 0, 1) := by decide +kernel
theorem dX8_readValue_106 : decode cX8_readValue 106 = .ok (.getfield 10, 3) := by decide +kernel
theorem dX8_readValue_109 : decode cX8_readValue 109 = .ok (.getstatic 124, 3) := by decide +kernel
theorem dX8_readValue_112 : decode cX8_readValue 112 = .ok (.invokevirtual 46, 3) := by decide +kernel
theorem dX8_readValue_115 : decode cX8_readValue 115 = .ok (.aload_n 2, 1) := by decide +kernel
theorem dX8_readValue_116 : decode cX8_readValue 116 = .ok (.aload_n 0, 1) := by decide +kernel
theorem dX8_readValue_117 : decode cX8_readValue 117 = .ok (.iload_n 1, 1) := by decide +kernel
theorem dX8_readValue_118 : decode cX8_readValue 118 = .ok (.iconst 1, 1) := by decide +kernel
theorem dX8_readValue_119 : decode cX8_readValue 119 = .ok (.iadd, 1) := by decide +kernel
theorem dX8_readValue_120 : decode cX8_readValue 120 = .ok (.invokevirtual 162, 3) := by decide +kernel
theorem dX8_readValue_123 : decode cX8_readValue 123 = .ok (.putfield 224, 3) := by decide +kernel
theorem dX8_readValue_126 : decode cX8_readValue 126 = .ok (.aload_n 2, 1) := by decide +kernel
theorem dX8_readValue_127 : decode cX8_readValue 127 = .ok (.aload_n 0, 1) := by decide +kernel
theorem dX8_readValue_128 : decode cX8_readValue 128 = .ok (.getfield 10, 3) := by decide +kernel
theorem dX8_readValue_131 : decode cX8_readValue 131 = .ok (.getfield 31, 3) := by decide +kernel
theorem dX8_readValue_134 : decode cX8_readValue 134 = .ok (.putfield 236, 3) := by decide +kernel
theorem dX8_readValue_137 : decode cX8_readValue 137 = .ok (.aload_n 0, 1) := by decide +kernel
theorem dX8_readValue_138 : decode cX8_readValue 138 = .ok (.getfield 10, 3) := by decide +kernel
theorem dX8_readValue_141 : decode cX8_readValue 141 = .ok (.aload_n 0, 1) := by decide +kernel
theorem dX8_readValue_142 : decode cX8_readValue 142 = .ok (.getfield 10, 3) := by decide +kernel
theorem dX8_readValue_145 : decode cX8_readValue 145 = .ok (.getfield 31, 3) := by decide +kernel
theorem dX8_readValue_148 : decode cX8_readValue 148 = .ok (.invokevirtual 246, 3) := by decide +kernel
theorem dX8_readValue_151 : decode cX8_readValue 151 = .ok (.invokevirtual 120, 3) := by decide +kernel
theorem dX8_readValue_154 : decode cX8_readValue 154 = .ok (.aload_n 2, 1) := by decide +kernel
theorem dX8_readValue_155 : decode cX8_readValue 155 = .ok (.aload_n 0, 1) := by decide +kernel
theorem dX8_readValue_156 : decode cX8_readValue 156 = .ok (.iload_n 1, 1) := by decide +kernel
theorem dX8_readValue_157 : decode cX8_readValue 157 = .ok (.iconst 1, 1) := by decide +kernel
theorem dX8_readValue_158 : decode cX8_readValue 158 = .ok (.iadd, 1) := by decide +kernel
theorem dX8_readValue_159 : decode cX8_readValue 159 = .ok (.invokevirtual 162, 3) := by decide +kernel
theorem dX8_readValue_162 : decode cX8_readValue 162 = .ok (.putfield 227, 3) := by decide +kernel
theorem dX8_readValue_165 : decode cX8_readValue 165 = .ok (.aload_n 0, 1) := by decide +kernel
theorem dX8_readValue_166 : decode cX8_readValue 166 = .ok (.getfield 10, 3) := by decide +kernel
theorem dX8_readValue_169 : decode cX8_readValue 169 = .ok (.getstatic 140, 3) := by decide +kernel
theorem dX8_readValue_172 : decode cX8_readValue 172 = .ok (.invokevirtual 46, 3) := by decide +kernel
theorem dX8_readValue_175 : decode cX8_readValue 175 = .ok (.goto 17, 3) := by decide +kernel
theorem dX8_readValue_178 : decode cX8_readValue 178 = .ok (.aload_n 0, 1) := by decide +kernel
theorem dX8_readValue_179 : decode cX8_readValue 179 = .ok (.getfield 10, 3) := by decide +kernel
theorem dX8_readValue_182 : decode cX8_readValue 182 = .ok (.aload_n 2, 1) := by decide +kernel
theorem dX8_readValue_183 : decode cX8_readValue 183 = .ok (.getfield 236, 3) := by decide +kernel
theorem dX8_readValue_186 : decode cX8_readValue 186 = .ok (.invokevirtual 249, 3) := by decide +kernel
theorem dX8_readValue_189 : decode cX8_readValue 189 = .ok (.invokevirtual 120, 3) := by decide +kernel
theorem dX8_readValue_192 : decode cX8_readValue 192 = .ok (.aload_n 2, 1) := by decide +kernel
theorem dX8_readValue_193 : decode cX8_readValue 193 = .ok (.areturn, 1) := by decide +kernel
theorem dX9_init_0 : decode cX9_init 0 = .ok (.aload_n 0, 1) := by decide +kernel
theorem dX9_init_1 : decode cX9_init 1 = .ok (.invokespecial 3, 3) := by decide +kernel
theorem dX9_init_4 : decode cX9_init 4 = .ok (.aload_n 0, 1) := by decide +kernel
theorem dX9_init_5 : decode cX9_init 5 = .ok (.sipush 1600, 3) := by decide +kernel
theorem dX9_init_8 : decode cX9_init 8 = .ok (.newarray .byte, 2) := by decide +kernel
theorem dX9_init_10 : decode cX9_init 10 = .ok (.putfield 9, 3) := by decide +kernel
theorem dX9_init_13 : decode cX9_init 13 = .ok (.return_, 1) := by decide +kernel
theorem dX9_append_0 : decode cX9_append 0 = .ok (.bipush 24, 2) := by decide +kernel
theorem dX9_append_2 : decode cX9_append 2 = .ok (.istore_n 2, 1) := by decide +kernel
theorem dX9_append_3 : decode cX9_append 3 = .ok (.iload_n 2, 1) := by decide +kernel
theorem dX9_append_4 : decode cX9_append 4 = .ok (.ifCond .lt 51, 3) := by decide +kernel
theorem dX9_append_7 : decode cX9_append 7 = .ok (.aload_n 0, 1) := by decide +kernel
theorem dX9_append_8 : decode cX9_append 8 = .ok (.getfield 15, 3) := by decide +kernel
theorem dX9_append_11 : decode cX9_append 11 = .ok (.ifCond .lt 38, 3) := by decide +kernel
theorem dX9_append_14 : decode cX9_append 14 = .ok (.aload_n 0, 1) := by decide +kernel
theorem dX9_append_15 : decode cX9_append 15 = .ok (.getfield 15, 3) := by decide +kernel
theorem dX9_append_18 : decode cX9_append 18 = .ok (.aload_n 0, 1) := by decide +kernel
theorem dX9_append_19 : decode cX9_append 19 = .ok (.getfield 9, 3) := by decide +kernel
theorem dX9_append_22 : decode cX9_append 22 = .ok (.arraylength, 1) := by decide +kernel
theorem dX9_append_23 : decode cX9_append 23 = .ok (.if_icmp .ge 26, 3) := by decide +kernel
theorem dX9_append_26 : decode cX9_append 26 = .ok (.aload_n 0, 1) := by decide +kernel
theorem dX9_append_27 : decode cX9_append 27 = .ok (.getfield 9, 3) := by decide +kernel
theorem dX9_append_30 : decode cX9_append 30 = .ok (.aload_n 0, 1) := by decide +kernel
theorem dX9_append_31 : decode cX9_append 31 = .ok (.getfield 15, 3) := by decide +kernel
theorem dX9_append_34 : decode cX9_append 34 = .ok (.iload_n 1, 1) := by decide +kernel
theorem dX9_append_35 : decode cX9_append 35 = .ok (.iload_n 2, 1) := by decide +kernel
theorem dX9_append_36 : decode cX9_append 36 = .ok (.iushr, 1) := by decide +kernel
theorem dX9_append_37 : decode cX9_append 37 = .ok (.i2b, 1) := by decide +kernel
theorem dX9_append_38 : decode cX9_append 38 = .ok (.bastore, 1) := by decide +kernel
theorem dX9_append_39 : decode cX9_append 39 = .ok (.aload_n 0, 1) := by decide +kernel
theorem dX9_append_40 : decode cX9_append 40 = .ok (.dup, 1) := by decide +kernel
theorem dX9_append_41 : decode cX9_append 41 = .ok (.getfield 15, 3) := by decide +kernel
theorem dX9_append_44 : decode cX9_append 44 = .ok (.iconst 1, 1) := by decide +kernel
theorem dX9_append_45 : decode cX9_append 45 = .ok (.iadd, 1) := by decide +kernel
theorem dX9_append_46 : decode cX9_append 46 = .ok (.putfield 15, 3) := by decide +kernel
theorem dX9_append_49 : decode cX9_append 49 = .ok (.iinc 2 (-8), 3) := by decide +kernel
theorem dX9_append_52 : decode cX9_append 52 = .ok (.goto (-49), 3) := by decide +kernel
theorem dX9_append_55 : decode cX9_append 55 = .ok (.return_, 1) := by decide +kernel
theorem dX9_byteAt_0 : decode cX9_byteAt 0 = .ok (.iload_n 1, 1) := by decide +kernel
theorem dX9_byteAt_1 : decode cX9_byteAt 1 = .ok (.ifCond .lt 20, 3) := by decide +kernel
theorem dX9_byteAt_4 : decode cX9_byteAt 4 = .ok (.iload_n 1, 1) := by decide +kernel
theorem dX9_byteAt_5 : decode cX9_byteAt 5 = .ok (.aload_n 0, 1) := by decide +kernel
theorem dX9_byteAt_6 : decode cX9_byteAt 6 = .ok (.getfield 15, 3) := by decide +kernel
theorem dX9_byteAt_9 : decode cX9_byteAt 9 = .ok (.if_icmp .ge 12, 3) := by decide +kernel
theorem dX9_byteAt_12 : decode cX9_byteAt 12 = .ok (.iload_n 1, 1) := by decide +kernel
theorem dX9_byteAt_13 : decode cX9_byteAt 13 = .ok (.aload_n 0, 1) := by decide +kernel
theorem dX9_byteAt_14 : decode cX9_byteAt 14 = .ok (.getfield 9, 3) := by decide +kernel
theorem dX9_byteAt_17 : decode cX9_byteAt 17 = .ok (.arraylength, 1) := by decide +kernel
theorem dX9_byteAt_18 : decode cX9_byteAt 18 = .ok (.if_icmp .lt 5, 3) := by decide +kernel
theorem dX9_byteAt_21 : decode cX9_byteAt 21 = .ok (.iconst (-1), 1) := by decide +kernel
theorem dX9_byteAt_22 : decode cX9_byteAt 22 = .ok (.ireturn, 1) := by decide +kernel
theorem dX9_byteAt_23 : decode cX9_byteAt 23 = .ok (.aload_n 0, 1) := by decide +kernel
theorem dX9_byteAt_24 : decode cX9_byteAt 24 = .ok (.getfield 9, 3) := by decide +kernel
theorem dX9_byteAt_27 : decode cX9_byteAt 27 = .ok (.iload_n 1, 1) := by decide +kernel
theorem dX9_byteAt_28 : decode cX9_byteAt 28 = .ok (.baload, 1) := by decide +kernel
theorem dX9_byteAt_29 : decode cX9_byteAt 29 = .ok (.sipush 255, 3) := by decide +kernel
theorem dX9_byteAt_32 : decode cX9_byteAt 32 = .ok (.iand, 1) := by decide +kernel
theorem dX9_byteAt_33 : decode cX9_byteAt 33 = .ok (.ireturn, 1) := by decide +kernel
theorem dX10_init_0 : decode cX10_init 0 = .ok (.aload_n 0, 1) := by decide +kernel
theorem dX10_init_1 : decode cX10_init 1 = .ok (.invokespecial 1, 3) := by decide +kernel
theorem dX10_init_4 : decode cX10_init 4 = .ok (.aload_n 0, 1) := by decide +kernel
theorem dX10_init_5 : decode cX10_init 5 = .ok (.sipush 401, 3) := by decide +kernel
theorem dX10_init_8 : decode cX10_init 8 = .ok (.anewarray 9, 3) := by decide +kernel
theorem dX10_init_11 : decode cX10_init 11 = .ok (.putfield 11, 3) := by decide +kernel
theorem dX10_init_14 : decode cX10_init 14 = .ok (.aload_n 0, 1) := by decide +kernel
theorem dX10_init_15 : decode cX10_init 15 = .ok (.sipush 401, 3) := by decide +kernel
theorem dX10_init_18 : decode cX10_init 18 = .ok (.newarray .int, 2) := by decide +kernel
theorem dX10_init_20 : decode cX10_init 20 = .ok (.putfield 15, 3) := by decide +kernel
theorem dX10_init_23 : decode cX10_init 23 = .ok (.aload_n 0, 1) := by decide +kernel
theorem dX10_init_24 : decode cX10_init 24 = .ok (.sipush 401, 3) := by decide +kernel
theorem dX10_init_27 : decode cX10_init 27 = .ok (.newarray .long, 2) := by decide +kernel
theorem dX10_init_29 : decode cX10_init 29 = .ok (.putfield 19, 3) := by decide +kernel
theorem dX10_init_32 : decode cX10_init 32 = .ok (.aload_n 0, 1) := by decide +kernel
theorem dX10_init_33 : decode cX10_init 33 = .ok (.getstatic 23, 3) := by decide +kernel
theorem dX10_init_36 : decode cX10_init 36 = .ok (.putfield 27, 3) := by decide +kernel
theorem dX10_init_39 : decode cX10_init 39 = .ok (.return_, 1) := by decide +kernel
set_option maxRecDepth 20000 in
theorem ggX10_split_X10_behindBlanks : GoodIn wsX10_split wsX10_behindBlanks := goodIn_r _ [8, 9, 10, 11, 12, 13, 14, 15, 70, 71] (by decide +kernel) (by decide +kernel)
set_option maxRecDepth 20000 in
theorem gX10_split_X10_behindBlanks : GoodIn wsX10_split (va_wsS RX10 34 yX10_behindBlanks wsX10_behindBlanks) := goodIn_app (goodIn_of _ (by decide +kernel)) ggX10_split_X10_behindBlanks
set_option maxRecDepth 20000 in
theorem ggX10_split_X10_endOfToken : GoodIn wsX10_split wsX10_endOfToken := goodIn_r _ [18, 9, 10, 11, 12, 13, 14, 15, 19, 20, 7, 21, 22, 23, 24, 25, 26, 27, 70, 71] (by decide +kernel) (by decide +kernel)
set_option maxRecDepth 20000 in
theorem gX10_split_X10_endOfToken : GoodIn wsX10_split (va_wsS RX10 46 yX10_endOfToken wsX10_endOfToken) := goodIn_app (goodIn_of _ (by decide +kernel)) ggX10_split_X10_endOfToken
set_option maxRecDepth 20000 in
theorem ggX10_split_X10_worthOf : GoodIn wsX10_split wsX10_worthOf := goodIn_r _ [30, 31, 9, 10, 11, 12, 13, 14, 15, 25, 26, 7, 27, 32, 33, 34, 35, 36, 70, 71] (by decide +kernel) (by decide +kernel)
set_option maxRecDepth 20000 in
theorem gX10_split_X10_worthOf : GoodIn wsX10_split (va_wsS RX10 49 yX10_worthOf wsX10_worthOf) := goodIn_app (goodIn_of _ (by decide +kernel)) ggX10_split_X10_worthOf
set_option maxRecDepth 20000 in
theorem ggX10_split_X9_byteAt : GoodIn wsX10_split wsX9_byteAt := goodIn_r _ [13, 14, 15, 70, 71] (by decide +kernel) (by decide +kernel)
set_option maxRecDepth 20000 in
theorem gX10_split_X9_byteAt : GoodIn wsX10_split (wsV RX10 53 RX9 yX9_byteAt wsX9_byteAt) := goodIn_app (goodIn_of _ (by decide +kernel)) ggX10_split_X9_byteAt
set_option maxRecDepth 20000 in
theorem ggX10_split_X10_kindOf : GoodIn wsX10_split wsX10_kindOf := goodIn_r _ [39, 3, 40, 22, 23, 7, 24, 41, 42, 34, 43, 44, 45, 46, 25, 26, 27, 47, 48, 49, 50, 51] (by decide +kernel) (by decide +kernel)
set_option maxRecDepth 20000 in
theorem gX10_split_X10_kindOf : GoodIn wsX10_split (va_wsS RX10 57 yX10_kindOf wsX10_kindOf) := goodIn_app (goodIn_of _ (by decide +kernel)) ggX10_split_X10_kindOf
set_option maxRecDepth 20000 in
theorem ggX10_split_X10_add : GoodIn wsX10_split wsX10_add := goodIn_r _ [55, 1, 56, 57, 58, 64, 65, 66, 67, 68, 69] (by decide +kernel) (by decide +kernel)
set_option maxRecDepth 20000 in
theorem gX10_split_X10_add : GoodIn wsX10_split (wsV RX10 61 RX10 yX10_add wsX10_add) := goodIn_app (goodIn_of _ (by decide +kernel)) ggX10_split_X10_add
set_option maxRecDepth 20000 in
theorem ggX10_split_X10_step : GoodIn wsX10_split wsX10_step := goodIn_r _ [62, 4, 1, 56, 3, 63, 64, 65, 66, 67, 68, 69] (by decide +kernel) (by decide +kernel)
set_option maxRecDepth 20000 in
theorem gX10_split_X10_step : GoodIn wsX10_split (wsV RX10 68 RX10 yX10_step wsX10_step) := goodIn_app (goodIn_of _ (by decide +kernel)) ggX10_split_X10_step
theorem dX10_split_0 : decode cX10_split 0 = .ok (.aload_n 0, 1) := by decide +kernel
theorem dX10_split_1 : decode cX10_split 1 = .ok (.iconst 0, 1) := by decide +kernel
theorem dX10_split_2 : decode cX10_split 2 = .ok (.putfield 30, 3) := by decide +kernel
theorem dX10_split_5 : decode cX10_split 5 = .ok (.getstatic 23, 3) := by decide +kernel
theorem dX10_split_8 : decode cX10_split 8 = .ok (.astore_n 2, 1) := by decide +kernel
theorem dX10_split_9 : decode cX10_split 9 = .ok (.aload_n 1, 1) := by decide +kernel
theorem dX10_split_10 : decode cX10_split 10 = .ok (.iconst 0, 1) := by decide +kernel
theorem dX10_split_11 : decode cX10_split 11 = .ok (.invokestatic 34, 3) := by decide +kernel
theorem dX10_split_14 : decode cX10_split 14 = .ok (.istore_n 3, 1) := by decide +kernel
theorem dX10_split_15 : decode cX10_split 15 = .ok (.iconst 0, 1) := by decide +kernel
theorem dX10_split_16 : decode cX10_split 16 = .ok (.istore 4, 2) := by decide +kernel
theorem dX10_split_18 : decode cX10_split 18 = .ok (.iload 4, 2) := by decide +kernel
theorem dX10_split_20 : decode cX10_split 20 = .ok (.sipush 400, 3) := by decide +kernel
theorem dX10_split_23 : decode cX10_split 23 = .ok (.if_icmp .gt 84, 3) := by decide +kernel
theorem dX10_split_26 : decode cX10_split 26 = .ok (.iload_n 3, 1) := by decide +kernel
theorem dX10_split_27 : decode cX10_split 27 = .ok (.aload_n 1, 1) := by decide +kernel
theorem dX10_split_28 : decode cX10_split 28 = .ok (.getfield 38, 3) := by decide +kernel
theorem dX10_split_31 : decode cX10_split 31 = .ok (.if_icmp .ge 76, 3) := by decide +kernel
theorem dX10_split_34 : decode cX10_split 34 = .ok (.aload_n 2, 1) := by decide +kernel
theorem dX10_split_35 : decode cX10_split 35 = .ok (.getstatic 43, 3) := by decide +kernel
theorem dX10_split_38 : decode cX10_split 38 = .ok (.if_acmp .eq 69, 3) := by decide +kernel
theorem dX10_split_41 : decode cX10_split 41 = .ok (.aload_n 1, 1) := by decide +kernel
theorem dX10_split_42 : decode cX10_split 42 = .ok (.iload_n 3, 1) := by decide +kernel
theorem dX10_split_43 : decode cX10_split 43 = .ok (.invokestatic 46, 3) := by decide +kernel
theorem dX10_split_46 : decode cX10_split 46 = .ok (.istore 5, 2) := by decide +kernel
theorem dX10_split_48 : decode cX10_split 48 = .ok (.aload_n 1, 1) := by decide +kernel
theorem dX10_split_49 : decode cX10_split 49 = .ok (.iload_n 3, 1) := by decide +kernel
theorem dX10_split_50 : decode cX10_split 50 = .ok (.iload 5, 2) := by decide +kernel
theorem dX10_split_52 : decode cX10_split 52 = .ok (.invokestatic 49, 3) := by decide +kernel
theorem dX10_split_55 : decode cX10_split 55 = .ok (.lstore 6, 2) := by decide +kernel
theorem dX10_split_57 : decode cX10_split 57 = .ok (.iload 4, 2) := by decide +kernel
theorem dX10_split_59 : decode cX10_split 59 = .ok (.sipush 400, 3) := by decide +kernel
theorem dX10_split_62 : decode cX10_split 62 = .ok (.if_icmp .ge 20, 3) := by decide +kernel
theorem dX10_split_65 : decode cX10_split 65 = .ok (.aload_n 1, 1) := by decide +kernel
theorem dX10_split_66 : decode cX10_split 66 = .ok (.iload_n 3, 1) := by decide +kernel
theorem dX10_split_67 : decode cX10_split 67 = .ok (.invokevirtual 53, 3) := by decide +kernel
theorem dX10_split_70 : decode cX10_split 70 = .ok (.iload 5, 2) := by decide +kernel
theorem dX10_split_72 : decode cX10_split 72 = .ok (.iload_n 3, 1) := by decide +kernel
theorem dX10_split_73 : decode cX10_split 73 = .ok (.isub, 1) := by decide +kernel
theorem dX10_split_74 : decode cX10_split 74 = .ok (.lload 6, 2) := by decide +kernel
theorem dX10_split_76 : decode cX10_split 76 = .ok (.invokestatic 57, 3) := by decide +kernel
theorem dX10_split_79 : decode cX10_split 79 = .ok (.goto 6, 3) := by decide +kernel
theorem dX10_split_82 : decode cX10_split 82 = .ok (.getstatic 43, 3) := by decide +kernel
theorem dX10_split_85 : decode cX10_split 85 = .ok (.astore_n 2, 1) := by decide +kernel
theorem dX10_split_86 : decode cX10_split 86 = .ok (.aload_n 0, 1) := by decide +kernel
theorem dX10_split_87 : decode cX10_split 87 = .ok (.aload_n 2, 1) := by decide +kernel
theorem dX10_split_88 : decode cX10_split 88 = .ok (.iload_n 3, 1) := by decide +kernel
theorem dX10_split_89 : decode cX10_split 89 = .ok (.lload 6, 2) := by decide +kernel
theorem dX10_split_91 : decode cX10_split 91 = .ok (.invokevirtual 61, 3) := by decide +kernel
theorem dX10_split_94 : decode cX10_split 94 = .ok (.aload_n 1, 1) := by decide +kernel
theorem dX10_split_95 : decode cX10_split 95 = .ok (.iload 5, 2) := by decide +kernel
theorem dX10_split_97 : decode cX10_split 97 = .ok (.invokestatic 34, 3) := by decide +kernel
theorem dX10_split_100 : decode cX10_split 100 = .ok (.istore_n 3, 1) := by decide +kernel
theorem dX10_split_101 : decode cX10_split 101 = .ok (.iinc 4 1, 3) := by decide +kernel
theorem dX10_split_104 : decode cX10_split 104 = .ok (.goto (-86), 3) := by decide +kernel
theorem dX10_split_107 : decode cX10_split 107 = .ok (.aload_n 2, 1) := by decide +kernel
theorem dX10_split_108 : decode cX10_split 108 = .ok (.getstatic 43, 3) := by decide +kernel
theorem dX10_split_111 : decode cX10_split 111 = .ok (.if_acmp .eq 15, 3) := by decide +kernel
theorem dX10_split_114 : decode cX10_split 114 = .ok (.aload_n 0, 1) := by decide +kernel
theorem dX10_split_115 : decode cX10_split 115 = .ok (.getstatic 23, 3) := by decide +kernel
theorem dX10_split_118 : decode cX10_split 118 = .ok (.aload_n 1, 1) := by decide +kernel
theorem dX10_split_119 : decode cX10_split 119 = .ok (.getfield 38, 3) := by decide +kernel
theorem dX10_split_122 : decode cX10_split 122 = .ok (.lconst 0, 1) := by decide +kernel
theorem dX10_split_123 : decode cX10_split 123 = .ok (.invokevirtual 61, 3) := by decide +kernel
theorem dX10_split_126 : decode cX10_split 126 = .ok (.aload_n 0, 1) := by decide +kernel
theorem dX10_split_127 : decode cX10_split 127 = .ok (.iconst (-1), 1) := by decide +kernel
theorem dX10_split_128 : decode cX10_split 128 = .ok (.putfield 65, 3) := by decide +kernel
theorem dX10_split_131 : decode cX10_split 131 = .ok (.aload_n 0, 1) := by decide +kernel
theorem dX10_split_132 : decode cX10_split 132 = .ok (.iconst 1, 1) := by decide +kernel
theorem dX10_split_133 : decode cX10_split 133 = .ok (.invokevirtual 68, 3) := by decide +kernel
theorem dX10_split_136 : decode cX10_split 136 = .ok (.return_, 1) := by decide +kernel
theorem dX10_add_0 : decode cX10_add 0 = .ok (.aload_n 0, 1) := by decide +kernel
theorem dX10_add_1 : decode cX10_add 1 = .ok (.getfield 30, 3) := by decide +kernel
theorem dX10_add_4 : decode cX10_add 4 = .ok (.ifCond .lt 79, 3) := by decide +kernel
theorem dX10_add_7 : decode cX10_add 7 = .ok (.aload_n 0, 1) := by decide +kernel
theorem dX10_add_8 : decode cX10_add 8 = .ok (.getfield 30, 3) := by decide +kernel
theorem dX10_add_11 : decode cX10_add 11 = .ok (.aload_n 0, 1) := by decide +kernel
theorem dX10_add_12 : decode cX10_add 12 = .ok (.getfield 11, 3) := by decide +kernel
theorem dX10_add_15 : decode cX10_add 15 = .ok (.arraylength, 1) := by decide +kernel
theorem dX10_add_16 : decode cX10_add 16 = .ok (.if_icmp .ge 67, 3) := by decide +kernel
theorem dX10_add_19 : decode cX10_add 19 = .ok (.aload_n 0, 1) := by decide +kernel
theorem dX10_add_20 : decode cX10_add 20 = .ok (.getfield 30, 3) := by decide +kernel
theorem dX10_add_23 : decode cX10_add 23 = .ok (.aload_n 0, 1) := by decide +kernel
theorem dX10_add_24 : decode cX10_add 24 = .ok (.getfield 15, 3) := by decide +kernel
theorem dX10_add_27 : decode cX10_add 27 = .ok (.arraylength, 1) := by decide +kernel
theorem dX10_add_28 : decode cX10_add 28 = .ok (.if_icmp .ge 55, 3) := by decide +kernel
theorem dX10_add_31 : decode cX10_add 31 = .ok (.aload_n 0, 1) := by decide +kernel
theorem dX10_add_32 : decode cX10_add 32 = .ok (.getfield 30, 3) := by decide +kernel
theorem dX10_add_35 : decode cX10_add 35 = .ok (.aload_n 0, 1) := by decide +kernel
theorem dX10_add_36 : decode cX10_add 36 = .ok (.getfield 19, 3) := by decide +kernel
theorem dX10_add_39 : decode cX10_add 39 = .ok (.arraylength, 1) := by decide +kernel
theorem dX10_add_40 : decode cX10_add 40 = .ok (.if_icmp .ge 43, 3) := by decide +kernel
theorem dX10_add_43 : decode cX10_add 43 = .ok (.aload_n 0, 1) := by decide +kernel
theorem dX10_add_44 : decode cX10_add 44 = .ok (.getfield 11, 3) := by decide +kernel
theorem dX10_add_47 : decode cX10_add 47 = .ok (.aload_n 0, 1) := by decide +kernel
theorem dX10_add_48 : decode cX10_add 48 = .ok (.getfield 30, 3) := by decide +kernel
theorem dX10_add_51 : decode cX10_add 51 = .ok (.aload_n 1, 1) := by decide +kernel
theorem dX10_add_52 : decode cX10_add 52 = .ok (.aastore, 1) := by decide +kernel
theorem dX10_add_53 : decode cX10_add 53 = .ok (.aload_n 0, 1) := by decide +kernel
theorem dX10_add_54 : decode cX10_add 54 = .ok (.getfield 15, 3) := by decide +kernel
theorem dX10_add_57 : decode cX10_add 57 = .ok (.aload_n 0, 1) := by decide +kernel
theorem dX10_add_58 : decode cX10_add 58 = .ok (.getfield 30, 3) := by decide +kernel
theorem dX10_add_61 : decode cX10_add 61 = .ok (.iload_n 2, 1) := by decide +kernel
theorem dX10_add_62 : decode cX10_add 62 = .ok (.iastore, 1) := by decide +kernel
theorem dX10_add_63 : decode cX10_add 63 = .ok (.aload_n 0, 1) := by decide +kernel
theorem dX10_add_64 : decode cX10_add 64 = .ok (.getfield 19, 3) := by decide +kernel
theorem dX10_add_67 : decode cX10_add 67 = .ok (.aload_n 0, 1) := by decide +kernel
theorem dX10_add_68 : decode cX10_add 68 = .ok (.getfield 30, 3) := by decide +kernel
theorem dX10_add_71 : decode cX10_add 71 = .ok (.lload_n 3, 1) := by decide +kernel
theorem dX10_add_72 : decode cX10_add 72 = .ok (.lastore, 1) := by decide +kernel
theorem dX10_add_73 : decode cX10_add 73 = .ok (.aload_n 0, 1) := by decide +kernel
theorem dX10_add_74 : decode cX10_add 74 = .ok (.dup, 1) := by decide +kernel
theorem dX10_add_75 : decode cX10_add 75 = .ok (.getfield 30, 3) := by decide +kernel
theorem dX10_add_78 : decode cX10_add 78 = .ok (.iconst 1, 1) := by decide +kernel
theorem dX10_add_79 : decode cX10_add 79 = .ok (.iadd, 1) := by decide +kernel
theorem dX10_add_80 : decode cX10_add 80 = .ok (.putfield 30, 3) := by decide +kernel
theorem dX10_add_83 : decode cX10_add 83 = .ok (.return_, 1) := by decide +kernel
theorem dX10_step_0 : decode cX10_step 0 = .ok (.aconst_null, 1) := by decide +kernel
theorem dX10_step_1 : decode cX10_step 1 = .ok (.astore_n 2, 1) := by decide +kernel
theorem dX10_step_2 : decode cX10_step 2 = .ok (.iload_n 1, 1) := by decide +kernel
theorem dX10_step_3 : decode cX10_step 3 = .ok (.ifCond .eq 57, 3) := by decide +kernel
theorem dX10_step_6 : decode cX10_step 6 = .ok (.aload_n 0, 1) := by decide +kernel
theorem dX10_step_7 : decode cX10_step 7 = .ok (.dup, 1) := by decide +kernel
theorem dX10_step_8 : decode cX10_step 8 = .ok (.getfield 65, 3) := by decide +kernel
theorem dX10_step_11 : decode cX10_step 11 = .ok (.iconst 1, 1) := by decide +kernel
theorem dX10_step_12 : decode cX10_step 12 = .ok (.iadd, 1) := by decide +kernel
theorem dX10_step_13 : decode cX10_step 13 = .ok (.putfield 65, 3) := by decide +kernel
theorem dX10_step_16 : decode cX10_step 16 = .ok (.aload_n 0, 1) := by decide +kernel
theorem dX10_step_17 : decode cX10_step 17 = .ok (.getfield 65, 3) := by decide +kernel
theorem dX10_step_20 : decode cX10_step 20 = .ok (.ifCond .lt 38, 3) := by decide +kernel
theorem dX10_step_23 : decode cX10_step 23 = .ok (.aload_n 0, 1) := by decide +kernel
theorem dX10_step_24 : decode cX10_step 24 = .ok (.getfield 65, 3) := by decide +kernel
theorem dX10_step_27 : decode cX10_step 27 = .ok (.aload_n 0, 1) := by decide +kernel
theorem dX10_step_28 : decode cX10_step 28 = .ok (.getfield 30, 3) := by decide +kernel
theorem dX10_step_31 : decode cX10_step 31 = .ok (.if_icmp .ge 27, 3) := by decide +kernel
theorem dX10_step_34 : decode cX10_step 34 = .ok (.aload_n 0, 1) := by decide +kernel
theorem dX10_step_35 : decode cX10_step 35 = .ok (.getfield 65, 3) := by decide +kernel
theorem dX10_step_38 : decode cX10_step 38 = .ok (.aload_n 0, 1) := by decide +kernel
theorem dX10_step_39 : decode cX10_step 39 = .ok (.getfield 11, 3) := by decide +kernel
theorem dX10_step_42 : decode cX10_step 42 = .ok (.arraylength, 1) := by decide +kernel
theorem dX10_step_43 : decode cX10_step 43 = .ok (.if_icmp .ge 15, 3) := by decide +kernel
theorem dX10_step_46 : decode cX10_step 46 = .ok (.aload_n 0, 1) := by decide +kernel
theorem dX10_step_47 : decode cX10_step 47 = .ok (.getfield 11, 3) := by decide +kernel
theorem dX10_step_50 : decode cX10_step 50 = .ok (.aload_n 0, 1) := by decide +kernel
theorem dX10_step_51 : decode cX10_step 51 = .ok (.getfield 65, 3) := by decide +kernel
theorem dX10_step_54 : decode cX10_step 54 = .ok (.aaload, 1) := by decide +kernel
theorem dX10_step_55 : decode cX10_step 55 = .ok (.goto 4, 3) := by decide +kernel
theorem dX10_step_58 : decode cX10_step 58 = .ok (.aconst_null, 1) := by decide +kernel
theorem dX10_step_59 : decode cX10_step 59 = .ok (.astore_n 2, 1) := by decide +kernel
theorem dX10_step_60 : decode cX10_step 60 = .ok (.aload_n 0, 1) := by decide +kernel
theorem dX10_step_61 : decode cX10_step 61 = .ok (.aload_n 2, 1) := by decide +kernel
theorem dX10_step_62 : decode cX10_step 62 = .ok (.ifnonnull 9, 3) := by decide +kernel
theorem dX10_step_65 : decode cX10_step 65 = .ok (.getstatic 43, 3) := by decide +kernel
theorem dX10_step_68 : decode cX10_step 68 = .ok (.goto 4, 3) := by decide +kernel
theorem dX10_step_71 : decode cX10_step 71 = .ok (.aload_n 2, 1) := by decide +kernel
theorem dX10_step_72 : decode cX10_step 72 = .ok (.putfield 27, 3) := by decide +kernel
theorem dX10_step_75 : decode cX10_step 75 = .ok (.return_, 1) := by decide +kernel
set_option maxRecDepth 20000 in
theorem ggX10_take_X10_step : GoodIn wsX10_take wsX10_step := goodIn_r _ [6, 7, 8, 9, 10, 1, 11, 12, 13, 14, 15, 16] (by decide +kernel) (by decide +kernel)
set_option maxRecDepth 20000 in
theorem gX10_take_X10_step : GoodIn wsX10_take (wsV RX10 68 RX10 yX10_step wsX10_step) := goodIn_app (goodIn_of _ (by decide +kernel)) ggX10_take_X10_step
theorem dX10_take_0 : decode cX10_take 0 = .ok (.aload_n 0, 1) := by decide +kernel
theorem dX10_take_1 : decode cX10_take 1 = .ok (.aload_n 0, 1) := by decide +kernel
theorem dX10_take_2 : decode cX10_take 2 = .ok (.getfield 27, 3) := by decide +kernel
theorem dX10_take_5 : decode cX10_take 5 = .ok (.aload_n 1, 1) := by decide +kernel
theorem dX10_take_6 : decode cX10_take 6 = .ok (.if_acmp .ne 7, 3) := by decide +kernel
theorem dX10_take_9 : decode cX10_take 9 = .ok (.iconst 1, 1) := by decide +kernel
theorem dX10_take_10 : decode cX10_take 10 = .ok (.goto 4, 3) := by decide +kernel
theorem dX10_take_13 : decode cX10_take 13 = .ok (.iconst 0, 1) := by decide +kernel
theorem dX10_take_14 : decode cX10_take 14 = .ok (.invokevirtual 68, 3) := by decide +kernel
theorem dX10_take_17 : decode cX10_take 17 = .ok (.return_, 1) := by decide +kernel
theorem dX10_worth_0 : decode cX10_worth 0 = .ok (.aload_n 0, 1) := by decide +kernel
theorem dX10_worth_1 : decode cX10_worth 1 = .ok (.getfield 65, 3) := by decide +kernel
theorem dX10_worth_4 : decode cX10_worth 4 = .ok (.ifCond .lt 27, 3) := by decide +kernel
theorem dX10_worth_7 : decode cX10_worth 7 = .ok (.aload_n 0, 1) := by decide +kernel
theorem dX10_worth_8 : decode cX10_worth 8 = .ok (.getfield 65, 3) := by decide +kernel
theorem dX10_worth_11 : decode cX10_worth 11 = .ok (.aload_n 0, 1) := by decide +kernel
theorem dX10_worth_12 : decode cX10_worth 12 = .ok (.getfield 19, 3) := by decide +kernel
theorem dX10_worth_15 : decode cX10_worth 15 = .ok (.arraylength, 1) := by decide +kernel
theorem dX10_worth_16 : decode cX10_worth 16 = .ok (.if_icmp .ge 15, 3) := by decide +kernel
theorem dX10_worth_19 : decode cX10_worth 19 = .ok (.aload_n 0, 1) := by decide +kernel
theorem dX10_worth_20 : decode cX10_worth 20 = .ok (.getfield 19, 3) := by decide +kernel
theorem dX10_worth_23 : decode cX10_worth 23 = .ok (.aload_n 0, 1) := by decide +kernel
theorem dX10_worth_24 : decode cX10_worth 24 = .ok (.getfield 65, 3) := by decide +kernel
theorem dX10_worth_27 : decode cX10_worth 27 = .ok (.laload, 1) := by decide +kernel
theorem dX10_worth_28 : decode cX10_worth 28 = .ok (.goto 4, 3) := by decide +kernel
theorem dX10_worth_31 : decode cX10_worth 31 = .ok (.lconst 0, 1) := by decide +kernel
theorem dX10_worth_32 : decode cX10_worth 32 = .ok (.lreturn, 1) := by decide +kernel
theorem dX10_positionOf_0 : decode cX10_positionOf 0 = .ok (.iload_n 1, 1) := by decide +kernel
theorem dX10_positionOf_1 : decode cX10_positionOf 1 = .ok (.ifCond .lt 21, 3) := by decide +kernel
theorem dX10_positionOf_4 : decode cX10_positionOf 4 = .ok (.iload_n 1, 1) := by decide +kernel
theorem dX10_positionOf_5 : decode cX10_positionOf 5 = .ok (.aload_n 0, 1) := by decide +kernel
theorem dX10_positionOf_6 : decode cX10_positionOf 6 = .ok (.getfield 15, 3) := by decide +kernel
theorem dX10_positionOf_9 : decode cX10_positionOf 9 = .ok (.arraylength, 1) := by decide +kernel
theorem dX10_positionOf_10 : decode cX10_positionOf 10 = .ok (.if_icmp .ge 12, 3) := by decide +kernel
theorem dX10_positionOf_13 : decode cX10_positionOf 13 = .ok (.aload_n 0, 1) := by decide +kernel
theorem dX10_positionOf_14 : decode cX10_positionOf 14 = .ok (.getfield 15, 3) := by decide +kernel
theorem dX10_positionOf_17 : decode cX10_positionOf 17 = .ok (.iload_n 1, 1) := by decide +kernel
theorem dX10_positionOf_18 : decode cX10_positionOf 18 = .ok (.iaload, 1) := by decide +kernel
theorem dX10_positionOf_19 : decode cX10_positionOf 19 = .ok (.goto 4, 3) := by decide +kernel
theorem dX10_positionOf_22 : decode cX10_positionOf 22 = .ok (.iconst 0, 1) := by decide +kernel
theorem dX10_positionOf_23 : decode cX10_positionOf 23 = .ok (.ireturn, 1) := by decide +kernel
set_option maxRecDepth 20000 in
theorem ggX10_behindBlanks_X9_byteAt : GoodIn wsX10_behindBlanks wsX9_byteAt := goodIn_r _ [5, 6, 7, 8, 9] (by decide +kernel) (by decide +kernel)
set_option maxRecDepth 20000 in
theorem gX10_behindBlanks_X9_byteAt : GoodIn wsX10_behindBlanks (wsV RX10 53 RX9 yX9_byteAt wsX9_byteAt) := goodIn_app (goodIn_of _ (by decide +kernel)) ggX10_behindBlanks_X9_byteAt
theorem dX10_behindBlanks_0 : decode cX10_behindBlanks 0 = .ok (.iload_n 1, 1) := by decide +kernel
theorem dX10_behindBlanks_1 : decode cX10_behindBlanks 1 = .ok (.istore_n 2, 1) := by decide +kernel
theorem dX10_behindBlanks_2 : decode cX10_behindBlanks 2 = .ok (.iload_n 2, 1) := by decide +kernel
theorem dX10_behindBlanks_3 : decode cX10_behindBlanks 3 = .ok (.aload_n 0, 1) := by decide +kernel
theorem dX10_behindBlanks_4 : decode cX10_behindBlanks 4 = .ok (.getfield 38, 3) := by decide +kernel
theorem dX10_behindBlanks_7 : decode cX10_behindBlanks 7 = .ok (.if_icmp .ge 29, 3) := by decide +kernel
theorem dX10_behindBlanks_10 : decode cX10_behindBlanks 10 = .ok (.aload_n 0, 1) := by decide +kernel
theorem dX10_behindBlanks_11 : decode cX10_behindBlanks 11 = .ok (.iload_n 2, 1) := by decide +kernel
theorem dX10_behindBlanks_12 : decode cX10_behindBlanks 12 = .ok (.invokevirtual 53, 3) := by decide +kernel
theorem dX10_behindBlanks_15 : decode cX10_behindBlanks 15 = .ok (.bipush 32, 2) := by decide +kernel
theorem dX10_behindBlanks_17 : decode cX10_behindBlanks 17 = .ok (.if_icmp .eq 13, 3) := by decide +kernel
theorem dX10_behindBlanks_20 : decode cX10_behindBlanks 20 = .ok (.aload_n 0, 1) := by decide +kernel
theorem dX10_behindBlanks_21 : decode cX10_behindBlanks 21 = .ok (.iload_n 2, 1) := by decide +kernel
theorem dX10_behindBlanks_22 : decode cX10_behindBlanks 22 = .ok (.invokevirtual 53, 3) := by decide +kernel
theorem dX10_behindBlanks_25 : decode cX10_behindBlanks 25 = .ok (.bipush 10, 2) := by decide +kernel
theorem dX10_behindBlanks_27 : decode cX10_behindBlanks 27 = .ok (.if_icmp .ne 9, 3) := by decide +kernel
theorem dX10_behindBlanks_30 : decode cX10_behindBlanks 30 = .ok (.iinc 2 1, 3) := by decide +kernel
theorem dX10_behindBlanks_33 : decode cX10_behindBlanks 33 = .ok (.goto (-31), 3) := by decide +kernel
theorem dX10_behindBlanks_36 : decode cX10_behindBlanks 36 = .ok (.iload_n 2, 1) := by decide +kernel
theorem dX10_behindBlanks_37 : decode cX10_behindBlanks 37 = .ok (.ireturn, 1) := by decide +kernel
set_option maxRecDepth 20000 in
theorem ggX10_endOfToken_X9_byteAt : GoodIn wsX10_endOfToken wsX9_byteAt := goodIn_r _ [5, 6, 7, 18, 19] (by decide +kernel) (by decide +kernel)
set_option maxRecDepth 20000 in
theorem gX10_endOfToken_X9_byteAt : GoodIn wsX10_endOfToken (wsV RX10 53 RX9 yX9_byteAt wsX9_byteAt) := goodIn_app (goodIn_of _ (by decide +kernel)) ggX10_endOfToken_X9_byteAt
set_option maxRecDepth 20000 in
theorem ggX10_endOfToken_X10_goesOn : GoodIn wsX10_endOfToken wsX10_goesOn := goodIn_r _ [11, 12, 13, 10, 14, 15, 16, 17] (by decide +kernel) (by decide +kernel)
set_option maxRecDepth 20000 in
theorem gX10_endOfToken_X10_goesOn : GoodIn wsX10_endOfToken (va_wsS RX10 72 yX10_goesOn wsX10_goesOn) := goodIn_app (goodIn_of _ (by decide +kernel)) ggX10_endOfToken_X10_goesOn
theorem dX10_endOfToken_0 : decode cX10_endOfToken 0 = .ok (.aload_n 0, 1) := by decide +kernel
theorem dX10_endOfToken_1 : decode cX10_endOfToken 1 = .ok (.iload_n 1, 1) := by decide +kernel
theorem dX10_endOfToken_2 : decode cX10_endOfToken 2 = .ok (.invokevirtual 53, 3) := by decide +kernel
theorem dX10_endOfToken_5 : decode cX10_endOfToken 5 = .ok (.istore_n 2, 1) := by decide +kernel
theorem dX10_endOfToken_6 : decode cX10_endOfToken 6 = .ok (.iload_n 1, 1) := by decide +kernel
theorem dX10_endOfToken_7 : decode cX10_endOfToken 7 = .ok (.iconst 1, 1) := by decide +kernel
theorem dX10_endOfToken_8 : decode cX10_endOfToken 8 = .ok (.iadd, 1) := by decide +kernel
theorem dX10_endOfToken_9 : decode cX10_endOfToken 9 = .ok (.istore_n 3, 1) := by decide +kernel
theorem dX10_endOfToken_10 : decode cX10_endOfToken 10 = .ok (.iload_n 3, 1) := by decide +kernel
theorem dX10_endOfToken_11 : decode cX10_endOfToken 11 = .ok (.aload_n 0, 1) := by decide +kernel
theorem dX10_endOfToken_12 : decode cX10_endOfToken 12 = .ok (.getfield 38, 3) := by decide +kernel
theorem dX10_endOfToken_15 : decode cX10_endOfToken 15 = .ok (.if_icmp .ge 21, 3) := by decide +kernel
theorem dX10_endOfToken_18 : decode cX10_endOfToken 18 = .ok (.iload_n 2, 1) := by decide +kernel
theorem dX10_endOfToken_19 : decode cX10_endOfToken 19 = .ok (.aload_n 0, 1) := by decide +kernel
theorem dX10_endOfToken_20 : decode cX10_endOfToken 20 = .ok (.iload_n 3, 1) := by decide +kernel
theorem dX10_endOfToken_21 : decode cX10_endOfToken 21 = .ok (.invokevirtual 53, 3) := by decide +kernel
theorem dX10_endOfToken_24 : decode cX10_endOfToken 24 = .ok (.invokestatic 72, 3) := by decide +kernel
theorem dX10_endOfToken_27 : decode cX10_endOfToken 27 = .ok (.ifCond .eq 9, 3) := by decide +kernel
theorem dX10_endOfToken_30 : decode cX10_endOfToken 30 = .ok (.iinc 3 1, 3) := by decide +kernel
theorem dX10_endOfToken_33 : decode cX10_endOfToken 33 = .ok (.goto (-23), 3) := by decide +kernel
theorem dX10_endOfToken_36 : decode cX10_endOfToken 36 = .ok (.iload_n 3, 1) := by decide +kernel
theorem dX10_endOfToken_37 : decode cX10_endOfToken 37 = .ok (.ireturn, 1) := by decide +kernel
set_option maxRecDepth 20000 in
theorem ggX10_goesOn_X10_isLetter : GoodIn wsX10_goesOn wsX10_isLetter := goodIn_r _ [4] (by decide +kernel) (by decide +kernel)
set_option maxRecDepth 20000 in
theorem gX10_goesOn_X10_isLetter : GoodIn wsX10_goesOn (va_wsS RX10 76 yX10_isLetter wsX10_isLetter) := goodIn_app (goodIn_of _ (by decide +kernel)) ggX10_goesOn_X10_isLetter
set_option maxRecDepth 20000 in
theorem ggX10_goesOn_X10_isDigit : GoodIn wsX10_goesOn wsX10_isDigit := goodIn_r _ [7] (by decide +kernel) (by decide +kernel)
set_option maxRecDepth 20000 in
theorem gX10_goesOn_X10_isDigit : GoodIn wsX10_goesOn (va_wsS RX10 80 yX10_isDigit wsX10_isDigit) := goodIn_app (goodIn_of _ (by decide +kernel)) ggX10_goesOn_X10_isDigit
theorem dX10_goesOn_0 : decode cX10_goesOn 0 = .ok (.iload_n 0, 1) := by decide +kernel
theorem dX10_goesOn_1 : decode cX10_goesOn 1 = .ok (.invokestatic 76, 3) := by decide +kernel
theorem dX10_goesOn_4 : decode cX10_goesOn 4 = .ok (.ifCond .eq 10, 3) := by decide +kernel
theorem dX10_goesOn_7 : decode cX10_goesOn 7 = .ok (.iload_n 1, 1) := by decide +kernel
theorem dX10_goesOn_8 : decode cX10_goesOn 8 = .ok (.invokestatic 76, 3) := by decide +kernel
theorem dX10_goesOn_11 : decode cX10_goesOn 11 = .ok (.ifCond .ne 17, 3) := by decide +kernel
theorem dX10_goesOn_14 : decode cX10_goesOn 14 = .ok (.iload_n 0, 1) := by decide +kernel
theorem dX10_goesOn_15 : decode cX10_goesOn 15 = .ok (.invokestatic 80, 3) := by decide +kernel
theorem dX10_goesOn_18 : decode cX10_goesOn 18 = .ok (.ifCond .eq 14, 3) := by decide +kernel
theorem dX10_goesOn_21 : decode cX10_goesOn 21 = .ok (.iload_n 1, 1) := by decide +kernel
theorem dX10_goesOn_22 : decode cX10_goesOn 22 = .ok (.invokestatic 80, 3) := by decide +kernel
theorem dX10_goesOn_25 : decode cX10_goesOn 25 = .ok (.ifCond .eq 7, 3) := by decide +kernel
theorem dX10_goesOn_28 : decode cX10_goesOn 28 = .ok (.iconst 1, 1) := by decide +kernel
theorem dX10_goesOn_29 : decode cX10_goesOn 29 = .ok (.goto 4, 3) := by decide +kernel
theorem dX10_goesOn_32 : decode cX10_goesOn 32 = .ok (.iconst 0, 1) := by decide +kernel
theorem dX10_goesOn_33 : decode cX10_goesOn 33 = .ok (.ireturn, 1) := by decide +kernel
set_option maxRecDepth 20000 in
theorem ggX10_worthOf_X9_byteAt : GoodIn wsX10_worthOf wsX9_byteAt := goodIn_r _ [6, 7, 8, 18, 19] (by decide +kernel) (by decide +kernel)
set_option maxRecDepth 20000 in
theorem gX10_worthOf_X9_byteAt : GoodIn wsX10_worthOf (wsV RX10 53 RX9 yX9_byteAt wsX9_byteAt) := goodIn_app (goodIn_of _ (by decide +kernel)) ggX10_worthOf_X9_byteAt
set_option maxRecDepth 20000 in
theorem ggX10_worthOf_X10_isDigit : GoodIn wsX10_worthOf wsX10_isDigit := goodIn_r _ [12] (by decide +kernel) (by decide +kernel)
set_option maxRecDepth 20000 in
theorem gX10_worthOf_X10_isDigit : GoodIn wsX10_worthOf (va_wsS RX10 80 yX10_isDigit wsX10_isDigit) := goodIn_app (goodIn_of _ (by decide +kernel)) ggX10_worthOf_X10_isDigit
set_option maxRecDepth 20000 in
theorem ggX10_worthOf_X5_withLetter : GoodIn wsX10_worthOf wsX5_withLetter := goodIn_r _ [16, 17] (by decide +kernel) (by decide +kernel)
set_option maxRecDepth 20000 in
theorem gX10_worthOf_X5_withLetter : GoodIn wsX10_worthOf (va_wsS RX10 85 yX5_withLetter wsX5_withLetter) := goodIn_app (goodIn_of _ (by decide +kernel)) ggX10_worthOf_X5_withLetter
theorem dX10_worthOf_0 : decode cX10_worthOf 0 = .ok (.lconst 0, 1) := by decide +kernel
theorem dX10_worthOf_1 : decode cX10_worthOf 1 = .ok (.lstore_n 3, 1) := by decide +kernel
theorem dX10_worthOf_2 : decode cX10_worthOf 2 = .ok (.iload_n 1, 1) := by decide +kernel
theorem dX10_worthOf_3 : decode cX10_worthOf 3 = .ok (.istore 5, 2) := by decide +kernel
theorem dX10_worthOf_5 : decode cX10_worthOf 5 = .ok (.iload 5, 2) := by decide +kernel
theorem dX10_worthOf_7 : decode cX10_worthOf 7 = .ok (.iload_n 2, 1) := by decide +kernel
theorem dX10_worthOf_8 : decode cX10_worthOf 8 = .ok (.if_icmp .ge 47, 3) := by decide +kernel
theorem dX10_worthOf_11 : decode cX10_worthOf 11 = .ok (.aload_n 0, 1) := by decide +kernel
theorem dX10_worthOf_12 : decode cX10_worthOf 12 = .ok (.iload 5, 2) := by decide +kernel
theorem dX10_worthOf_14 : decode cX10_worthOf 14 = .ok (.invokevirtual 53, 3) := by decide +kernel
theorem dX10_worthOf_17 : decode cX10_worthOf 17 = .ok (.istore 6, 2) := by decide +kernel
theorem dX10_worthOf_19 : decode cX10_worthOf 19 = .ok (.iload 6, 2) := by decide +kernel
theorem dX10_worthOf_21 : decode cX10_worthOf 21 = .ok (.invokestatic 80, 3) := by decide +kernel
theorem dX10_worthOf_24 : decode cX10_worthOf 24 = .ok (.ifCond .eq 18, 3) := by decide +kernel
theorem dX10_worthOf_27 : decode cX10_worthOf 27 = .ok (.lload_n 3, 1) := by decide +kernel
theorem dX10_worthOf_28 : decode cX10_worthOf 28 = .ok (.ldc2_w 83, 3) := by decide +kernel
theorem dX10_worthOf_31 : decode cX10_worthOf 31 = .ok (.lmul, 1) := by decide +kernel
theorem dX10_worthOf_32 : decode cX10_worthOf 32 = .ok (.iload 6, 2) := by decide +kernel
theorem dX10_worthOf_34 : decode cX10_worthOf 34 = .ok (.bipush 48, 2) := by decide +kernel
theorem dX10_worthOf_36 : decode cX10_worthOf 36 = .ok (.isub, 1) := by decide +kernel
theorem dX10_worthOf_37 : decode cX10_worthOf 37 = .ok (.i2l, 1) := by decide +kernel
theorem dX10_worthOf_38 : decode cX10_worthOf 38 = .ok (.ladd, 1) := by decide +kernel
theorem dX10_worthOf_39 : decode cX10_worthOf 39 = .ok (.goto 9, 3) := by decide +kernel
theorem dX10_worthOf_42 : decode cX10_worthOf 42 = .ok (.lload_n 3, 1) := by decide +kernel
theorem dX10_worthOf_43 : decode cX10_worthOf 43 = .ok (.iload 6, 2) := by decide +kernel
theorem dX10_worthOf_45 : decode cX10_worthOf 45 = .ok (.invokestatic 85, 3) := by decide +kernel
theorem dX10_worthOf_48 : decode cX10_worthOf 48 = .ok (.lstore_n 3, 1) := by decide +kernel
theorem dX10_worthOf_49 : decode cX10_worthOf 49 = .ok (.iinc 5 1, 3) := by decide +kernel
theorem dX10_worthOf_52 : decode cX10_worthOf 52 = .ok (.goto (-47), 3) := by decide +kernel
theorem dX10_worthOf_55 : decode cX10_worthOf 55 = .ok (.lload_n 3, 1) := by decide +kernel
theorem dX10_worthOf_56 : decode cX10_worthOf 56 = .ok (.lreturn, 1) := by decide +kernel
set_option maxRecDepth 20000 in
theorem ggX10_kindOf_X10_isLetter : GoodIn wsX10_kindOf wsX10_isLetter := goodIn_r _ [6] (by decide +kernel) (by decide +kernel)
set_option maxRecDepth 20000 in
theorem gX10_kindOf_X10_isLetter : GoodIn wsX10_kindOf (va_wsS RX10 76 yX10_isLetter wsX10_isLetter) := goodIn_app (goodIn_of _ (by decide +kernel)) ggX10_kindOf_X10_isLetter
set_option maxRecDepth 20000 in
theorem ggX10_kindOf_X5_ofWord : GoodIn wsX10_kindOf wsX5_ofWord := goodIn_r _ [10, 11, 12, 13] (by decide +kernel) (by decide +kernel)
set_option maxRecDepth 20000 in
theorem gX10_kindOf_X5_ofWord : GoodIn wsX10_kindOf (va_wsS RX10 89 yX5_ofWord wsX5_ofWord) := goodIn_app (goodIn_of _ (by decide +kernel)) ggX10_kindOf_X5_ofWord
set_option maxRecDepth 20000 in
theorem ggX10_kindOf_X10_isDigit : GoodIn wsX10_kindOf wsX10_isDigit := goodIn_r _ [16] (by decide +kernel) (by decide +kernel)
set_option maxRecDepth 20000 in
theorem gX10_kindOf_X10_isDigit : GoodIn wsX10_kindOf (va_wsS RX10 80 yX10_isDigit wsX10_isDigit) := goodIn_app (goodIn_of _ (by decide +kernel)) ggX10_kindOf_X10_isDigit
set_option maxRecDepth 20000 in
theorem ggX10_kindOf_X5_ofSign : GoodIn wsX10_kindOf wsX5_ofSign := goodIn_r _ [19, 11, 20, 21] (by decide +kernel) (by decide +kernel)
set_option maxRecDepth 20000 in
theorem gX10_kindOf_X5_ofSign : GoodIn wsX10_kindOf (va_wsS RX10 96 yX5_ofSign wsX5_ofSign) := goodIn_app (goodIn_of _ (by decide +kernel)) ggX10_kindOf_X5_ofSign
theorem dX10_kindOf_0 : decode cX10_kindOf 0 = .ok (.iload_n 0, 1) := by decide +kernel
theorem dX10_kindOf_1 : decode cX10_kindOf 1 = .ok (.invokestatic 76, 3) := by decide +kernel
theorem dX10_kindOf_4 : decode cX10_kindOf 4 = .ok (.ifCond .eq 20, 3) := by decide +kernel
theorem dX10_kindOf_7 : decode cX10_kindOf 7 = .ok (.iload_n 1, 1) := by decide +kernel
theorem dX10_kindOf_8 : decode cX10_kindOf 8 = .ok (.bipush 8, 2) := by decide +kernel
theorem dX10_kindOf_10 : decode cX10_kindOf 10 = .ok (.if_icmp .gt 10, 3) := by decide +kernel
theorem dX10_kindOf_13 : decode cX10_kindOf 13 = .ok (.lload_n 2, 1) := by decide +kernel
theorem dX10_kindOf_14 : decode cX10_kindOf 14 = .ok (.invokestatic 89, 3) := by decide +kernel
theorem dX10_kindOf_17 : decode cX10_kindOf 17 = .ok (.goto 6, 3) := by decide +kernel
theorem dX10_kindOf_20 : decode cX10_kindOf 20 = .ok (.getstatic 43, 3) := by decide +kernel
theorem dX10_kindOf_23 : decode cX10_kindOf 23 = .ok (.areturn, 1) := by decide +kernel
theorem dX10_kindOf_24 : decode cX10_kindOf 24 = .ok (.iload_n 0, 1) := by decide +kernel
theorem dX10_kindOf_25 : decode cX10_kindOf 25 = .ok (.invokestatic 80, 3) := by decide +kernel
theorem dX10_kindOf_28 : decode cX10_kindOf 28 = .ok (.ifCond .eq 18, 3) := by decide +kernel
theorem dX10_kindOf_31 : decode cX10_kindOf 31 = .ok (.iload_n 1, 1) := by decide +kernel
theorem dX10_kindOf_32 : decode cX10_kindOf 32 = .ok (.iconst 3, 1) := by decide +kernel
theorem dX10_kindOf_33 : decode cX10_kindOf 33 = .ok (.if_icmp .gt 9, 3) := by decide +kernel
theorem dX10_kindOf_36 : decode cX10_kindOf 36 = .ok (.getstatic 93, 3) := by decide +kernel
theorem dX10_kindOf_39 : decode cX10_kindOf 39 = .ok (.goto 6, 3) := by decide +kernel
theorem dX10_kindOf_42 : decode cX10_kindOf 42 = .ok (.getstatic 43, 3) := by decide +kernel
theorem dX10_kindOf_45 : decode cX10_kindOf 45 = .ok (.areturn, 1) := by decide +kernel
theorem dX10_kindOf_46 : decode cX10_kindOf 46 = .ok (.iload_n 0, 1) := by decide +kernel
theorem dX10_kindOf_47 : decode cX10_kindOf 47 = .ok (.invokestatic 96, 3) := by decide +kernel
theorem dX10_kindOf_50 : decode cX10_kindOf 50 = .ok (.areturn, 1) := by decide +kernel
theorem dX10_isLetter_0 : decode cX10_isLetter 0 = .ok (.iload_n 0, 1) := by decide +kernel
theorem dX10_isLetter_1 : decode cX10_isLetter 1 = .ok (.bipush 97, 2) := by decide +kernel
theorem dX10_isLetter_3 : decode cX10_isLetter 3 = .ok (.if_icmp .lt 13, 3) := by decide +kernel
theorem dX10_isLetter_6 : decode cX10_isLetter 6 = .ok (.iload_n 0, 1) := by decide +kernel
theorem dX10_isLetter_7 : decode cX10_isLetter 7 = .ok (.bipush 122, 2) := by decide +kernel
theorem dX10_isLetter_9 : decode cX10_isLetter 9 = .ok (.if_icmp .gt 7, 3) := by decide +kernel
theorem dX10_isLetter_12 : decode cX10_isLetter 12 = .ok (.iconst 1, 1) := by decide +kernel
theorem dX10_isLetter_13 : decode cX10_isLetter 13 = .ok (.goto 4, 3) := by decide +kernel
theorem dX10_isLetter_16 : decode cX10_isLetter 16 = .ok (.iconst 0, 1) := by decide +kernel
theorem dX10_isLetter_17 : decode cX10_isLetter 17 = .ok (.ireturn, 1) := by decide +kernel
theorem dX10_isDigit_0 : decode cX10_isDigit 0 = .ok (.iload_n 0, 1) := by decide +kernel
theorem dX10_isDigit_1 : decode cX10_isDigit 1 = .ok (.bipush 48, 2) := by decide +kernel
theorem dX10_isDigit_3 : decode cX10_isDigit 3 = .ok (.if_icmp .lt 13, 3) := by decide +kernel
theorem dX10_isDigit_6 : decode cX10_isDigit 6 = .ok (.iload_n 0, 1) := by decide +kernel
theorem dX10_isDigit_7 : decode cX10_isDigit 7 = .ok (.bipush 57, 2) := by decide +kernel
theorem dX10_isDigit_9 : decode cX10_isDigit 9 = .ok (.if_icmp .gt 7, 3) := by decide +kernel
theorem dX10_isDigit_12 : decode cX10_isDigit 12 = .ok (.iconst 1, 1) := by decide +kernel
theorem dX10_isDigit_13 : decode cX10_isDigit 13 = .ok (.goto 4, 3) := by decide +kernel
theorem dX10_isDigit_16 : decode cX10_isDigit 16 = .ok (.iconst 0, 1) := by decide +kernel
theorem dX10_isDigit_17 : decode cX10_isDigit 17 = .ok (.ireturn, 1) := by decide +kernel
theorem dX11_init_0 : decode cX11_init 0 = .ok (.aload_n 0, 1) := by decide +kernel
theorem dX11_init_1 : decode cX11_init 1 = .ok (.invokespecial 1, 3) := by decide +kernel
theorem dX11_init_4 : decode cX11_init 4 = .ok (.aload_n 0, 1) := by decide +kernel
theorem dX11_init_5 : decode cX11_init 5 = .ok (.aload_n 1, 1) := by decide +kernel
theorem dX11_init_6 : decode cX11_init 6 = .ok (.putfield 7, 3) := by decide +kernel
theorem dX11_init_9 : decode cX11_init 9 = .ok (.return_, 1) := by decide +kernel
set_option maxRecDepth 20000 in
theorem ggX12_init_X9_init : GoodIn wsX12_init wsX9_init := goodIn_r _ [24, 25, 2, 3, 26, 27, 90, 91] (by decide +kernel) (by decide +kernel)
set_option maxRecDepth 20000 in
theorem gX12_init_X9_init_n9 : GoodIn wsX12_init (wsX9_init) := ggX12_init_X9_init
set_option maxRecDepth 20000 in
theorem ggX12_init_X8_init : GoodIn wsX12_init wsX8_init := goodIn_r _ [29, 30, 2, 3, 31, 32, 33, 34, 35, 36, 37, 38, 39, 40, 41, 42, 43, 44, 45, 46, 47, 48, 49, 50, 51, 52, 53, 54, 55, 56, 57, 115, 116, 117, 118, 119, 120, 99, 100, 101, 102, 121, 122, 123, 124, 125, 126, 127] (by decide +kernel) (by decide +kernel)
set_option maxRecDepth 20000 in
theorem gX12_init_X8_init_n18 : GoodIn wsX12_init (wsX8_init) := ggX12_init_X8_init
set_option maxRecDepth 20000 in
theorem ggX12_init_X6_init : GoodIn wsX12_init wsX6_init := goodIn_r _ [60, 61, 2, 3, 62, 63, 64, 65, 66, 67, 68, 44, 69, 70, 36, 37, 71, 72, 73, 74, 75, 76, 77, 78, 79, 50, 51, 52, 46, 53, 54, 55, 56, 57, 80, 81, 82, 83, 103, 104, 105, 106, 107, 108, 109, 110, 111, 128, 129, 121, 122, 123, 124, 125, 126, 127, 130, 131, 132, 133, 134] (by decide +kernel) (by decide +kernel)
set_option maxRecDepth 20000 in
theorem gX12_init_X6_init : GoodIn wsX12_init (wsX6_init) := ggX12_init_X6_init
set_option maxRecDepth 20000 in
theorem ggX12_init_X3_init : GoodIn wsX12_init wsX3_init := goodIn_r _ [86, 87, 2, 3, 88, 89, 112, 113, 114] (by decide +kernel) (by decide +kernel)
set_option maxRecDepth 20000 in
theorem gX12_init_X3_init : GoodIn wsX12_init (wsX3_init) := ggX12_init_X3_init
theorem dX12_init_0 : decode cX12_init 0 = .ok (.aload_n 0, 1) := by decide +kernel
theorem dX12_init_1 : decode cX12_init 1 = .ok (.invokespecial 1, 3) := by decide +kernel
theorem dX12_init_4 : decode cX12_init 4 = .ok (.aload_n 0, 1) := by decide +kernel
theorem dX12_init_5 : decode cX12_init 5 = .ok (.new 7, 3) := by decide +kernel
theorem dX12_init_8 : decode cX12_init 8 = .ok (.dup, 1) := by decide +kernel
theorem dX12_init_9 : decode cX12_init 9 = .ok (.invokespecial 9, 3) := by decide +kernel
theorem dX12_init_12 : decode cX12_init 12 = .ok (.putfield 10, 3) := by decide +kernel
theorem dX12_init_15 : decode cX12_init 15 = .ok (.aload_n 0, 1) := by decide +kernel
theorem dX12_init_16 : decode cX12_init 16 = .ok (.new 16, 3) := by decide +kernel
theorem dX12_init_19 : decode cX12_init 19 = .ok (.dup, 1) := by decide +kernel
theorem dX12_init_20 : decode cX12_init 20 = .ok (.invokespecial 18, 3) := by decide +kernel
theorem dX12_init_23 : decode cX12_init 23 = .ok (.putfield 19, 3) := by decide +kernel
theorem dX12_init_26 : decode cX12_init 26 = .ok (.aload_n 0, 1) := by decide +kernel
theorem dX12_init_27 : decode cX12_init 27 = .ok (.new 23, 3) := by decide +kernel
theorem dX12_init_30 : decode cX12_init 30 = .ok (.dup, 1) := by decide +kernel
theorem dX12_init_31 : decode cX12_init 31 = .ok (.invokespecial 25, 3) := by decide +kernel
theorem dX12_init_34 : decode cX12_init 34 = .ok (.putfield 26, 3) := by decide +kernel
theorem dX12_init_37 : decode cX12_init 37 = .ok (.aload_n 0, 1) := by decide +kernel
theorem dX12_init_38 : decode cX12_init 38 = .ok (.new 30, 3) := by decide +kernel
theorem dX12_init_41 : decode cX12_init 41 = .ok (.dup, 1) := by decide +kernel
theorem dX12_init_42 : decode cX12_init 42 = .ok (.aload_n 0, 1) := by decide +kernel
theorem dX12_init_43 : decode cX12_init 43 = .ok (.getfield 26, 3) := by decide +kernel
theorem dX12_init_46 : decode cX12_init 46 = .ok (.invokespecial 32, 3) := by decide +kernel
theorem dX12_init_49 : decode cX12_init 49 = .ok (.putfield 35, 3) := by decide +kernel
theorem dX12_init_52 : decode cX12_init 52 = .ok (.aload_n 0, 1) := by decide +kernel
theorem dX12_init_53 : decode cX12_init 53 = .ok (.new 23, 3) := by decide +kernel
theorem dX12_init_56 : decode cX12_init 56 = .ok (.dup, 1) := by decide +kernel
theorem dX12_init_57 : decode cX12_init 57 = .ok (.invokespecial 25, 3) := by decide +kernel
theorem dX12_init_60 : decode cX12_init 60 = .ok (.putfield 39, 3) := by decide +kernel
theorem dX12_init_63 : decode cX12_init 63 = .ok (.aload_n 0, 1) := by decide +kernel
theorem dX12_init_64 : decode cX12_init 64 = .ok (.new 30, 3) := by decide +kernel
theorem dX12_init_67 : decode cX12_init 67 = .ok (.dup, 1) := by decide +kernel
theorem dX12_init_68 : decode cX12_init 68 = .ok (.aload_n 0, 1) := by decide +kernel
theorem dX12_init_69 : decode cX12_init 69 = .ok (.getfield 39, 3) := by decide +kernel
theorem dX12_init_72 : decode cX12_init 72 = .ok (.invokespecial 32, 3) := by decide +kernel
theorem dX12_init_75 : decode cX12_init 75 = .ok (.putfield 42, 3) := by decide +kernel
theorem dX12_init_78 : decode cX12_init 78 = .ok (.aload_n 0, 1) := by decide +kernel
theorem dX12_init_79 : decode cX12_init 79 = .ok (.iconst (-1), 1) := by decide +kernel
theorem dX12_init_80 : decode cX12_init 80 = .ok (.putfield 45, 3) := by decide +kernel
theorem dX12_init_83 : decode cX12_init 83 = .ok (.return_, 1) := by decide +kernel
set_option maxRecDepth 20000 in
theorem ggX12_feed_X9_append : GoodIn wsX12_feed wsX9_append := goodIn_r _ [8, 9, 10, 18, 19] (by decide +kernel) (by decide +kernel)
set_option maxRecDepth 20000 in
theorem gX12_feed_X9_append : GoodIn wsX12_feed (wsV RX12 59 RX9 yX9_append wsX9_append) := goodIn_app (goodIn_of _ (by decide +kernel)) ggX12_feed_X9_append
theorem dX12_feed_0 : decode cX12_feed 0 = .ok (.aload_n 0, 1) := by decide +kernel
theorem dX12_feed_1 : decode cX12_feed 1 = .ok (.getfield 10, 3) := by decide +kernel
theorem dX12_feed_4 : decode cX12_feed 4 = .ok (.getfield 49, 3) := by decide +kernel
theorem dX12_feed_7 : decode cX12_feed 7 = .ok (.bipush 20, 2) := by decide +kernel
theorem dX12_feed_9 : decode cX12_feed 9 = .ok (.iadd, 1) := by decide +kernel
theorem dX12_feed_10 : decode cX12_feed 10 = .ok (.sipush 1600, 3) := by decide +kernel
theorem dX12_feed_13 : decode cX12_feed 13 = .ok (.if_icmp .le 13, 3) := by decide +kernel
theorem dX12_feed_16 : decode cX12_feed 16 = .ok (.new 52, 3) := by decide +kernel
theorem dX12_feed_19 : decode cX12_feed 19 = .ok (.dup, 1) := by decide +kernel
theorem dX12_feed_20 : decode cX12_feed 20 = .ok (.ldc 54, 2) := by decide +kernel
theorem dX12_feed_22 : decode cX12_feed 22 = .ok (.invokespecial 56, 3) := by decide +kernel
theorem dX12_feed_25 : decode cX12_feed 25 = .ok (.athrow, 1) := by decide +kernel
theorem dX12_feed_26 : decode cX12_feed 26 = .ok (.aload_n 0, 1) := by decide +kernel
theorem dX12_feed_27 : decode cX12_feed 27 = .ok (.getfield 10, 3) := by decide +kernel
theorem dX12_feed_30 : decode cX12_feed 30 = .ok (.iload_n 1, 1) := by decide +kernel
theorem dX12_feed_31 : decode cX12_feed 31 = .ok (.invokevirtual 59, 3) := by decide +kernel
theorem dX12_feed_34 : decode cX12_feed 34 = .ok (.aload_n 0, 1) := by decide +kernel
theorem dX12_feed_35 : decode cX12_feed 35 = .ok (.getfield 10, 3) := by decide +kernel
theorem dX12_feed_38 : decode cX12_feed 38 = .ok (.iload_n 2, 1) := by decide +kernel
theorem dX12_feed_39 : decode cX12_feed 39 = .ok (.invokevirtual 59, 3) := by decide +kernel
theorem dX12_feed_42 : decode cX12_feed 42 = .ok (.aload_n 0, 1) := by decide +kernel
theorem dX12_feed_43 : decode cX12_feed 43 = .ok (.getfield 10, 3) := by decide +kernel
theorem dX12_feed_46 : decode cX12_feed 46 = .ok (.iload_n 3, 1) := by decide +kernel
theorem dX12_feed_47 : decode cX12_feed 47 = .ok (.invokevirtual 59, 3) := by decide +kernel
theorem dX12_feed_50 : decode cX12_feed 50 = .ok (.aload_n 0, 1) := by decide +kernel
theorem dX12_feed_51 : decode cX12_feed 51 = .ok (.getfield 10, 3) := by decide +kernel
theorem dX12_feed_54 : decode cX12_feed 54 = .ok (.iload 4, 2) := by decide +kernel
theorem dX12_feed_56 : decode cX12_feed 56 = .ok (.invokevirtual 59, 3) := by decide +kernel
theorem dX12_feed_59 : decode cX12_feed 59 = .ok (.aload_n 0, 1) := by decide +kernel
theorem dX12_feed_60 : decode cX12_feed 60 = .ok (.getfield 10, 3) := by decide +kernel
theorem dX12_feed_63 : decode cX12_feed 63 = .ok (.iload 5, 2) := by decide +kernel
theorem dX12_feed_65 : decode cX12_feed 65 = .ok (.invokevirtual 59, 3) := by decide +kernel
theorem dX12_feed_68 : decode cX12_feed 68 = .ok (.aload_n 0, 1) := by decide +kernel
theorem dX12_feed_69 : decode cX12_feed 69 = .ok (.getfield 10, 3) := by decide +kernel
theorem dX12_feed_72 : decode cX12_feed 72 = .ok (.getfield 49, 3) := by decide +kernel
theorem dX12_feed_75 : decode cX12_feed 75 = .ok (.ireturn, 1) := by decide +kernel
set_option maxRecDepth 20000 in
theorem ggX12_trim_X12_requireWithin : GoodIn wsX12_trim wsX12_requireWithin := goodIn_ca (goodIn_r _ [5, 6, 7] (by decide +kernel) (by decide +kernel)) (goodIn_sub (fun _ h => List.mem_cons_of_mem _ (List.mem_append_right _ h)) (by decide +kernel))
set_option maxRecDepth 20000 in
theorem gX12_trim_X12_requireWithin : GoodIn wsX12_trim (va_wsS RX12 63 yX12_requireWithin wsX12_requireWithin) := goodIn_app (goodIn_of _ (by decide +kernel)) ggX12_trim_X12_requireWithin
theorem dX12_trim_0 : decode cX12_trim 0 = .ok (.iload_n 1, 1) := by decide +kernel
theorem dX12_trim_1 : decode cX12_trim 1 = .ok (.iconst 0, 1) := by decide +kernel
theorem dX12_trim_2 : decode cX12_trim 2 = .ok (.aload_n 0, 1) := by decide +kernel
theorem dX12_trim_3 : decode cX12_trim 3 = .ok (.getfield 10, 3) := by decide +kernel
theorem dX12_trim_6 : decode cX12_trim 6 = .ok (.getfield 49, 3) := by decide +kernel
theorem dX12_trim_9 : decode cX12_trim 9 = .ok (.invokestatic 63, 3) := by decide +kernel
theorem dX12_trim_12 : decode cX12_trim 12 = .ok (.aload_n 0, 1) := by decide +kernel
theorem dX12_trim_13 : decode cX12_trim 13 = .ok (.getfield 10, 3) := by decide +kernel
theorem dX12_trim_16 : decode cX12_trim 16 = .ok (.iload_n 1, 1) := by decide +kernel
theorem dX12_trim_17 : decode cX12_trim 17 = .ok (.putfield 49, 3) := by decide +kernel
theorem dX12_trim_20 : decode cX12_trim 20 = .ok (.iload_n 1, 1) := by decide +kernel
theorem dX12_trim_21 : decode cX12_trim 21 = .ok (.ireturn, 1) := by decide +kernel
set_option maxRecDepth 20000 in
theorem ggX12_teach_X8_readBook : GoodIn wsX12_teach wsX8_readBook := goodIn_r _ [9, 10, 11, 12, 13, 14, 15, 16, 17, 18, 19, 20, 21, 22, 23, 24, 25, 26, 27, 28, 29, 30, 31, 32, 33, 34, 35, 36, 37, 38, 39, 40, 41, 42, 43, 44, 45, 46, 47, 48, 49, 50, 51, 52, 53, 54, 55, 56, 57, 58, 59, 60, 61, 62, 63, 64, 65, 66, 67, 68, 69, 70, 71, 72, 73, 74, 75, 76, 77, 78, 79, 80, 81, 82, 83, 84, 85, 86, 87, 88, 89, 90, 91, 92, 93, 94, 95, 96, 97, 98, 99, 100, 101, 8, 102, 103, 104, 105, 106, 107, 108, 109, 110, 111, 112, 113, 114, 115, 116, 117, 118, 119, 120, 121, 122, 123, 124, 125, 126, 127, 128, 129, 130, 131, 132, 133, 134, 135, 136, 137, 138, 139, 140, 141, 142, 143, 144, 145, 146, 147, 148, 149, 150, 151, 152, 153, 154, 155, 156, 157, 158, 159, 160, 161, 162, 163, 164, 165, 166, 167, 168, 169, 170, 171, 172, 173, 174, 175, 176, 177, 178, 179, 180, 181, 182, 183, 184, 185, 186, 187, 188, 189, 190, 191, 192, 193, 194, 195, 196, 197, 198, 199, 200, 201, 202, 203, 204, 205, 206, 207, 208, 209, 210, 211, 212, 213, 214, 215, 216, 217, 218, 219, 220, 221, 222, 223, 224, 225, 226, 227, 228, 229, 230, 231, 232, 233, 234, 235, 236, 237, 238, 239, 240, 241, 242, 243, 244, 245, 246, 309, 310, 311, 312, 313, 314, 315, 305, 306, 307, 308, 316, 317, 318, 319, 320, 321, 303, 304, 322, 323, 324, 325, 326, 327, 328, 329, 330, 331, 332, 333, 334, 335] (by decide +kernel) (by decide +kernel)
set_option maxRecDepth 20000 in
theorem gX12_teach_X8_readBook : GoodIn wsX12_teach (wsV RX12 67 RX8 yX8_readBook wsX8_readBook) := goodIn_app (goodIn_of _ (by decide +kernel)) ggX12_teach_X8_readBook
set_option maxRecDepth 20000 in
theorem ggX12_teach_X8_errorPosition : GoodIn wsX12_teach wsX8_errorPosition := goodIn_r _ [250, 14, 15, 19, 251, 252, 253, 35, 254, 92, 305, 306, 307, 308, 316, 317, 318, 319, 320, 321] (by decide +kernel) (by decide +kernel)
set_option maxRecDepth 20000 in
theorem gX12_teach_X8_errorPosition : GoodIn wsX12_teach (wsV RX12 71 RX8 yX8_errorPosition wsX8_errorPosition) := goodIn_app (goodIn_of _ (by decide +kernel)) ggX12_teach_X8_errorPosition
set_option maxRecDepth 20000 in
theorem ggX12_teach_X6_begin : GoodIn wsX12_teach wsX6_begin := goodIn_r _ [259, 260, 261, 262, 263, 264, 265, 266, 267, 258, 268, 269, 270, 271, 272, 273, 274, 275, 276, 277, 278, 279, 280, 281, 282, 283, 284, 285, 286, 287, 288, 289, 290, 291, 292, 293, 294, 12, 295, 28, 336, 337, 338, 339, 340, 341, 342, 343, 344, 309, 310, 311, 312, 313, 314, 315, 345, 346, 347, 348, 349, 350, 351] (by decide +kernel) (by decide +kernel)
set_option maxRecDepth 20000 in
theorem gX12_teach_X6_begin : GoodIn wsX12_teach (wsV RX12 78 RX6 yX6_begin wsX6_begin) := goodIn_app (goodIn_of _ (by decide +kernel)) ggX12_teach_X6_begin
theorem dX12_teach_0 : decode cX12_teach 0 = .ok (.aload_n 0, 1) := by decide +kernel
theorem dX12_teach_1 : decode cX12_teach 1 = .ok (.getfield 19, 3) := by decide +kernel
theorem dX12_teach_4 : decode cX12_teach 4 = .ok (.aload_n 0, 1) := by decide +kernel
theorem dX12_teach_5 : decode cX12_teach 5 = .ok (.getfield 10, 3) := by decide +kernel
theorem dX12_teach_8 : decode cX12_teach 8 = .ok (.invokevirtual 67, 3) := by decide +kernel
theorem dX12_teach_11 : decode cX12_teach 11 = .ok (.istore_n 1, 1) := by decide +kernel
theorem dX12_teach_12 : decode cX12_teach 12 = .ok (.aload_n 0, 1) := by decide +kernel
theorem dX12_teach_13 : decode cX12_teach 13 = .ok (.aload_n 0, 1) := by decide +kernel
theorem dX12_teach_14 : decode cX12_teach 14 = .ok (.getfield 19, 3) := by decide +kernel
theorem dX12_teach_17 : decode cX12_teach 17 = .ok (.invokevirtual 71, 3) := by decide +kernel
theorem dX12_teach_20 : decode cX12_teach 20 = .ok (.putfield 45, 3) := by decide +kernel
theorem dX12_teach_23 : decode cX12_teach 23 = .ok (.aload_n 0, 1) := by decide +kernel
theorem dX12_teach_24 : decode cX12_teach 24 = .ok (.getfield 10, 3) := by decide +kernel
theorem dX12_teach_27 : decode cX12_teach 27 = .ok (.iconst 0, 1) := by decide +kernel
theorem dX12_teach_28 : decode cX12_teach 28 = .ok (.putfield 49, 3) := by decide +kernel
theorem dX12_teach_31 : decode cX12_teach 31 = .ok (.iload_n 1, 1) := by decide +kernel
theorem dX12_teach_32 : decode cX12_teach 32 = .ok (.ifCond .ne 17, 3) := by decide +kernel
theorem dX12_teach_35 : decode cX12_teach 35 = .ok (.aload_n 0, 1) := by decide +kernel
theorem dX12_teach_36 : decode cX12_teach 36 = .ok (.getfield 26, 3) := by decide +kernel
theorem dX12_teach_39 : decode cX12_teach 39 = .ok (.aload_n 0, 1) := by decide +kernel
theorem dX12_teach_40 : decode cX12_teach 40 = .ok (.getfield 19, 3) := by decide +kernel
theorem dX12_teach_43 : decode cX12_teach 43 = .ok (.getfield 74, 3) := by decide +kernel
theorem dX12_teach_46 : decode cX12_teach 46 = .ok (.invokevirtual 78, 3) := by decide +kernel
theorem dX12_teach_49 : decode cX12_teach 49 = .ok (.iload_n 1, 1) := by decide +kernel
theorem dX12_teach_50 : decode cX12_teach 50 = .ok (.ireturn, 1) := by decide +kernel
theorem dX12_pans_0 : decode cX12_pans 0 = .ok (.aload_n 0, 1) := by decide +kernel
theorem dX12_pans_1 : decode cX12_pans 1 = .ok (.getfield 26, 3) := by decide +kernel
theorem dX12_pans_4 : decode cX12_pans 4 = .ok (.getfield 82, 3) := by decide +kernel
theorem dX12_pans_7 : decode cX12_pans 7 = .ok (.getfield 83, 3) := by decide +kernel
theorem dX12_pans_10 : decode cX12_pans 10 = .ok (.ireturn, 1) := by decide +kernel
theorem dX12_recipes_0 : decode cX12_recipes 0 = .ok (.aload_n 0, 1) := by decide +kernel
theorem dX12_recipes_1 : decode cX12_recipes 1 = .ok (.getfield 26, 3) := by decide +kernel
theorem dX12_recipes_4 : decode cX12_recipes 4 = .ok (.getfield 82, 3) := by decide +kernel
theorem dX12_recipes_7 : decode cX12_recipes 7 = .ok (.getfield 88, 3) := by decide +kernel
theorem dX12_recipes_10 : decode cX12_recipes 10 = .ok (.ireturn, 1) := by decide +kernel
theorem dX12_acts_0 : decode cX12_acts 0 = .ok (.aload_n 0, 1) := by decide +kernel
theorem dX12_acts_1 : decode cX12_acts 1 = .ok (.getfield 26, 3) := by decide +kernel
theorem dX12_acts_4 : decode cX12_acts 4 = .ok (.getfield 82, 3) := by decide +kernel
theorem dX12_acts_7 : decode cX12_acts 7 = .ok (.getfield 91, 3) := by decide +kernel
theorem dX12_acts_10 : decode cX12_acts 10 = .ok (.ireturn, 1) := by decide +kernel
theorem dX12_altitude_0 : decode cX12_altitude 0 = .ok (.aload_n 0, 1) := by decide +kernel
theorem dX12_altitude_1 : decode cX12_altitude 1 = .ok (.getfield 26, 3) := by decide +kernel
theorem dX12_altitude_4 : decode cX12_altitude 4 = .ok (.getfield 94, 3) := by decide +kernel
theorem dX12_altitude_7 : decode cX12_altitude 7 = .ok (.ireturn, 1) := by decide +kernel
set_option maxRecDepth 20000 in
theorem ggX12_boilingPoint_X6_boilingHeat : GoodIn wsX12_boilingPoint wsX6_boilingHeat := goodIn_r _ [6, 7, 8, 9, 5, 10, 18, 19, 20, 21, 22, 23, 24, 25, 26] (by decide +kernel) (by decide +kernel)
set_option maxRecDepth 20000 in
theorem gX12_boilingPoint_X6_boilingHeat : GoodIn wsX12_boilingPoint (wsV RX12 97 RX6 yX6_boilingHeat wsX6_boilingHeat) := goodIn_app (goodIn_of _ (by decide +kernel)) ggX12_boilingPoint_X6_boilingHeat
theorem dX12_boilingPoint_0 : decode cX12_boilingPoint 0 = .ok (.aload_n 0, 1) := by decide +kernel
theorem dX12_boilingPoint_1 : decode cX12_boilingPoint 1 = .ok (.getfield 26, 3) := by decide +kernel
theorem dX12_boilingPoint_4 : decode cX12_boilingPoint 4 = .ok (.invokevirtual 97, 3) := by decide +kernel
theorem dX12_boilingPoint_7 : decode cX12_boilingPoint 7 = .ok (.ireturn, 1) := by decide +kernel
theorem dX12_servings_0 : decode cX12_servings 0 = .ok (.aload_n 0, 1) := by decide +kernel
theorem dX12_servings_1 : decode cX12_servings 1 = .ok (.getfield 26, 3) := by decide +kernel
theorem dX12_servings_4 : decode cX12_servings 4 = .ok (.getfield 100, 3) := by decide +kernel
theorem dX12_servings_7 : decode cX12_servings 7 = .ok (.ireturn, 1) := by decide +kernel
theorem dX12_spoon_0 : decode cX12_spoon 0 = .ok (.aload_n 0, 1) := by decide +kernel
theorem dX12_spoon_1 : decode cX12_spoon 1 = .ok (.getfield 26, 3) := by decide +kernel
theorem dX12_spoon_4 : decode cX12_spoon 4 = .ok (.getfield 103, 3) := by decide +kernel
theorem dX12_spoon_7 : decode cX12_spoon 7 = .ok (.ireturn, 1) := by decide +kernel
theorem dX12_minute_0 : decode cX12_minute 0 = .ok (.aload_n 0, 1) := by decide +kernel
theorem dX12_minute_1 : decode cX12_minute 1 = .ok (.getfield 26, 3) := by decide +kernel
theorem dX12_minute_4 : decode cX12_minute 4 = .ok (.getfield 106, 3) := by decide +kernel
theorem dX12_minute_7 : decode cX12_minute 7 = .ok (.ireturn, 1) := by decide +kernel
set_option maxRecDepth 20000 in
theorem ggX12_holdsOf_X12_requirePan : GoodIn wsX12_holdsOf wsX12_requirePan := goodIn_ca (goodIn_r _ [5, 6, 7, 8, 9, 10, 11, 12, 13, 14, 15, 21, 22, 23, 24, 25, 26, 27, 28, 29, 30, 31, 32, 33, 34, 35, 36, 37, 38, 39, 40, 41, 42, 43] (by decide +kernel) (by decide +kernel)) (goodIn_sub (fun _ h => List.mem_cons_of_mem _ (List.mem_append_right _ h)) (by decide +kernel))
set_option maxRecDepth 20000 in
theorem gX12_holdsOf_X12_requirePan : GoodIn wsX12_holdsOf (wsV RX12 109 RX12 yX12_requirePan wsX12_requirePan) := goodIn_app (goodIn_of _ (by decide +kernel)) ggX12_holdsOf_X12_requirePan
theorem dX12_holdsOf_0 : decode cX12_holdsOf 0 = .ok (.aload_n 0, 1) := by decide +kernel
theorem dX12_holdsOf_1 : decode cX12_holdsOf 1 = .ok (.iload_n 1, 1) := by decide +kernel
theorem dX12_holdsOf_2 : decode cX12_holdsOf 2 = .ok (.invokevirtual 109, 3) := by decide +kernel
theorem dX12_holdsOf_5 : decode cX12_holdsOf 5 = .ok (.getfield 113, 3) := by decide +kernel
theorem dX12_holdsOf_8 : decode cX12_holdsOf 8 = .ok (.ireturn, 1) := by decide +kernel
set_option maxRecDepth 20000 in
theorem ggX12_waterIn_X12_requirePan : GoodIn wsX12_waterIn wsX12_requirePan := goodIn_ca (goodIn_r _ [5, 6, 7, 8, 9, 10, 11, 12, 13, 14, 15, 21, 22, 23, 24, 25, 26, 27, 28, 29, 30, 31, 32, 33, 34, 35, 36, 37, 38, 39, 40, 41, 42, 43] (by decide +kernel) (by decide +kernel)) (goodIn_sub (fun _ h => List.mem_cons_of_mem _ (List.mem_append_right _ h)) (by decide +kernel))
set_option maxRecDepth 20000 in
theorem gX12_waterIn_X12_requirePan : GoodIn wsX12_waterIn (wsV RX12 109 RX12 yX12_requirePan wsX12_requirePan) := goodIn_app (goodIn_of _ (by decide +kernel)) ggX12_waterIn_X12_requirePan
theorem dX12_waterIn_0 : decode cX12_waterIn 0 = .ok (.aload_n 0, 1) := by decide +kernel
theorem dX12_waterIn_1 : decode cX12_waterIn 1 = .ok (.iload_n 1, 1) := by decide +kernel
theorem dX12_waterIn_2 : decode cX12_waterIn 2 = .ok (.invokevirtual 109, 3) := by decide +kernel
theorem dX12_waterIn_5 : decode cX12_waterIn 5 = .ok (.getfield 118, 3) := by decide +kernel
theorem dX12_waterIn_8 : decode cX12_waterIn 8 = .ok (.ireturn, 1) := by decide +kernel
set_option maxRecDepth 20000 in
theorem ggX12_mealIn_X12_requirePan : GoodIn wsX12_mealIn wsX12_requirePan := goodIn_ca (goodIn_r _ [5, 6, 7, 8, 9, 10, 11, 12, 13, 14, 15, 21, 22, 23, 24, 25, 26, 27, 28, 29, 30, 31, 32, 33, 34, 35, 36, 37, 38, 39, 40, 41, 42, 43] (by decide +kernel) (by decide +kernel)) (goodIn_sub (fun _ h => List.mem_cons_of_mem _ (List.mem_append_right _ h)) (by decide +kernel))
set_option maxRecDepth 20000 in
theorem gX12_mealIn_X12_requirePan : GoodIn wsX12_mealIn (wsV RX12 109 RX12 yX12_requirePan wsX12_requirePan) := goodIn_app (goodIn_of _ (by decide +kernel)) ggX12_mealIn_X12_requirePan
theorem dX12_mealIn_0 : decode cX12_mealIn 0 = .ok (.aload_n 0, 1) := by decide +kernel
theorem dX12_mealIn_1 : decode cX12_mealIn 1 = .ok (.iload_n 1, 1) := by decide +kernel
theorem dX12_mealIn_2 : decode cX12_mealIn 2 = .ok (.invokevirtual 109, 3) := by decide +kernel
theorem dX12_mealIn_5 : decode cX12_mealIn 5 = .ok (.getfield 121, 3) := by decide +kernel
theorem dX12_mealIn_8 : decode cX12_mealIn 8 = .ok (.ireturn, 1) := by decide +kernel
set_option maxRecDepth 20000 in
theorem ggX12_heatOf_X12_requirePan : GoodIn wsX12_heatOf wsX12_requirePan := goodIn_ca (goodIn_r _ [5, 6, 7, 8, 9, 10, 11, 12, 13, 14, 15, 21, 22, 23, 24, 25, 26, 27, 28, 29, 30, 31, 32, 33, 34, 35, 36, 37, 38, 39, 40, 41, 42, 43] (by decide +kernel) (by decide +kernel)) (goodIn_sub (fun _ h => List.mem_cons_of_mem _ (List.mem_append_right _ h)) (by decide +kernel))
set_option maxRecDepth 20000 in
theorem gX12_heatOf_X12_requirePan : GoodIn wsX12_heatOf (wsV RX12 109 RX12 yX12_requirePan wsX12_requirePan) := goodIn_app (goodIn_of _ (by decide +kernel)) ggX12_heatOf_X12_requirePan
theorem dX12_heatOf_0 : decode cX12_heatOf 0 = .ok (.aload_n 0, 1) := by decide +kernel
theorem dX12_heatOf_1 : decode cX12_heatOf 1 = .ok (.iload_n 1, 1) := by decide +kernel
theorem dX12_heatOf_2 : decode cX12_heatOf 2 = .ok (.invokevirtual 109, 3) := by decide +kernel
theorem dX12_heatOf_5 : decode cX12_heatOf 5 = .ok (.getfield 124, 3) := by decide +kernel
theorem dX12_heatOf_8 : decode cX12_heatOf 8 = .ok (.ireturn, 1) := by decide +kernel
set_option maxRecDepth 20000 in
theorem ggX12_doneIn_X12_requirePan : GoodIn wsX12_doneIn wsX12_requirePan := goodIn_ca (goodIn_r _ [5, 6, 7, 8, 9, 10, 11, 12, 13, 14, 15, 21, 22, 23, 24, 25, 26, 27, 28, 29, 30, 31, 32, 33, 34, 35, 36, 37, 38, 39, 40, 41, 42, 43] (by decide +kernel) (by decide +kernel)) (goodIn_sub (fun _ h => List.mem_cons_of_mem _ (List.mem_append_right _ h)) (by decide +kernel))
set_option maxRecDepth 20000 in
theorem gX12_doneIn_X12_requirePan : GoodIn wsX12_doneIn (wsV RX12 109 RX12 yX12_requirePan wsX12_requirePan) := goodIn_app (goodIn_of _ (by decide +kernel)) ggX12_doneIn_X12_requirePan
theorem dX12_doneIn_0 : decode cX12_doneIn 0 = .ok (.aload_n 0, 1) := by decide +kernel
theorem dX12_doneIn_1 : decode cX12_doneIn 1 = .ok (.iload_n 1, 1) := by decide +kernel
theorem dX12_doneIn_2 : decode cX12_doneIn 2 = .ok (.invokevirtual 109, 3) := by decide +kernel
theorem dX12_doneIn_5 : decode cX12_doneIn 5 = .ok (.getfield 127, 3) := by decide +kernel
theorem dX12_doneIn_8 : decode cX12_doneIn 8 = .ok (.ireturn, 1) := by decide +kernel
set_option maxRecDepth 20000 in
theorem ggX12_roomIn_X12_requirePan : GoodIn wsX12_roomIn wsX12_requirePan := goodIn_ca (goodIn_r _ [5, 6, 7, 8, 9, 10, 11, 12, 13, 14, 15, 24, 25, 26, 27, 28, 29, 30, 31, 32, 33, 34, 35, 36, 37, 38, 39, 40, 41, 42, 43, 44, 45, 46] (by decide +kernel) (by decide +kernel)) (goodIn_sub (fun _ h => List.mem_cons_of_mem _ (List.mem_append_right _ h)) (by decide +kernel))
set_option maxRecDepth 20000 in
theorem gX12_roomIn_X12_requirePan : GoodIn wsX12_roomIn (wsV RX12 109 RX12 yX12_requirePan wsX12_requirePan) := goodIn_app (goodIn_of _ (by decide +kernel)) ggX12_roomIn_X12_requirePan
set_option maxRecDepth 20000 in
theorem ggX12_roomIn_X7_space : GoodIn wsX12_roomIn wsX7_space := goodIn_r _ [20, 21, 22, 23, 47, 48, 49, 50, 51] (by decide +kernel) (by decide +kernel)
set_option maxRecDepth 20000 in
theorem gX12_roomIn_X7_space : GoodIn wsX12_roomIn (wsV RX12 130 RX7 yX7_space wsX7_space) := goodIn_app (goodIn_of _ (by decide +kernel)) ggX12_roomIn_X7_space
theorem dX12_roomIn_0 : decode cX12_roomIn 0 = .ok (.aload_n 0, 1) := by decide +kernel
theorem dX12_roomIn_1 : decode cX12_roomIn 1 = .ok (.iload_n 1, 1) := by decide +kernel
theorem dX12_roomIn_2 : decode cX12_roomIn 2 = .ok (.invokevirtual 109, 3) := by decide +kernel
theorem dX12_roomIn_5 : decode cX12_roomIn 5 = .ok (.invokevirtual 130, 3) := by decide +kernel
theorem dX12_roomIn_8 : decode cX12_roomIn 8 = .ok (.ireturn, 1) := by decide +kernel
set_option maxRecDepth 20000 in
theorem ggX12_boilingAt_X12_requireWithin : GoodIn wsX12_boilingAt wsX12_requireWithin := goodIn_ca (goodIn_r _ [4, 5, 6] (by decide +kernel) (by decide +kernel)) (goodIn_sub (fun _ h => List.mem_cons_of_mem _ (List.mem_append_right _ h)) (by decide +kernel))
set_option maxRecDepth 20000 in
theorem gX12_boilingAt_X12_requireWithin : GoodIn wsX12_boilingAt (va_wsS RX12 63 yX12_requireWithin wsX12_requireWithin) := goodIn_app (goodIn_of _ (by decide +kernel)) ggX12_boilingAt_X12_requireWithin
set_option maxRecDepth 20000 in
theorem ggX12_boilingAt_X6_boilingHeatAt : GoodIn wsX12_boilingAt wsX6_boilingHeatAt := goodIn_r _ [10] (by decide +kernel) (by decide +kernel)
set_option maxRecDepth 20000 in
theorem gX12_boilingAt_X6_boilingHeatAt : GoodIn wsX12_boilingAt (va_wsS RX12 133 yX6_boilingHeatAt wsX6_boilingHeatAt) := goodIn_app (goodIn_of _ (by decide +kernel)) ggX12_boilingAt_X6_boilingHeatAt
theorem dX12_boilingAt_0 : decode cX12_boilingAt 0 = .ok (.iload_n 1, 1) := by decide +kernel
theorem dX12_boilingAt_1 : decode cX12_boilingAt 1 = .ok (.iconst 0, 1) := by decide +kernel
theorem dX12_boilingAt_2 : decode cX12_boilingAt 2 = .ok (.bipush 60, 2) := by decide +kernel
theorem dX12_boilingAt_4 : decode cX12_boilingAt 4 = .ok (.invokestatic 63, 3) := by decide +kernel
theorem dX12_boilingAt_7 : decode cX12_boilingAt 7 = .ok (.iload_n 1, 1) := by decide +kernel
theorem dX12_boilingAt_8 : decode cX12_boilingAt 8 = .ok (.invokestatic 133, 3) := by decide +kernel
theorem dX12_boilingAt_11 : decode cX12_boilingAt 11 = .ok (.ireturn, 1) := by decide +kernel
set_option maxRecDepth 20000 in
theorem ggX12_minutesAt_X12_requireWithin : GoodIn wsX12_minutesAt wsX12_requireWithin := goodIn_ca (goodIn_r _ [4, 5, 6] (by decide +kernel) (by decide +kernel)) (goodIn_sub (fun _ h => List.mem_cons_of_mem _ (List.mem_append_right _ h)) (by decide +kernel))
set_option maxRecDepth 20000 in
theorem gX12_minutesAt_X12_requireWithin : GoodIn wsX12_minutesAt (va_wsS RX12 63 yX12_requireWithin wsX12_requireWithin) := goodIn_app (goodIn_of _ (by decide +kernel)) ggX12_minutesAt_X12_requireWithin
set_option maxRecDepth 20000 in
theorem ggX12_minutesAt_X6_boilingMinutes : GoodIn wsX12_minutesAt wsX6_boilingMinutes := goodIn_r _ [10, 11, 12, 9, 13, 14, 15, 16] (by decide +kernel) (by decide +kernel)
set_option maxRecDepth 20000 in
theorem gX12_minutesAt_X6_boilingMinutes : GoodIn wsX12_minutesAt (va_wsS RX12 137 yX6_boilingMinutes wsX6_boilingMinutes) := goodIn_app (goodIn_of _ (by decide +kernel)) ggX12_minutesAt_X6_boilingMinutes
theorem dX12_minutesAt_0 : decode cX12_minutesAt 0 = .ok (.iload_n 1, 1) := by decide +kernel
theorem dX12_minutesAt_1 : decode cX12_minutesAt 1 = .ok (.iconst 0, 1) := by decide +kernel
theorem dX12_minutesAt_2 : decode cX12_minutesAt 2 = .ok (.sipush 999, 3) := by decide +kernel
theorem dX12_minutesAt_5 : decode cX12_minutesAt 5 = .ok (.invokestatic 63, 3) := by decide +kernel
theorem dX12_minutesAt_8 : decode cX12_minutesAt 8 = .ok (.iload_n 2, 1) := by decide +kernel
theorem dX12_minutesAt_9 : decode cX12_minutesAt 9 = .ok (.iconst 0, 1) := by decide +kernel
theorem dX12_minutesAt_10 : decode cX12_minutesAt 10 = .ok (.bipush 60, 2) := by decide +kernel
theorem dX12_minutesAt_12 : decode cX12_minutesAt 12 = .ok (.invokestatic 63, 3) := by decide +kernel
theorem dX12_minutesAt_15 : decode cX12_minutesAt 15 = .ok (.iload_n 1, 1) := by decide +kernel
theorem dX12_minutesAt_16 : decode cX12_minutesAt 16 = .ok (.iload_n 2, 1) := by decide +kernel
theorem dX12_minutesAt_17 : decode cX12_minutesAt 17 = .ok (.invokestatic 137, 3) := by decide +kernel
theorem dX12_minutesAt_20 : decode cX12_minutesAt 20 = .ok (.ireturn, 1) := by decide +kernel
set_option maxRecDepth 20000 in
theorem ggX12_amountFor_X12_requireWithin : GoodIn wsX12_amountFor wsX12_requireWithin := goodIn_ca (goodIn_r _ [5, 6, 7] (by decide +kernel) (by decide +kernel)) (goodIn_sub (fun _ h => List.mem_cons_of_mem _ (List.mem_append_right _ h)) (by decide +kernel))
set_option maxRecDepth 20000 in
theorem gX12_amountFor_X12_requireWithin : GoodIn wsX12_amountFor (va_wsS RX12 63 yX12_requireWithin wsX12_requireWithin) := goodIn_app (goodIn_of _ (by decide +kernel)) ggX12_amountFor_X12_requireWithin
set_option maxRecDepth 20000 in
theorem ggX12_amountFor_X6_translated : GoodIn wsX12_amountFor wsX6_translated := goodIn_r _ [12, 13, 14, 15, 4, 16, 17, 18, 19, 20, 21, 22, 23, 24, 25, 33, 34, 35, 36, 37, 38, 39, 40, 41] (by decide +kernel) (by decide +kernel)
set_option maxRecDepth 20000 in
theorem gX12_amountFor_X6_translated : GoodIn wsX12_amountFor (wsV RX12 141 RX6 yX6_translated wsX6_translated) := goodIn_app (goodIn_of _ (by decide +kernel)) ggX12_amountFor_X6_translated
theorem dX12_amountFor_0 : decode cX12_amountFor 0 = .ok (.iload_n 1, 1) := by decide +kernel
theorem dX12_amountFor_1 : decode cX12_amountFor 1 = .ok (.iconst 0, 1) := by decide +kernel
theorem dX12_amountFor_2 : decode cX12_amountFor 2 = .ok (.sipush 999, 3) := by decide +kernel
theorem dX12_amountFor_5 : decode cX12_amountFor 5 = .ok (.invokestatic 63, 3) := by decide +kernel
theorem dX12_amountFor_8 : decode cX12_amountFor 8 = .ok (.aload_n 0, 1) := by decide +kernel
theorem dX12_amountFor_9 : decode cX12_amountFor 9 = .ok (.getfield 26, 3) := by decide +kernel
theorem dX12_amountFor_12 : decode cX12_amountFor 12 = .ok (.iload_n 1, 1) := by decide +kernel
theorem dX12_amountFor_13 : decode cX12_amountFor 13 = .ok (.invokevirtual 141, 3) := by decide +kernel
theorem dX12_amountFor_16 : decode cX12_amountFor 16 = .ok (.ireturn, 1) := by decide +kernel
theorem dX12_warnings_0 : decode cX12_warnings 0 = .ok (.aload_n 0, 1) := by decide +kernel
theorem dX12_warnings_1 : decode cX12_warnings 1 = .ok (.getfield 26, 3) := by decide +kernel
theorem dX12_warnings_4 : decode cX12_warnings 4 = .ok (.getfield 144, 3) := by decide +kernel
theorem dX12_warnings_7 : decode cX12_warnings 7 = .ok (.getfield 148, 3) := by decide +kernel
theorem dX12_warnings_10 : decode cX12_warnings 10 = .ok (.ireturn, 1) := by decide +kernel
set_option maxRecDepth 20000 in
theorem ggX12_warningsOf_X12_requireWithin : GoodIn wsX12_warningsOf wsX12_requireWithin := goodIn_ca (goodIn_r _ [5, 6, 7] (by decide +kernel) (by decide +kernel)) (goodIn_sub (fun _ h => List.mem_cons_of_mem _ (List.mem_append_right _ h)) (by decide +kernel))
set_option maxRecDepth 20000 in
theorem gX12_warningsOf_X12_requireWithin : GoodIn wsX12_warningsOf (va_wsS RX12 63 yX12_requireWithin wsX12_requireWithin) := goodIn_app (goodIn_of _ (by decide +kernel)) ggX12_warningsOf_X12_requireWithin
set_option maxRecDepth 20000 in
theorem ggX12_warningsOf_X6_warningsOfKind : GoodIn wsX12_warningsOf wsX6_warningsOfKind := goodIn_r _ [12, 13, 21, 22, 23, 24, 25, 26, 27, 28, 29] (by decide +kernel) (by decide +kernel)
set_option maxRecDepth 20000 in
theorem gX12_warningsOf_X6_warningsOfKind : GoodIn wsX12_warningsOf (wsV RX12 153 RX6 yX6_warningsOfKind wsX6_warningsOfKind) := goodIn_app (goodIn_of _ (by decide +kernel)) ggX12_warningsOf_X6_warningsOfKind
theorem dX12_warningsOf_0 : decode cX12_warningsOf 0 = .ok (.iload_n 1, 1) := by decide +kernel
theorem dX12_warningsOf_1 : decode cX12_warningsOf 1 = .ok (.iconst 1, 1) := by decide +kernel
theorem dX12_warningsOf_2 : decode cX12_warningsOf 2 = .ok (.iconst 5, 1) := by decide +kernel
theorem dX12_warningsOf_3 : decode cX12_warningsOf 3 = .ok (.invokestatic 63, 3) := by decide +kernel
theorem dX12_warningsOf_6 : decode cX12_warningsOf 6 = .ok (.aload_n 0, 1) := by decide +kernel
theorem dX12_warningsOf_7 : decode cX12_warningsOf 7 = .ok (.getfield 26, 3) := by decide +kernel
theorem dX12_warningsOf_10 : decode cX12_warningsOf 10 = .ok (.iload_n 1, 1) := by decide +kernel
theorem dX12_warningsOf_11 : decode cX12_warningsOf 11 = .ok (.invokevirtual 153, 3) := by decide +kernel
theorem dX12_warningsOf_14 : decode cX12_warningsOf 14 = .ok (.ireturn, 1) := by decide +kernel
set_option maxRecDepth 20000 in
theorem ggX12_warningAt_X4_kept : GoodIn wsX12_warningAt wsX4_kept := goodIn_r _ [6, 7, 8, 9, 10, 11, 43, 44] (by decide +kernel) (by decide +kernel)
set_option maxRecDepth 20000 in
theorem gX12_warningAt_X4_kept : GoodIn wsX12_warningAt (wsV RX12 156 RX4 yX4_kept wsX4_kept) := goodIn_app (goodIn_of _ (by decide +kernel)) ggX12_warningAt_X4_kept
set_option maxRecDepth 20000 in
theorem ggX12_warningAt_X12_requireIndex : GoodIn wsX12_warningAt wsX12_requireIndex := goodIn_ca (goodIn_r _ [15, 16, 17] (by decide +kernel) (by decide +kernel)) (goodIn_sub (fun _ h => List.mem_cons_of_mem _ (List.mem_append_right _ h)) (by decide +kernel))
set_option maxRecDepth 20000 in
theorem gX12_warningAt_X12_requireIndex : GoodIn wsX12_warningAt (va_wsS RX12 159 yX12_requireIndex wsX12_requireIndex) := goodIn_app (goodIn_of _ (by decide +kernel)) ggX12_warningAt_X12_requireIndex
set_option maxRecDepth 20000 in
theorem ggX12_warningAt_X4_recall : GoodIn wsX12_warningAt wsX4_recall := goodIn_r _ [21, 7, 22, 23, 24, 25, 26, 43, 44] (by decide +kernel) (by decide +kernel)
set_option maxRecDepth 20000 in
theorem gX12_warningAt_X4_recall : GoodIn wsX12_warningAt (wsV RX12 163 RX4 yX4_recall wsX4_recall) := goodIn_app (goodIn_of _ (by decide +kernel)) ggX12_warningAt_X4_recall
theorem dX12_warningAt_0 : decode cX12_warningAt 0 = .ok (.iload_n 1, 1) := by decide +kernel
theorem dX12_warningAt_1 : decode cX12_warningAt 1 = .ok (.aload_n 0, 1) := by decide +kernel
theorem dX12_warningAt_2 : decode cX12_warningAt 2 = .ok (.getfield 26, 3) := by decide +kernel
theorem dX12_warningAt_5 : decode cX12_warningAt 5 = .ok (.getfield 144, 3) := by decide +kernel
theorem dX12_warningAt_8 : decode cX12_warningAt 8 = .ok (.invokevirtual 156, 3) := by decide +kernel
theorem dX12_warningAt_11 : decode cX12_warningAt 11 = .ok (.invokestatic 159, 3) := by decide +kernel
theorem dX12_warningAt_14 : decode cX12_warningAt 14 = .ok (.aload_n 0, 1) := by decide +kernel
theorem dX12_warningAt_15 : decode cX12_warningAt 15 = .ok (.getfield 26, 3) := by decide +kernel
theorem dX12_warningAt_18 : decode cX12_warningAt 18 = .ok (.getfield 144, 3) := by decide +kernel
theorem dX12_warningAt_21 : decode cX12_warningAt 21 = .ok (.iload_n 1, 1) := by decide +kernel
theorem dX12_warningAt_22 : decode cX12_warningAt 22 = .ok (.invokevirtual 163, 3) := by decide +kernel
theorem dX12_warningAt_25 : decode cX12_warningAt 25 = .ok (.ireturn, 1) := by decide +kernel
theorem dX12_notes_0 : decode cX12_notes 0 = .ok (.aload_n 0, 1) := by decide +kernel
theorem dX12_notes_1 : decode cX12_notes 1 = .ok (.getfield 26, 3) := by decide +kernel
theorem dX12_notes_4 : decode cX12_notes 4 = .ok (.getfield 166, 3) := by decide +kernel
theorem dX12_notes_7 : decode cX12_notes 7 = .ok (.getfield 148, 3) := by decide +kernel
theorem dX12_notes_10 : decode cX12_notes 10 = .ok (.ireturn, 1) := by decide +kernel
set_option maxRecDepth 20000 in
theorem ggX12_noteAt_X4_kept : GoodIn wsX12_noteAt wsX4_kept := goodIn_r _ [6, 7, 8, 9, 10, 11, 43, 44] (by decide +kernel) (by decide +kernel)
set_option maxRecDepth 20000 in
theorem gX12_noteAt_X4_kept : GoodIn wsX12_noteAt (wsV RX12 156 RX4 yX4_kept wsX4_kept) := goodIn_app (goodIn_of _ (by decide +kernel)) ggX12_noteAt_X4_kept
set_option maxRecDepth 20000 in
theorem ggX12_noteAt_X12_requireIndex : GoodIn wsX12_noteAt wsX12_requireIndex := goodIn_ca (goodIn_r _ [15, 16, 17] (by decide +kernel) (by decide +kernel)) (goodIn_sub (fun _ h => List.mem_cons_of_mem _ (List.mem_append_right _ h)) (by decide +kernel))
set_option maxRecDepth 20000 in
theorem gX12_noteAt_X12_requireIndex : GoodIn wsX12_noteAt (va_wsS RX12 159 yX12_requireIndex wsX12_requireIndex) := goodIn_app (goodIn_of _ (by decide +kernel)) ggX12_noteAt_X12_requireIndex
set_option maxRecDepth 20000 in
theorem ggX12_noteAt_X4_recall : GoodIn wsX12_noteAt wsX4_recall := goodIn_r _ [21, 7, 22, 23, 24, 25, 26, 43, 44] (by decide +kernel) (by decide +kernel)
set_option maxRecDepth 20000 in
theorem gX12_noteAt_X4_recall : GoodIn wsX12_noteAt (wsV RX12 163 RX4 yX4_recall wsX4_recall) := goodIn_app (goodIn_of _ (by decide +kernel)) ggX12_noteAt_X4_recall
theorem dX12_noteAt_0 : decode cX12_noteAt 0 = .ok (.iload_n 1, 1) := by decide +kernel
theorem dX12_noteAt_1 : decode cX12_noteAt 1 = .ok (.aload_n 0, 1) := by decide +kernel
theorem dX12_noteAt_2 : decode cX12_noteAt 2 = .ok (.getfield 26, 3) := by decide +kernel
theorem dX12_noteAt_5 : decode cX12_noteAt 5 = .ok (.getfield 166, 3) := by decide +kernel
theorem dX12_noteAt_8 : decode cX12_noteAt 8 = .ok (.invokevirtual 156, 3) := by decide +kernel
theorem dX12_noteAt_11 : decode cX12_noteAt 11 = .ok (.invokestatic 159, 3) := by decide +kernel
theorem dX12_noteAt_14 : decode cX12_noteAt 14 = .ok (.aload_n 0, 1) := by decide +kernel
theorem dX12_noteAt_15 : decode cX12_noteAt 15 = .ok (.getfield 26, 3) := by decide +kernel
theorem dX12_noteAt_18 : decode cX12_noteAt 18 = .ok (.getfield 166, 3) := by decide +kernel
theorem dX12_noteAt_21 : decode cX12_noteAt 21 = .ok (.iload_n 1, 1) := by decide +kernel
theorem dX12_noteAt_22 : decode cX12_noteAt 22 = .ok (.invokevirtual 163, 3) := by decide +kernel
theorem dX12_noteAt_25 : decode cX12_noteAt 25 = .ok (.ireturn, 1) := by decide +kernel
set_option maxRecDepth 20000 in
theorem ggX12_setAltitude_X12_requireWithin : GoodIn wsX12_setAltitude wsX12_requireWithin := goodIn_ca (goodIn_r _ [5, 6, 7] (by decide +kernel) (by decide +kernel)) (goodIn_sub (fun _ h => List.mem_cons_of_mem _ (List.mem_append_right _ h)) (by decide +kernel))
set_option maxRecDepth 20000 in
theorem gX12_setAltitude_X12_requireWithin : GoodIn wsX12_setAltitude (va_wsS RX12 63 yX12_requireWithin wsX12_requireWithin) := goodIn_app (goodIn_of _ (by decide +kernel)) ggX12_setAltitude_X12_requireWithin
set_option maxRecDepth 20000 in
theorem ggX12_setAltitude_X6_moveTo : GoodIn wsX12_setAltitude wsX6_moveTo := goodIn_r _ [12, 13, 14, 15, 16, 17, 18, 19, 20, 21, 11, 22, 23, 24, 25, 26, 27, 28, 29, 30, 38, 39, 40, 41, 42, 43, 44, 45, 46, 47, 48, 49, 50, 51, 52, 53, 54, 55, 56, 57, 58] (by decide +kernel) (by decide +kernel)
set_option maxRecDepth 20000 in
theorem gX12_setAltitude_X6_moveTo : GoodIn wsX12_setAltitude (wsV RX12 169 RX6 yX6_moveTo wsX6_moveTo) := goodIn_app (goodIn_of _ (by decide +kernel)) ggX12_setAltitude_X6_moveTo
theorem dX12_setAltitude_0 : decode cX12_setAltitude 0 = .ok (.iload_n 1, 1) := by decide +kernel
theorem dX12_setAltitude_1 : decode cX12_setAltitude 1 = .ok (.iconst 0, 1) := by decide +kernel
theorem dX12_setAltitude_2 : decode cX12_setAltitude 2 = .ok (.bipush 60, 2) := by decide +kernel
theorem dX12_setAltitude_4 : decode cX12_setAltitude 4 = .ok (.invokestatic 63, 3) := by decide +kernel
theorem dX12_setAltitude_7 : decode cX12_setAltitude 7 = .ok (.aload_n 0, 1) := by decide +kernel
theorem dX12_setAltitude_8 : decode cX12_setAltitude 8 = .ok (.getfield 26, 3) := by decide +kernel
theorem dX12_setAltitude_11 : decode cX12_setAltitude 11 = .ok (.getfield 94, 3) := by decide +kernel
theorem dX12_setAltitude_14 : decode cX12_setAltitude 14 = .ok (.istore_n 2, 1) := by decide +kernel
theorem dX12_setAltitude_15 : decode cX12_setAltitude 15 = .ok (.aload_n 0, 1) := by decide +kernel
theorem dX12_setAltitude_16 : decode cX12_setAltitude 16 = .ok (.getfield 26, 3) := by decide +kernel
theorem dX12_setAltitude_19 : decode cX12_setAltitude 19 = .ok (.iload_n 1, 1) := by decide +kernel
theorem dX12_setAltitude_20 : decode cX12_setAltitude 20 = .ok (.invokevirtual 169, 3) := by decide +kernel
theorem dX12_setAltitude_23 : decode cX12_setAltitude 23 = .ok (.iload_n 2, 1) := by decide +kernel
theorem dX12_setAltitude_24 : decode cX12_setAltitude 24 = .ok (.ireturn, 1) := by decide +kernel
set_option maxRecDepth 20000 in
theorem ggX12_setServings_X12_requireWithin : GoodIn wsX12_setServings wsX12_requireWithin := goodIn_ca (goodIn_r _ [5, 6, 7] (by decide +kernel) (by decide +kernel)) (goodIn_sub (fun _ h => List.mem_cons_of_mem _ (List.mem_append_right _ h)) (by decide +kernel))
set_option maxRecDepth 20000 in
theorem gX12_setServings_X12_requireWithin : GoodIn wsX12_setServings (va_wsS RX12 63 yX12_requireWithin wsX12_requireWithin) := goodIn_app (goodIn_of _ (by decide +kernel)) ggX12_setServings_X12_requireWithin
theorem dX12_setServings_0 : decode cX12_setServings 0 = .ok (.iload_n 1, 1) := by decide +kernel
theorem dX12_setServings_1 : decode cX12_setServings 1 = .ok (.iconst 1, 1) := by decide +kernel
theorem dX12_setServings_2 : decode cX12_setServings 2 = .ok (.bipush 12, 2) := by decide +kernel
theorem dX12_setServings_4 : decode cX12_setServings 4 = .ok (.invokestatic 63, 3) := by decide +kernel
theorem dX12_setServings_7 : decode cX12_setServings 7 = .ok (.aload_n 0, 1) := by decide +kernel
theorem dX12_setServings_8 : decode cX12_setServings 8 = .ok (.getfield 26, 3) := by decide +kernel
theorem dX12_setServings_11 : decode cX12_setServings 11 = .ok (.getfield 100, 3) := by decide +kernel
theorem dX12_setServings_14 : decode cX12_setServings 14 = .ok (.istore_n 2, 1) := by decide +kernel
theorem dX12_setServings_15 : decode cX12_setServings 15 = .ok (.aload_n 0, 1) := by decide +kernel
theorem dX12_setServings_16 : decode cX12_setServings 16 = .ok (.getfield 26, 3) := by decide +kernel
theorem dX12_setServings_19 : decode cX12_setServings 19 = .ok (.iload_n 1, 1) := by decide +kernel
theorem dX12_setServings_20 : decode cX12_setServings 20 = .ok (.putfield 100, 3) := by decide +kernel
theorem dX12_setServings_23 : decode cX12_setServings 23 = .ok (.iload_n 2, 1) := by decide +kernel
theorem dX12_setServings_24 : decode cX12_setServings 24 = .ok (.ireturn, 1) := by decide +kernel
set_option maxRecDepth 20000 in
theorem ggX12_setSpoon_X12_requireWithin : GoodIn wsX12_setSpoon wsX12_requireWithin := goodIn_ca (goodIn_r _ [5, 6, 7] (by decide +kernel) (by decide +kernel)) (goodIn_sub (fun _ h => List.mem_cons_of_mem _ (List.mem_append_right _ h)) (by decide +kernel))
set_option maxRecDepth 20000 in
theorem gX12_setSpoon_X12_requireWithin : GoodIn wsX12_setSpoon (va_wsS RX12 63 yX12_requireWithin wsX12_requireWithin) := goodIn_app (goodIn_of _ (by decide +kernel)) ggX12_setSpoon_X12_requireWithin
theorem dX12_setSpoon_0 : decode cX12_setSpoon 0 = .ok (.iload_n 1, 1) := by decide +kernel
theorem dX12_setSpoon_1 : decode cX12_setSpoon 1 = .ok (.iconst 1, 1) := by decide +kernel
theorem dX12_setSpoon_2 : decode cX12_setSpoon 2 = .ok (.bipush 10, 2) := by decide +kernel
theorem dX12_setSpoon_4 : decode cX12_setSpoon 4 = .ok (.invokestatic 63, 3) := by decide +kernel
theorem dX12_setSpoon_7 : decode cX12_setSpoon 7 = .ok (.aload_n 0, 1) := by decide +kernel
theorem dX12_setSpoon_8 : decode cX12_setSpoon 8 = .ok (.getfield 26, 3) := by decide +kernel
theorem dX12_setSpoon_11 : decode cX12_setSpoon 11 = .ok (.getfield 103, 3) := by decide +kernel
theorem dX12_setSpoon_14 : decode cX12_setSpoon 14 = .ok (.istore_n 2, 1) := by decide +kernel
theorem dX12_setSpoon_15 : decode cX12_setSpoon 15 = .ok (.aload_n 0, 1) := by decide +kernel
theorem dX12_setSpoon_16 : decode cX12_setSpoon 16 = .ok (.getfield 26, 3) := by decide +kernel
theorem dX12_setSpoon_19 : decode cX12_setSpoon 19 = .ok (.iload_n 1, 1) := by decide +kernel
theorem dX12_setSpoon_20 : decode cX12_setSpoon 20 = .ok (.putfield 103, 3) := by decide +kernel
theorem dX12_setSpoon_23 : decode cX12_setSpoon 23 = .ok (.iload_n 2, 1) := by decide +kernel
theorem dX12_setSpoon_24 : decode cX12_setSpoon 24 = .ok (.ireturn, 1) := by decide +kernel
set_option maxRecDepth 20000 in
theorem ggX12_pourWater_X12_requirePan : GoodIn wsX12_pourWater wsX12_requirePan := goodIn_ca (goodIn_r _ [5, 6, 7, 8, 9, 10, 11, 12, 13, 14, 15, 45, 46, 47, 48, 49, 50, 51, 52, 53, 54, 55, 56, 57, 58, 59, 60, 61, 62, 63, 64, 65, 66, 67] (by decide +kernel) (by decide +kernel)) (goodIn_sub (fun _ h => List.mem_cons_of_mem _ (List.mem_append_left _ (List.mem_append_right _ h))) (by decide +kernel))
set_option maxRecDepth 20000 in
theorem gX12_pourWater_X12_requirePan : GoodIn wsX12_pourWater (wsV RX12 109 RX12 yX12_requirePan wsX12_requirePan) := goodIn_app (goodIn_of _ (by decide +kernel)) ggX12_pourWater_X12_requirePan
set_option maxRecDepth 20000 in
theorem ggX12_pourWater_X12_requireWithin : GoodIn wsX12_pourWater wsX12_requireWithin := goodIn_ca (goodIn_r _ [18, 19, 20] (by decide +kernel) (by decide +kernel)) (goodIn_sub (fun _ h => List.mem_cons_of_mem _ (List.mem_append_right _ h)) (by decide +kernel))
set_option maxRecDepth 20000 in
theorem gX12_pourWater_X12_requireWithin : GoodIn wsX12_pourWater (va_wsS RX12 63 yX12_requireWithin wsX12_requireWithin) := goodIn_app (goodIn_of _ (by decide +kernel)) ggX12_pourWater_X12_requireWithin
set_option maxRecDepth 20000 in
theorem ggX12_pourWater_X7_fill : GoodIn wsX12_pourWater wsX7_fill := goodIn_r _ [25, 26, 27, 28, 29, 30, 31, 32, 33, 34, 35, 36, 24, 37, 38, 39, 40, 41, 42, 43, 4, 44, 68, 69, 70, 71, 72] (by decide +kernel) (by decide +kernel)
set_option maxRecDepth 20000 in
theorem gX12_pourWater_X7_fill : GoodIn wsX12_pourWater (wsV RX12 172 RX7 yX7_fill wsX7_fill) := goodIn_app (goodIn_of _ (by decide +kernel)) ggX12_pourWater_X7_fill
theorem dX12_pourWater_0 : decode cX12_pourWater 0 = .ok (.aload_n 0, 1) := by decide +kernel
theorem dX12_pourWater_1 : decode cX12_pourWater 1 = .ok (.iload_n 1, 1) := by decide +kernel
theorem dX12_pourWater_2 : decode cX12_pourWater 2 = .ok (.invokevirtual 109, 3) := by decide +kernel
theorem dX12_pourWater_5 : decode cX12_pourWater 5 = .ok (.astore_n 3, 1) := by decide +kernel
theorem dX12_pourWater_6 : decode cX12_pourWater 6 = .ok (.iload_n 2, 1) := by decide +kernel
theorem dX12_pourWater_7 : decode cX12_pourWater 7 = .ok (.iconst 1, 1) := by decide +kernel
theorem dX12_pourWater_8 : decode cX12_pourWater 8 = .ok (.sipush 200, 3) := by decide +kernel
theorem dX12_pourWater_11 : decode cX12_pourWater 11 = .ok (.invokestatic 63, 3) := by decide +kernel
theorem dX12_pourWater_14 : decode cX12_pourWater 14 = .ok (.aload_n 3, 1) := by decide +kernel
theorem dX12_pourWater_15 : decode cX12_pourWater 15 = .ok (.iload_n 2, 1) := by decide +kernel
theorem dX12_pourWater_16 : decode cX12_pourWater 16 = .ok (.iconst 0, 1) := by decide +kernel
theorem dX12_pourWater_17 : decode cX12_pourWater 17 = .ok (.invokevirtual 172, 3) := by decide +kernel
theorem dX12_pourWater_20 : decode cX12_pourWater 20 = .ok (.ireturn, 1) := by decide +kernel
set_option maxRecDepth 20000 in
theorem ggX12_pourMeal_X12_requirePan : GoodIn wsX12_pourMeal wsX12_requirePan := goodIn_ca (goodIn_r _ [5, 6, 7, 8, 9, 10, 11, 12, 13, 14, 15, 45, 46, 47, 48, 49, 50, 51, 52, 53, 54, 55, 56, 57, 58, 59, 60, 61, 62, 63, 64, 65, 66, 67] (by decide +kernel) (by decide +kernel)) (goodIn_sub (fun _ h => List.mem_cons_of_mem _ (List.mem_append_left _ (List.mem_append_right _ h))) (by decide +kernel))
set_option maxRecDepth 20000 in
theorem gX12_pourMeal_X12_requirePan : GoodIn wsX12_pourMeal (wsV RX12 109 RX12 yX12_requirePan wsX12_requirePan) := goodIn_app (goodIn_of _ (by decide +kernel)) ggX12_pourMeal_X12_requirePan
set_option maxRecDepth 20000 in
theorem ggX12_pourMeal_X12_requireWithin : GoodIn wsX12_pourMeal wsX12_requireWithin := goodIn_ca (goodIn_r _ [18, 19, 20] (by decide +kernel) (by decide +kernel)) (goodIn_sub (fun _ h => List.mem_cons_of_mem _ (List.mem_append_right _ h)) (by decide +kernel))
set_option maxRecDepth 20000 in
theorem gX12_pourMeal_X12_requireWithin : GoodIn wsX12_pourMeal (va_wsS RX12 63 yX12_requireWithin wsX12_requireWithin) := goodIn_app (goodIn_of _ (by decide +kernel)) ggX12_pourMeal_X12_requireWithin
set_option maxRecDepth 20000 in
theorem ggX12_pourMeal_X7_fill : GoodIn wsX12_pourMeal wsX7_fill := goodIn_r _ [25, 26, 27, 28, 29, 30, 31, 32, 33, 34, 35, 36, 24, 37, 38, 39, 40, 41, 42, 43, 4, 44, 68, 69, 70, 71, 72] (by decide +kernel) (by decide +kernel)
set_option maxRecDepth 20000 in
theorem gX12_pourMeal_X7_fill : GoodIn wsX12_pourMeal (wsV RX12 172 RX7 yX7_fill wsX7_fill) := goodIn_app (goodIn_of _ (by decide +kernel)) ggX12_pourMeal_X7_fill
theorem dX12_pourMeal_0 : decode cX12_pourMeal 0 = .ok (.aload_n 0, 1) := by decide +kernel
theorem dX12_pourMeal_1 : decode cX12_pourMeal 1 = .ok (.iload_n 1, 1) := by decide +kernel
theorem dX12_pourMeal_2 : decode cX12_pourMeal 2 = .ok (.invokevirtual 109, 3) := by decide +kernel
theorem dX12_pourMeal_5 : decode cX12_pourMeal 5 = .ok (.astore_n 3, 1) := by decide +kernel
theorem dX12_pourMeal_6 : decode cX12_pourMeal 6 = .ok (.iload_n 2, 1) := by decide +kernel
theorem dX12_pourMeal_7 : decode cX12_pourMeal 7 = .ok (.iconst 1, 1) := by decide +kernel
theorem dX12_pourMeal_8 : decode cX12_pourMeal 8 = .ok (.sipush 200, 3) := by decide +kernel
theorem dX12_pourMeal_11 : decode cX12_pourMeal 11 = .ok (.invokestatic 63, 3) := by decide +kernel
theorem dX12_pourMeal_14 : decode cX12_pourMeal 14 = .ok (.aload_n 3, 1) := by decide +kernel
theorem dX12_pourMeal_15 : decode cX12_pourMeal 15 = .ok (.iload_n 2, 1) := by decide +kernel
theorem dX12_pourMeal_16 : decode cX12_pourMeal 16 = .ok (.iconst 1, 1) := by decide +kernel
theorem dX12_pourMeal_17 : decode cX12_pourMeal 17 = .ok (.invokevirtual 172, 3) := by decide +kernel
theorem dX12_pourMeal_20 : decode cX12_pourMeal 20 = .ok (.ireturn, 1) := by decide +kernel
set_option maxRecDepth 20000 in
theorem ggX12_wash_X12_requirePan : GoodIn wsX12_wash wsX12_requirePan := goodIn_ca (goodIn_r _ [5, 6, 7, 8, 9, 10, 11, 12, 13, 14, 15, 29, 30, 31, 32, 33, 34, 35, 36, 37, 38, 39, 40, 41, 42, 43, 44, 45, 46, 47, 48, 49, 50, 51] (by decide +kernel) (by decide +kernel)) (goodIn_sub (fun _ h => List.mem_cons_of_mem _ (List.mem_append_right _ h)) (by decide +kernel))
set_option maxRecDepth 20000 in
theorem gX12_wash_X12_requirePan : GoodIn wsX12_wash (wsV RX12 109 RX12 yX12_requirePan wsX12_requirePan) := goodIn_app (goodIn_of _ (by decide +kernel)) ggX12_wash_X12_requirePan
set_option maxRecDepth 20000 in
theorem ggX12_wash_X7_inside : GoodIn wsX12_wash wsX7_inside := goodIn_r _ [20, 21, 22, 52, 53, 54, 55, 56] (by decide +kernel) (by decide +kernel)
set_option maxRecDepth 20000 in
theorem gX12_wash_X7_inside : GoodIn wsX12_wash (wsV RX12 176 RX7 yX7_inside wsX7_inside) := goodIn_app (goodIn_of _ (by decide +kernel)) ggX12_wash_X7_inside
set_option maxRecDepth 20000 in
theorem ggX12_wash_X7_clear : GoodIn wsX12_wash wsX7_clear := goodIn_r _ [26, 21, 22, 27, 28, 52, 53, 54, 55, 56] (by decide +kernel) (by decide +kernel)
set_option maxRecDepth 20000 in
theorem gX12_wash_X7_clear : GoodIn wsX12_wash (wsV RX12 179 RX7 yX7_clear wsX7_clear) := goodIn_app (goodIn_of _ (by decide +kernel)) ggX12_wash_X7_clear
theorem dX12_wash_0 : decode cX12_wash 0 = .ok (.aload_n 0, 1) := by decide +kernel
theorem dX12_wash_1 : decode cX12_wash 1 = .ok (.iload_n 1, 1) := by decide +kernel
theorem dX12_wash_2 : decode cX12_wash 2 = .ok (.invokevirtual 109, 3) := by decide +kernel
theorem dX12_wash_5 : decode cX12_wash 5 = .ok (.astore_n 2, 1) := by decide +kernel
theorem dX12_wash_6 : decode cX12_wash 6 = .ok (.aload_n 2, 1) := by decide +kernel
theorem dX12_wash_7 : decode cX12_wash 7 = .ok (.invokevirtual 176, 3) := by decide +kernel
theorem dX12_wash_10 : decode cX12_wash 10 = .ok (.istore_n 3, 1) := by decide +kernel
theorem dX12_wash_11 : decode cX12_wash 11 = .ok (.aload_n 2, 1) := by decide +kernel
theorem dX12_wash_12 : decode cX12_wash 12 = .ok (.invokevirtual 179, 3) := by decide +kernel
theorem dX12_wash_15 : decode cX12_wash 15 = .ok (.iload_n 3, 1) := by decide +kernel
theorem dX12_wash_16 : decode cX12_wash 16 = .ok (.ireturn, 1) := by decide +kernel
set_option maxRecDepth 20000 in
theorem ggX12_rest_X12_requireWithin : GoodIn wsX12_rest wsX12_requireWithin := goodIn_ca (goodIn_r _ [5, 6, 7] (by decide +kernel) (by decide +kernel)) (goodIn_sub (fun _ h => List.mem_cons_of_mem _ (List.mem_append_right _ h)) (by decide +kernel))
set_option maxRecDepth 20000 in
theorem gX12_rest_X12_requireWithin : GoodIn wsX12_rest (va_wsS RX12 63 yX12_requireWithin wsX12_requireWithin) := goodIn_app (goodIn_of _ (by decide +kernel)) ggX12_rest_X12_requireWithin
set_option maxRecDepth 20000 in
theorem ggX12_rest_X6_pass : GoodIn wsX12_rest wsX6_pass := goodIn_r _ [12, 13, 14, 15, 16, 17, 11, 18, 19, 20, 21, 22, 23, 24, 25, 26, 27, 28, 29, 41, 42, 43, 44, 45, 46, 47, 48, 49, 50, 51, 52, 53, 54, 55, 56, 57, 58, 59, 60, 61] (by decide +kernel) (by decide +kernel)
set_option maxRecDepth 20000 in
theorem gX12_rest_X6_pass : GoodIn wsX12_rest (wsV RX12 182 RX6 yX6_pass wsX6_pass) := goodIn_app (goodIn_of _ (by decide +kernel)) ggX12_rest_X6_pass
set_option maxRecDepth 20000 in
theorem ggX12_rest_X6_hotPans : GoodIn wsX12_rest wsX6_hotPans := goodIn_r _ [33, 14, 15, 16, 17, 11, 18, 19, 41, 42, 43, 44, 45, 46, 47, 48, 49, 50, 51, 52, 53, 54, 55, 56, 57, 58, 59, 60, 61] (by decide +kernel) (by decide +kernel)
set_option maxRecDepth 20000 in
theorem gX12_rest_X6_hotPans : GoodIn wsX12_rest (wsV RX12 186 RX6 yX6_hotPans wsX6_hotPans) := goodIn_app (goodIn_of _ (by decide +kernel)) ggX12_rest_X6_hotPans
theorem dX12_rest_0 : decode cX12_rest 0 = .ok (.iload_n 1, 1) := by decide +kernel
theorem dX12_rest_1 : decode cX12_rest 1 = .ok (.iconst 1, 1) := by decide +kernel
theorem dX12_rest_2 : decode cX12_rest 2 = .ok (.sipush 600, 3) := by decide +kernel
theorem dX12_rest_5 : decode cX12_rest 5 = .ok (.invokestatic 63, 3) := by decide +kernel
theorem dX12_rest_8 : decode cX12_rest 8 = .ok (.aload_n 0, 1) := by decide +kernel
theorem dX12_rest_9 : decode cX12_rest 9 = .ok (.getfield 26, 3) := by decide +kernel
theorem dX12_rest_12 : decode cX12_rest 12 = .ok (.iload_n 1, 1) := by decide +kernel
theorem dX12_rest_13 : decode cX12_rest 13 = .ok (.aconst_null, 1) := by decide +kernel
theorem dX12_rest_14 : decode cX12_rest 14 = .ok (.invokevirtual 182, 3) := by decide +kernel
theorem dX12_rest_17 : decode cX12_rest 17 = .ok (.aload_n 0, 1) := by decide +kernel
theorem dX12_rest_18 : decode cX12_rest 18 = .ok (.getfield 26, 3) := by decide +kernel
theorem dX12_rest_21 : decode cX12_rest 21 = .ok (.invokevirtual 186, 3) := by decide +kernel
theorem dX12_rest_24 : decode cX12_rest 24 = .ok (.ireturn, 1) := by decide +kernel
set_option maxRecDepth 20000 in
theorem ggX12_cook_X12_requireRecipe : GoodIn wsX12_cook wsX12_requireRecipe := goodIn_ca (goodIn_r _ [6, 7, 8, 9, 5, 10, 11, 12, 175, 176, 177, 178, 179, 180, 181, 182, 183, 184, 185, 186, 187, 188, 189, 190, 191, 192, 193, 194, 195, 196, 197] (by decide +kernel) (by decide +kernel)) (goodIn_sub (fun _ h => List.mem_cons_of_mem _ (List.mem_append_right _ h)) (by decide +kernel))
set_option maxRecDepth 20000 in
theorem gX12_cook_X12_requireRecipe : GoodIn wsX12_cook (wsV RX12 189 RX12 yX12_requireRecipe wsX12_requireRecipe) := goodIn_app (goodIn_of _ (by decide +kernel)) ggX12_cook_X12_requireRecipe
set_option maxRecDepth 20000 in
theorem ggX12_cook_X3_run : GoodIn wsX12_cook wsX3_run := goodIn_r _ [17, 18, 19, 20, 21, 22, 23, 24, 25, 26, 27, 28, 29, 16, 30, 31, 32, 33, 34, 35, 36, 37, 38, 39, 40, 41, 42, 43, 44, 45, 46, 47, 48, 49, 50, 51, 52, 53, 54, 55, 56, 57, 5, 58, 59, 60, 61, 62, 63, 64, 65, 66, 67, 68, 69, 70, 71, 72, 73, 74, 75, 76, 77, 78, 79, 80, 81, 82, 83, 84, 85, 86, 87, 88, 89, 90, 91, 92, 93, 94, 95, 96, 97, 98, 99, 100, 101, 102, 103, 104, 105, 106, 107, 108, 109, 110, 111, 112, 113, 114, 115, 116, 117, 118, 119, 120, 121, 122, 123, 124, 125, 126, 127, 128, 129, 130, 131, 132, 133, 134, 135, 136, 137, 138, 139, 140, 141, 142, 143, 144, 145, 146, 147, 148, 149, 150, 151, 152, 153, 154, 155, 156, 157, 158, 159, 160, 161, 162, 163, 164, 165, 166, 167, 168, 169, 170, 171, 172, 173, 174, 198, 199, 200, 182, 183, 184, 185, 186, 187, 188, 189, 190, 191, 192, 193, 194, 195, 196, 197, 201, 202, 203, 204, 205, 206, 207, 208, 209, 210, 211, 212, 213, 214, 215, 216, 217, 218, 219, 220, 221] (by decide +kernel) (by decide +kernel)
set_option maxRecDepth 20000 in
theorem gX12_cook_X3_run : GoodIn wsX12_cook (wsV RX12 192 RX3 yX3_run wsX3_run) := goodIn_app (goodIn_of _ (by decide +kernel)) ggX12_cook_X3_run
theorem dX12_cook_0 : decode cX12_cook 0 = .ok (.aload_n 0, 1) := by decide +kernel
theorem dX12_cook_1 : decode cX12_cook 1 = .ok (.iload_n 1, 1) := by decide +kernel
theorem dX12_cook_2 : decode cX12_cook 2 = .ok (.invokevirtual 189, 3) := by decide +kernel
theorem dX12_cook_5 : decode cX12_cook 5 = .ok (.aload_n 0, 1) := by decide +kernel
theorem dX12_cook_6 : decode cX12_cook 6 = .ok (.getfield 35, 3) := by decide +kernel
theorem dX12_cook_9 : decode cX12_cook 9 = .ok (.iload_n 1, 1) := by decide +kernel
theorem dX12_cook_10 : decode cX12_cook 10 = .ok (.invokevirtual 192, 3) := by decide +kernel
theorem dX12_cook_13 : decode cX12_cook 13 = .ok (.ireturn, 1) := by decide +kernel
set_option maxRecDepth 20000 in
theorem ggX12_minutesOfRecipe_X12_requireRecipe : GoodIn wsX12_minutesOfRecipe wsX12_requireRecipe := goodIn_ca (goodIn_r _ [8, 2, 9, 10, 7, 11, 12, 13, 193, 194, 195, 196, 197, 198, 199, 200, 201, 202, 203, 204, 205, 206, 207, 208, 209, 210, 211, 212, 213, 214, 215] (by decide +kernel) (by decide +kernel)) (goodIn_sub (fun _ h => List.mem_cons_of_mem _ (List.mem_append_right _ h)) (by decide +kernel))
set_option maxRecDepth 20000 in
theorem gX12_minutesOfRecipe_X12_requireRecipe : GoodIn wsX12_minutesOfRecipe (wsV RX12 189 RX12 yX12_requireRecipe wsX12_requireRecipe) := goodIn_app (goodIn_of _ (by decide +kernel)) ggX12_minutesOfRecipe_X12_requireRecipe
set_option maxRecDepth 20000 in
theorem ggX12_minutesOfRecipe_X6_become : GoodIn wsX12_minutesOfRecipe wsX6_become := goodIn_r _ [18, 19, 20, 21, 22, 23, 24, 25, 26, 17, 27, 28, 29, 30, 31, 32, 33, 34, 35, 36, 37, 38, 39, 40, 41, 42, 43, 44, 45, 46, 47, 48, 49, 50, 51, 200, 201, 202, 203, 204, 205, 206, 207, 208, 209, 210, 211, 212, 213, 214, 215, 216, 217, 218, 219, 220, 221, 222] (by decide +kernel) (by decide +kernel)
set_option maxRecDepth 20000 in
theorem gX12_minutesOfRecipe_X6_become : GoodIn wsX12_minutesOfRecipe (wsV RX12 195 RX6 yX6_become wsX6_become) := goodIn_app (goodIn_of _ (by decide +kernel)) ggX12_minutesOfRecipe_X6_become
set_option maxRecDepth 20000 in
theorem ggX12_minutesOfRecipe_X3_run : GoodIn wsX12_minutesOfRecipe wsX3_run := goodIn_r _ [56, 57, 58, 59, 60, 61, 62, 63, 64, 65, 66, 67, 68, 55, 69, 70, 71, 72, 73, 74, 75, 76, 77, 78, 79, 80, 81, 82, 83, 84, 85, 86, 87, 88, 89, 90, 91, 92, 93, 94, 95, 96, 7, 97, 98, 99, 100, 17, 101, 20, 102, 103, 104, 105, 38, 39, 40, 19, 41, 106, 107, 108, 109, 110, 111, 45, 112, 47, 48, 49, 113, 114, 115, 116, 117, 118, 119, 120, 21, 22, 121, 122, 123, 124, 125, 126, 127, 128, 129, 130, 131, 132, 133, 134, 50, 51, 135, 136, 137, 138, 139, 140, 141, 142, 143, 144, 145, 146, 147, 28, 30, 148, 149, 150, 34, 151, 36, 152, 153, 154, 155, 156, 157, 158, 159, 160, 23, 37, 161, 162, 163, 164, 165, 166, 167, 168, 169, 170, 171, 172, 173, 174, 175, 176, 177, 178, 179, 180, 181, 182, 183, 184, 185, 186, 187, 188, 189, 190, 191, 192, 223, 224, 225, 200, 201, 202, 203, 204, 205, 206, 207, 208, 209, 210, 211, 212, 213, 214, 215, 226, 227, 228, 229, 230, 231, 232, 233, 234, 235, 236, 237, 238, 239, 218, 219, 220, 221, 222, 216, 217] (by decide +kernel) (by decide +kernel)
set_option maxRecDepth 20000 in
theorem gX12_minutesOfRecipe_X3_run : GoodIn wsX12_minutesOfRecipe (wsV RX12 192 RX3 yX3_run wsX3_run) := goodIn_app (goodIn_of _ (by decide +kernel)) ggX12_minutesOfRecipe_X3_run
theorem dX12_minutesOfRecipe_0 : decode cX12_minutesOfRecipe 0 = .ok (.aload_n 0, 1) := by decide +kernel
theorem dX12_minutesOfRecipe_1 : decode cX12_minutesOfRecipe 1 = .ok (.iload_n 1, 1) := by decide +kernel
theorem dX12_minutesOfRecipe_2 : decode cX12_minutesOfRecipe 2 = .ok (.invokevirtual 189, 3) := by decide +kernel
theorem dX12_minutesOfRecipe_5 : decode cX12_minutesOfRecipe 5 = .ok (.aload_n 0, 1) := by decide +kernel
theorem dX12_minutesOfRecipe_6 : decode cX12_minutesOfRecipe 6 = .ok (.getfield 39, 3) := by decide +kernel
theorem dX12_minutesOfRecipe_9 : decode cX12_minutesOfRecipe 9 = .ok (.aload_n 0, 1) := by decide +kernel
theorem dX12_minutesOfRecipe_10 : decode cX12_minutesOfRecipe 10 = .ok (.getfield 26, 3) := by decide +kernel
theorem dX12_minutesOfRecipe_13 : decode cX12_minutesOfRecipe 13 = .ok (.invokevirtual 195, 3) := by decide +kernel
theorem dX12_minutesOfRecipe_16 : decode cX12_minutesOfRecipe 16 = .ok (.aload_n 0, 1) := by decide +kernel
theorem dX12_minutesOfRecipe_17 : decode cX12_minutesOfRecipe 17 = .ok (.getfield 42, 3) := by decide +kernel
theorem dX12_minutesOfRecipe_20 : decode cX12_minutesOfRecipe 20 = .ok (.iload_n 1, 1) := by decide +kernel
theorem dX12_minutesOfRecipe_21 : decode cX12_minutesOfRecipe 21 = .ok (.invokevirtual 192, 3) := by decide +kernel
theorem dX12_minutesOfRecipe_24 : decode cX12_minutesOfRecipe 24 = .ok (.ireturn, 1) := by decide +kernel
set_option maxRecDepth 20000 in
theorem ggX12_warningsOfRecipe_X12_requireRecipe : GoodIn wsX12_warningsOfRecipe wsX12_requireRecipe := goodIn_ca (goodIn_r _ [8, 2, 9, 10, 7, 11, 12, 13, 193, 194, 195, 196, 197, 198, 199, 200, 201, 202, 203, 204, 205, 206, 207, 208, 211, 212, 213, 214, 215, 216, 217] (by decide +kernel) (by decide +kernel)) (goodIn_sub (fun _ h => List.mem_cons_of_mem _ (List.mem_append_right _ h)) (by decide +kernel))
set_option maxRecDepth 20000 in
theorem gX12_warningsOfRecipe_X12_requireRecipe : GoodIn wsX12_warningsOfRecipe (wsV RX12 189 RX12 yX12_requireRecipe wsX12_requireRecipe) := goodIn_app (goodIn_of _ (by decide +kernel)) ggX12_warningsOfRecipe_X12_requireRecipe
set_option maxRecDepth 20000 in
theorem ggX12_warningsOfRecipe_X6_become : GoodIn wsX12_warningsOfRecipe wsX6_become := goodIn_r _ [18, 19, 20, 21, 22, 23, 24, 25, 26, 17, 27, 28, 29, 30, 31, 32, 33, 34, 35, 36, 37, 38, 39, 40, 41, 42, 43, 44, 45, 46, 47, 48, 49, 50, 51, 200, 201, 202, 203, 204, 205, 206, 207, 208, 211, 212, 213, 214, 215, 216, 217, 209, 210, 218, 219, 220, 221, 222] (by decide +kernel) (by decide +kernel)
set_option maxRecDepth 20000 in
theorem gX12_warningsOfRecipe_X6_become : GoodIn wsX12_warningsOfRecipe (wsV RX12 195 RX6 yX6_become wsX6_become) := goodIn_app (goodIn_of _ (by decide +kernel)) ggX12_warningsOfRecipe_X6_become
set_option maxRecDepth 20000 in
theorem ggX12_warningsOfRecipe_X3_run : GoodIn wsX12_warningsOfRecipe wsX3_run := goodIn_r _ [56, 57, 58, 59, 60, 61, 62, 63, 64, 65, 66, 67, 68, 55, 69, 70, 71, 72, 73, 74, 75, 76, 77, 78, 79, 80, 81, 82, 83, 84, 85, 86, 87, 88, 89, 90, 91, 92, 93, 94, 95, 96, 7, 97, 98, 99, 100, 17, 101, 20, 102, 103, 104, 105, 38, 39, 40, 19, 41, 106, 107, 108, 109, 110, 111, 45, 112, 47, 48, 49, 113, 114, 115, 116, 117, 118, 119, 120, 21, 22, 121, 122, 123, 124, 125, 126, 127, 128, 129, 130, 131, 132, 133, 134, 50, 51, 135, 136, 137, 138, 139, 140, 141, 142, 143, 144, 145, 146, 147, 28, 30, 148, 149, 150, 34, 151, 36, 152, 153, 154, 155, 156, 157, 158, 159, 160, 23, 37, 161, 162, 163, 164, 165, 166, 167, 168, 169, 170, 171, 172, 173, 174, 175, 176, 177, 178, 179, 180, 181, 182, 183, 184, 185, 186, 187, 188, 189, 190, 191, 192, 223, 224, 225, 200, 201, 202, 203, 204, 205, 206, 207, 208, 211, 212, 213, 214, 215, 216, 217, 226, 227, 228, 229, 230, 231, 232, 233, 234, 235, 236, 237, 238, 239, 218, 219, 220, 221, 222, 209, 210] (by decide +kernel) (by decide +kernel)
set_option maxRecDepth 20000 in
theorem gX12_warningsOfRecipe_X3_run : GoodIn wsX12_warningsOfRecipe (wsV RX12 192 RX3 yX3_run wsX3_run) := goodIn_app (goodIn_of _ (by decide +kernel)) ggX12_warningsOfRecipe_X3_run
theorem dX12_warningsOfRecipe_0 : decode cX12_warningsOfRecipe 0 = .ok (.aload_n 0, 1) := by decide +kernel
theorem dX12_warningsOfRecipe_1 : decode cX12_warningsOfRecipe 1 = .ok (.iload_n 1, 1) := by decide +kernel
theorem dX12_warningsOfRecipe_2 : decode cX12_warningsOfRecipe 2 = .ok (.invokevirtual 189, 3) := by decide +kernel
theorem dX12_warningsOfRecipe_5 : decode cX12_warningsOfRecipe 5 = .ok (.aload_n 0, 1) := by decide +kernel
theorem dX12_warningsOfRecipe_6 : decode cX12_warningsOfRecipe 6 = .ok (.getfield 39, 3) := by decide +kernel
theorem dX12_warningsOfRecipe_9 : decode cX12_warningsOfRecipe 9 = .ok (.aload_n 0, 1) := by decide +kernel
theorem dX12_warningsOfRecipe_10 : decode cX12_warningsOfRecipe 10 = .ok (.getfield 26, 3) := by decide +kernel
theorem dX12_warningsOfRecipe_13 : decode cX12_warningsOfRecipe 13 = .ok (.invokevirtual 195, 3) := by decide +kernel
theorem dX12_warningsOfRecipe_16 : decode cX12_warningsOfRecipe 16 = .ok (.aload_n 0, 1) := by decide +kernel
theorem dX12_warningsOfRecipe_17 : decode cX12_warningsOfRecipe 17 = .ok (.getfield 42, 3) := by decide +kernel
theorem dX12_warningsOfRecipe_20 : decode cX12_warningsOfRecipe 20 = .ok (.iload_n 1, 1) := by decide +kernel
theorem dX12_warningsOfRecipe_21 : decode cX12_warningsOfRecipe 21 = .ok (.invokevirtual 192, 3) := by decide +kernel
theorem dX12_warningsOfRecipe_24 : decode cX12_warningsOfRecipe 24 = .ok (.pop, 1) := by decide +kernel
theorem dX12_warningsOfRecipe_25 : decode cX12_warningsOfRecipe 25 = .ok (.aload_n 0, 1) := by decide +kernel
theorem dX12_warningsOfRecipe_26 : decode cX12_warningsOfRecipe 26 = .ok (.getfield 39, 3) := by decide +kernel
theorem dX12_warningsOfRecipe_29 : decode cX12_warningsOfRecipe 29 = .ok (.getfield 144, 3) := by decide +kernel
theorem dX12_warningsOfRecipe_32 : decode cX12_warningsOfRecipe 32 = .ok (.getfield 148, 3) := by decide +kernel
theorem dX12_warningsOfRecipe_35 : decode cX12_warningsOfRecipe 35 = .ok (.ireturn, 1) := by decide +kernel
set_option maxRecDepth 20000 in
theorem ggX12_firstWarning_X12_requireRecipe : GoodIn wsX12_firstWarning wsX12_requireRecipe := goodIn_ca (goodIn_r _ [8, 2, 9, 10, 7, 11, 12, 13, 193, 194, 195, 196, 197, 198, 199, 203, 204, 205, 206, 207, 208, 209, 210, 211, 212, 213, 214, 215, 216, 217, 218] (by decide +kernel) (by decide +kernel)) (goodIn_sub (fun _ h => List.mem_cons_of_mem _ (List.mem_append_right _ h)) (by decide +kernel))
set_option maxRecDepth 20000 in
theorem gX12_firstWarning_X12_requireRecipe : GoodIn wsX12_firstWarning (wsV RX12 189 RX12 yX12_requireRecipe wsX12_requireRecipe) := goodIn_app (goodIn_of _ (by decide +kernel)) ggX12_firstWarning_X12_requireRecipe
set_option maxRecDepth 20000 in
theorem ggX12_firstWarning_X6_become : GoodIn wsX12_firstWarning wsX6_become := goodIn_r _ [18, 19, 20, 21, 22, 23, 24, 25, 26, 17, 27, 28, 29, 30, 31, 32, 33, 34, 35, 36, 37, 38, 39, 40, 41, 42, 43, 44, 45, 46, 47, 48, 49, 50, 51, 203, 204, 205, 206, 207, 208, 209, 210, 211, 212, 213, 214, 215, 216, 217, 218, 219, 220, 221, 222, 223, 224, 225] (by decide +kernel) (by decide +kernel)
set_option maxRecDepth 20000 in
theorem gX12_firstWarning_X6_become : GoodIn wsX12_firstWarning (wsV RX12 195 RX6 yX6_become wsX6_become) := goodIn_app (goodIn_of _ (by decide +kernel)) ggX12_firstWarning_X6_become
set_option maxRecDepth 20000 in
theorem ggX12_firstWarning_X3_run : GoodIn wsX12_firstWarning wsX3_run := goodIn_r _ [56, 57, 58, 59, 60, 61, 62, 63, 64, 65, 66, 67, 68, 55, 69, 70, 71, 72, 73, 74, 75, 76, 77, 78, 79, 80, 81, 82, 83, 84, 85, 86, 87, 88, 89, 90, 91, 92, 93, 94, 95, 96, 7, 97, 98, 99, 100, 17, 101, 20, 102, 103, 104, 105, 38, 39, 40, 19, 41, 106, 107, 108, 109, 110, 111, 45, 112, 47, 48, 49, 113, 114, 115, 116, 117, 118, 119, 120, 21, 22, 121, 122, 123, 124, 125, 126, 127, 128, 129, 130, 131, 132, 133, 134, 50, 51, 135, 136, 137, 138, 139, 140, 141, 142, 143, 144, 145, 146, 147, 28, 30, 148, 149, 150, 34, 151, 36, 152, 153, 154, 155, 156, 157, 158, 159, 160, 23, 37, 161, 162, 163, 164, 165, 166, 167, 168, 169, 170, 171, 172, 173, 174, 175, 176, 177, 178, 179, 180, 181, 182, 183, 184, 185, 186, 187, 188, 189, 190, 191, 192, 200, 201, 202, 203, 204, 205, 206, 207, 208, 209, 210, 211, 212, 213, 214, 215, 216, 217, 218, 226, 227, 228, 229, 230, 231, 232, 233, 234, 235, 236, 237, 238, 239, 221, 222, 223, 224, 225, 219, 220] (by decide +kernel) (by decide +kernel)
set_option maxRecDepth 20000 in
theorem gX12_firstWarning_X3_run : GoodIn wsX12_firstWarning (wsV RX12 192 RX3 yX3_run wsX3_run) := goodIn_app (goodIn_of _ (by decide +kernel)) ggX12_firstWarning_X3_run
theorem dX12_firstWarning_0 : decode cX12_firstWarning 0 = .ok (.aload_n 0, 1) := by decide +kernel
theorem dX12_firstWarning_1 : decode cX12_firstWarning 1 = .ok (.iload_n 1, 1) := by decide +kernel
theorem dX12_firstWarning_2 : decode cX12_firstWarning 2 = .ok (.invokevirtual 189, 3) := by decide +kernel
theorem dX12_firstWarning_5 : decode cX12_firstWarning 5 = .ok (.aload_n 0, 1) := by decide +kernel
theorem dX12_firstWarning_6 : decode cX12_firstWarning 6 = .ok (.getfield 39, 3) := by decide +kernel
theorem dX12_firstWarning_9 : decode cX12_firstWarning 9 = .ok (.aload_n 0, 1) := by decide +kernel
theorem dX12_firstWarning_10 : decode cX12_firstWarning 10 = .ok (.getfield 26, 3) := by decide +kernel
theorem dX12_firstWarning_13 : decode cX12_firstWarning 13 = .ok (.invokevirtual 195, 3) := by decide +kernel
theorem dX12_firstWarning_16 : decode cX12_firstWarning 16 = .ok (.aload_n 0, 1) := by decide +kernel
theorem dX12_firstWarning_17 : decode cX12_firstWarning 17 = .ok (.getfield 42, 3) := by decide +kernel
theorem dX12_firstWarning_20 : decode cX12_firstWarning 20 = .ok (.iload_n 1, 1) := by decide +kernel
theorem dX12_firstWarning_21 : decode cX12_firstWarning 21 = .ok (.invokevirtual 192, 3) := by decide +kernel
theorem dX12_firstWarning_24 : decode cX12_firstWarning 24 = .ok (.pop, 1) := by decide +kernel
theorem dX12_firstWarning_25 : decode cX12_firstWarning 25 = .ok (.aload_n 0, 1) := by decide +kernel
theorem dX12_firstWarning_26 : decode cX12_firstWarning 26 = .ok (.getfield 42, 3) := by decide +kernel
theorem dX12_firstWarning_29 : decode cX12_firstWarning 29 = .ok (.getfield 198, 3) := by decide +kernel
theorem dX12_firstWarning_32 : decode cX12_firstWarning 32 = .ok (.ireturn, 1) := by decide +kernel
set_option maxRecDepth 20000 in
theorem ggX12_doneBehind_X12_requireRecipe : GoodIn wsX12_doneBehind wsX12_requireRecipe := goodIn_ca (goodIn_r _ [8, 1, 9, 10, 7, 11, 12, 13, 194, 195, 196, 197, 198, 199, 200, 201, 202, 203, 204, 205, 206, 207, 208, 209, 210, 211, 212, 213, 214, 215, 216] (by decide +kernel) (by decide +kernel)) (goodIn_sub (fun _ h => List.mem_cons_of_mem _ (List.mem_append_right _ h)) (by decide +kernel))
set_option maxRecDepth 20000 in
theorem gX12_doneBehind_X12_requireRecipe : GoodIn wsX12_doneBehind (wsV RX12 189 RX12 yX12_requireRecipe wsX12_requireRecipe) := goodIn_app (goodIn_of _ (by decide +kernel)) ggX12_doneBehind_X12_requireRecipe
set_option maxRecDepth 20000 in
theorem ggX12_doneBehind_X12_requireIndex : GoodIn wsX12_doneBehind wsX12_requireIndex := goodIn_ca (goodIn_r _ [11, 12, 13] (by decide +kernel) (by decide +kernel)) (goodIn_sub (fun _ h => List.mem_cons_of_mem _ (List.mem_append_right _ h)) (by decide +kernel))
set_option maxRecDepth 20000 in
theorem gX12_doneBehind_X12_requireIndex : GoodIn wsX12_doneBehind (va_wsS RX12 159 yX12_requireIndex wsX12_requireIndex) := goodIn_app (goodIn_of _ (by decide +kernel)) ggX12_doneBehind_X12_requireIndex
set_option maxRecDepth 20000 in
theorem ggX12_doneBehind_X6_become : GoodIn wsX12_doneBehind wsX6_become := goodIn_r _ [18, 19, 20, 21, 22, 23, 24, 25, 26, 17, 27, 28, 29, 30, 31, 32, 33, 34, 35, 36, 37, 38, 39, 40, 41, 42, 43, 44, 45, 46, 47, 48, 49, 50, 51, 201, 202, 203, 204, 205, 206, 207, 208, 209, 210, 211, 212, 213, 214, 215, 216, 222, 223, 217, 218, 219, 220, 221] (by decide +kernel) (by decide +kernel)
set_option maxRecDepth 20000 in
theorem gX12_doneBehind_X6_become : GoodIn wsX12_doneBehind (wsV RX12 195 RX6 yX6_become wsX6_become) := goodIn_app (goodIn_of _ (by decide +kernel)) ggX12_doneBehind_X6_become
set_option maxRecDepth 20000 in
theorem ggX12_doneBehind_X3_run : GoodIn wsX12_doneBehind wsX3_run := goodIn_r _ [56, 57, 58, 59, 60, 61, 62, 63, 64, 65, 66, 67, 68, 55, 69, 70, 71, 72, 73, 74, 75, 76, 77, 78, 79, 80, 81, 82, 83, 84, 85, 86, 87, 88, 89, 90, 91, 92, 93, 94, 95, 96, 7, 97, 98, 99, 100, 17, 101, 20, 102, 103, 104, 105, 38, 39, 40, 19, 41, 106, 107, 108, 109, 110, 111, 45, 112, 47, 48, 49, 113, 114, 115, 116, 117, 118, 119, 120, 21, 22, 121, 122, 123, 124, 125, 126, 127, 128, 129, 130, 131, 132, 133, 134, 50, 51, 135, 136, 137, 138, 139, 140, 141, 142, 143, 144, 145, 146, 147, 28, 30, 148, 149, 150, 34, 151, 36, 152, 153, 154, 155, 156, 157, 158, 159, 160, 23, 37, 161, 162, 163, 164, 165, 166, 167, 168, 169, 170, 171, 172, 173, 174, 175, 176, 177, 178, 179, 180, 181, 182, 183, 184, 185, 186, 187, 188, 189, 190, 191, 192, 224, 225, 226, 201, 202, 203, 204, 205, 206, 207, 208, 209, 210, 211, 212, 213, 214, 215, 216, 227, 228, 229, 230, 231, 232, 233, 234, 235, 236, 237, 238, 239, 240, 217, 218, 219, 220, 221, 222, 223] (by decide +kernel) (by decide +kernel)
set_option maxRecDepth 20000 in
theorem gX12_doneBehind_X3_run : GoodIn wsX12_doneBehind (wsV RX12 192 RX3 yX3_run wsX3_run) := goodIn_app (goodIn_of _ (by decide +kernel)) ggX12_doneBehind_X3_run
set_option maxRecDepth 20000 in
theorem ggX12_doneBehind_X6_panAt : GoodIn wsX12_doneBehind wsX6_panAt := goodIn_r _ [40, 19, 41, 201, 202, 203, 204, 205, 206, 207, 208, 209, 210, 211, 212, 213, 214, 215, 216] (by decide +kernel) (by decide +kernel)
set_option maxRecDepth 20000 in
theorem gX12_doneBehind_X6_panAt : GoodIn wsX12_doneBehind (wsV RX12 201 RX6 yX6_panAt wsX6_panAt) := goodIn_app (goodIn_of _ (by decide +kernel)) ggX12_doneBehind_X6_panAt
theorem dX12_doneBehind_0 : decode cX12_doneBehind 0 = .ok (.aload_n 0, 1) := by decide +kernel
theorem dX12_doneBehind_1 : decode cX12_doneBehind 1 = .ok (.iload_n 1, 1) := by decide +kernel
theorem dX12_doneBehind_2 : decode cX12_doneBehind 2 = .ok (.invokevirtual 189, 3) := by decide +kernel
theorem dX12_doneBehind_5 : decode cX12_doneBehind 5 = .ok (.iload_n 2, 1) := by decide +kernel
theorem dX12_doneBehind_6 : decode cX12_doneBehind 6 = .ok (.aload_n 0, 1) := by decide +kernel
theorem dX12_doneBehind_7 : decode cX12_doneBehind 7 = .ok (.getfield 26, 3) := by decide +kernel
theorem dX12_doneBehind_10 : decode cX12_doneBehind 10 = .ok (.getfield 82, 3) := by decide +kernel
theorem dX12_doneBehind_13 : decode cX12_doneBehind 13 = .ok (.getfield 83, 3) := by decide +kernel
theorem dX12_doneBehind_16 : decode cX12_doneBehind 16 = .ok (.invokestatic 159, 3) := by decide +kernel
theorem dX12_doneBehind_19 : decode cX12_doneBehind 19 = .ok (.aload_n 0, 1) := by decide +kernel
theorem dX12_doneBehind_20 : decode cX12_doneBehind 20 = .ok (.getfield 39, 3) := by decide +kernel
theorem dX12_doneBehind_23 : decode cX12_doneBehind 23 = .ok (.aload_n 0, 1) := by decide +kernel
theorem dX12_doneBehind_24 : decode cX12_doneBehind 24 = .ok (.getfield 26, 3) := by decide +kernel
theorem dX12_doneBehind_27 : decode cX12_doneBehind 27 = .ok (.invokevirtual 195, 3) := by decide +kernel
theorem dX12_doneBehind_30 : decode cX12_doneBehind 30 = .ok (.aload_n 0, 1) := by decide +kernel
theorem dX12_doneBehind_31 : decode cX12_doneBehind 31 = .ok (.getfield 42, 3) := by decide +kernel
theorem dX12_doneBehind_34 : decode cX12_doneBehind 34 = .ok (.iload_n 1, 1) := by decide +kernel
theorem dX12_doneBehind_35 : decode cX12_doneBehind 35 = .ok (.invokevirtual 192, 3) := by decide +kernel
theorem dX12_doneBehind_38 : decode cX12_doneBehind 38 = .ok (.pop, 1) := by decide +kernel
theorem dX12_doneBehind_39 : decode cX12_doneBehind 39 = .ok (.aload_n 0, 1) := by decide +kernel
theorem dX12_doneBehind_40 : decode cX12_doneBehind 40 = .ok (.getfield 39, 3) := by decide +kernel
theorem dX12_doneBehind_43 : decode cX12_doneBehind 43 = .ok (.iload_n 2, 1) := by decide +kernel
theorem dX12_doneBehind_44 : decode cX12_doneBehind 44 = .ok (.invokevirtual 201, 3) := by decide +kernel
theorem dX12_doneBehind_47 : decode cX12_doneBehind 47 = .ok (.astore_n 3, 1) := by decide +kernel
theorem dX12_doneBehind_48 : decode cX12_doneBehind 48 = .ok (.aload_n 3, 1) := by decide +kernel
theorem dX12_doneBehind_49 : decode cX12_doneBehind 49 = .ok (.ifnonnull 7, 3) := by decide +kernel
theorem dX12_doneBehind_52 : decode cX12_doneBehind 52 = .ok (.iconst 0, 1) := by decide +kernel
theorem dX12_doneBehind_53 : decode cX12_doneBehind 53 = .ok (.goto 7, 3) := by decide +kernel
theorem dX12_doneBehind_56 : decode cX12_doneBehind 56 = .ok (.aload_n 3, 1) := by decide +kernel
theorem dX12_doneBehind_57 : decode cX12_doneBehind 57 = .ok (.getfield 127, 3) := by decide +kernel
theorem dX12_doneBehind_60 : decode cX12_doneBehind 60 = .ok (.ireturn, 1) := by decide +kernel
set_option maxRecDepth 20000 in
theorem ggX12_highestSafe_X12_requireRecipe : GoodIn wsX12_highestSafe wsX12_requireRecipe := goodIn_ca (goodIn_r _ [8, 2, 9, 10, 7, 11, 12, 13, 199, 200, 201, 202, 203, 204, 205, 206, 207, 208, 209, 210, 211, 212, 213, 214, 217, 218, 219, 220, 221, 222, 223] (by decide +kernel) (by decide +kernel)) (goodIn_sub (fun _ h => List.mem_cons_of_mem _ (List.mem_append_right _ h)) (by decide +kernel))
set_option maxRecDepth 20000 in
theorem gX12_highestSafe_X12_requireRecipe : GoodIn wsX12_highestSafe (wsV RX12 189 RX12 yX12_requireRecipe wsX12_requireRecipe) := goodIn_app (goodIn_of _ (by decide +kernel)) ggX12_highestSafe_X12_requireRecipe
set_option maxRecDepth 20000 in
theorem ggX12_highestSafe_X6_become : GoodIn wsX12_highestSafe wsX6_become := goodIn_r _ [18, 19, 20, 21, 22, 23, 24, 25, 26, 17, 27, 28, 29, 30, 31, 32, 33, 34, 35, 36, 37, 38, 39, 40, 41, 42, 43, 44, 45, 46, 47, 48, 49, 50, 51, 206, 207, 208, 209, 210, 211, 212, 213, 214, 217, 218, 219, 220, 221, 222, 223, 215, 216, 224, 225, 226, 227, 228] (by decide +kernel) (by decide +kernel)
set_option maxRecDepth 20000 in
theorem gX12_highestSafe_X6_become : GoodIn wsX12_highestSafe (wsV RX12 195 RX6 yX6_become wsX6_become) := goodIn_app (goodIn_of _ (by decide +kernel)) ggX12_highestSafe_X6_become
set_option maxRecDepth 20000 in
theorem ggX12_highestSafe_X6_moveTo : GoodIn wsX12_highestSafe wsX6_moveTo := goodIn_r _ [55, 20, 19, 56, 57, 58, 59, 37, 38, 39, 17, 40, 41, 60, 61, 62, 63, 64, 65, 66, 206, 207, 208, 209, 210, 211, 212, 213, 214, 217, 218, 219, 220, 221, 222, 223, 224, 225, 226, 227, 228] (by decide +kernel) (by decide +kernel)
set_option maxRecDepth 20000 in
theorem gX12_highestSafe_X6_moveTo : GoodIn wsX12_highestSafe (wsV RX12 169 RX6 yX6_moveTo wsX6_moveTo) := goodIn_app (goodIn_of _ (by decide +kernel)) ggX12_highestSafe_X6_moveTo
set_option maxRecDepth 20000 in
theorem ggX12_highestSafe_X3_run : GoodIn wsX12_highestSafe wsX3_run := goodIn_r _ [71, 72, 73, 74, 75, 76, 77, 78, 79, 80, 81, 82, 83, 70, 84, 85, 86, 87, 88, 89, 90, 91, 92, 93, 94, 95, 96, 97, 98, 99, 100, 101, 102, 103, 104, 105, 106, 107, 108, 109, 110, 111, 7, 112, 113, 61, 62, 17, 63, 20, 64, 65, 66, 114, 38, 39, 40, 19, 41, 115, 116, 117, 118, 119, 120, 45, 121, 47, 48, 49, 122, 123, 124, 125, 126, 127, 128, 129, 21, 22, 130, 131, 132, 57, 58, 59, 133, 134, 135, 136, 137, 138, 139, 140, 50, 51, 141, 142, 143, 144, 145, 146, 147, 148, 149, 150, 151, 152, 153, 28, 30, 154, 155, 156, 34, 157, 36, 158, 159, 160, 161, 162, 163, 164, 165, 166, 23, 37, 167, 168, 169, 170, 171, 172, 173, 174, 175, 176, 177, 178, 179, 180, 181, 182, 183, 184, 185, 186, 187, 188, 189, 190, 191, 192, 193, 194, 195, 196, 197, 198, 229, 230, 231, 206, 207, 208, 209, 210, 211, 212, 213, 214, 217, 218, 219, 220, 221, 222, 223, 232, 233, 234, 235, 236, 237, 238, 239, 240, 241, 242, 243, 244, 245, 224, 225, 226, 227, 228, 215, 216] (by decide +kernel) (by decide +kernel)
set_option maxRecDepth 20000 in
theorem gX12_highestSafe_X3_run : GoodIn wsX12_highestSafe (wsV RX12 192 RX3 yX3_run wsX3_run) := goodIn_app (goodIn_of _ (by decide +kernel)) ggX12_highestSafe_X3_run
theorem dX12_highestSafe_0 : decode cX12_highestSafe 0 = .ok (.aload_n 0, 1) := by decide +kernel
theorem dX12_highestSafe_1 : decode cX12_highestSafe 1 = .ok (.iload_n 1, 1) := by decide +kernel
theorem dX12_highestSafe_2 : decode cX12_highestSafe 2 = .ok (.invokevirtual 189, 3) := by decide +kernel
theorem dX12_highestSafe_5 : decode cX12_highestSafe 5 = .ok (.bipush 60, 2) := by decide +kernel
theorem dX12_highestSafe_7 : decode cX12_highestSafe 7 = .ok (.istore_n 2, 1) := by decide +kernel
theorem dX12_highestSafe_8 : decode cX12_highestSafe 8 = .ok (.iload_n 2, 1) := by decide +kernel
theorem dX12_highestSafe_9 : decode cX12_highestSafe 9 = .ok (.ifCond .lt 52, 3) := by decide +kernel
theorem dX12_highestSafe_12 : decode cX12_highestSafe 12 = .ok (.aload_n 0, 1) := by decide +kernel
theorem dX12_highestSafe_13 : decode cX12_highestSafe 13 = .ok (.getfield 39, 3) := by decide +kernel
theorem dX12_highestSafe_16 : decode cX12_highestSafe 16 = .ok (.aload_n 0, 1) := by decide +kernel
theorem dX12_highestSafe_17 : decode cX12_highestSafe 17 = .ok (.getfield 26, 3) := by decide +kernel
theorem dX12_highestSafe_20 : decode cX12_highestSafe 20 = .ok (.invokevirtual 195, 3) := by decide +kernel
theorem dX12_highestSafe_23 : decode cX12_highestSafe 23 = .ok (.aload_n 0, 1) := by decide +kernel
theorem dX12_highestSafe_24 : decode cX12_highestSafe 24 = .ok (.getfield 39, 3) := by decide +kernel
theorem dX12_highestSafe_27 : decode cX12_highestSafe 27 = .ok (.iload_n 2, 1) := by decide +kernel
theorem dX12_highestSafe_28 : decode cX12_highestSafe 28 = .ok (.invokevirtual 169, 3) := by decide +kernel
theorem dX12_highestSafe_31 : decode cX12_highestSafe 31 = .ok (.aload_n 0, 1) := by decide +kernel
theorem dX12_highestSafe_32 : decode cX12_highestSafe 32 = .ok (.getfield 42, 3) := by decide +kernel
theorem dX12_highestSafe_35 : decode cX12_highestSafe 35 = .ok (.iload_n 1, 1) := by decide +kernel
theorem dX12_highestSafe_36 : decode cX12_highestSafe 36 = .ok (.invokevirtual 192, 3) := by decide +kernel
