theorem dL_drawn_46 : decode cL_drawn 46 = .ok (.iconst 0, 1) := by decide +kernel
theorem dL_drawn_47 : decode cL_drawn 47 = .ok (.iconst 1, 1) := by decide +kernel
theorem dL_drawn_48 : decode cL_drawn 48 = .ok (.aload_n 0, 1) := by decide +kernel
theorem dL_drawn_49 : decode cL_drawn 49 = .ok (.aload_n 0, 1) := by decide +kernel
theorem dL_drawn_50 : decode cL_drawn 50 = .ok (.iconst 2, 1) := by decide +kernel
theorem dL_drawn_51 : decode cL_drawn 51 = .ok (.invokevirtual 51, 3) := by decide +kernel
theorem dL_drawn_54 : decode cL_drawn 54 = .ok (.ifCond .ne 9, 3) := by decide +kernel
theorem dL_drawn_57 : decode cL_drawn 57 = .ok (.sipush 200, 3) := by decide +kernel
theorem dL_drawn_60 : decode cL_drawn 60 = .ok (.goto 5, 3) := by decide +kernel
theorem dL_drawn_63 : decode cL_drawn 63 = .ok (.bipush 40, 2) := by decide +kernel
theorem dL_drawn_65 : decode cL_drawn 65 = .ok (.invokevirtual 51, 3) := by decide +kernel
theorem dL_drawn_68 : decode cL_drawn 68 = .ok (.iadd, 1) := by decide +kernel
theorem dL_drawn_69 : decode cL_drawn 69 = .ok (.iastore, 1) := by decide +kernel
theorem dL_drawn_70 : decode cL_drawn 70 = .ok (.dup, 1) := by decide +kernel
theorem dL_drawn_71 : decode cL_drawn 71 = .ok (.iconst 1, 1) := by decide +kernel
theorem dL_drawn_72 : decode cL_drawn 72 = .ok (.iconst 0, 1) := by decide +kernel
theorem dL_drawn_73 : decode cL_drawn 73 = .ok (.iastore, 1) := by decide +kernel
theorem dL_drawn_74 : decode cL_drawn 74 = .ok (.dup, 1) := by decide +kernel
theorem dL_drawn_75 : decode cL_drawn 75 = .ok (.iconst 2, 1) := by decide +kernel
theorem dL_drawn_76 : decode cL_drawn 76 = .ok (.iconst 0, 1) := by decide +kernel
theorem dL_drawn_77 : decode cL_drawn 77 = .ok (.iastore, 1) := by decide +kernel
theorem dL_drawn_78 : decode cL_drawn 78 = .ok (.dup, 1) := by decide +kernel
theorem dL_drawn_79 : decode cL_drawn 79 = .ok (.iconst 3, 1) := by decide +kernel
theorem dL_drawn_80 : decode cL_drawn 80 = .ok (.bipush 20, 2) := by decide +kernel
theorem dL_drawn_82 : decode cL_drawn 82 = .ok (.iastore, 1) := by decide +kernel
theorem dL_drawn_83 : decode cL_drawn 83 = .ok (.dup, 1) := by decide +kernel
theorem dL_drawn_84 : decode cL_drawn 84 = .ok (.iconst 4, 1) := by decide +kernel
theorem dL_drawn_85 : decode cL_drawn 85 = .ok (.iconst 0, 1) := by decide +kernel
theorem dL_drawn_86 : decode cL_drawn 86 = .ok (.iastore, 1) := by decide +kernel
theorem dL_drawn_87 : decode cL_drawn 87 = .ok (.aastore, 1) := by decide +kernel
theorem dL_drawn_88 : decode cL_drawn 88 = .ok (.aload_n 1, 1) := by decide +kernel
theorem dL_drawn_89 : decode cL_drawn 89 = .ok (.ldc 62, 2) := by decide +kernel
theorem dL_drawn_91 : decode cL_drawn 91 = .ok (.invokevirtual 37, 3) := by decide +kernel
theorem dL_drawn_94 : decode cL_drawn 94 = .ok (.iload 5, 2) := by decide +kernel
theorem dL_drawn_96 : decode cL_drawn 96 = .ok (.invokestatic 64, 3) := by decide +kernel
theorem dL_drawn_99 : decode cL_drawn 99 = .ok (.invokevirtual 37, 3) := by decide +kernel
theorem dL_drawn_102 : decode cL_drawn 102 = .ok (.ldc 70, 2) := by decide +kernel
theorem dL_drawn_104 : decode cL_drawn 104 = .ok (.invokevirtual 37, 3) := by decide +kernel
theorem dL_drawn_107 : decode cL_drawn 107 = .ok (.aload_n 3, 1) := by decide +kernel
theorem dL_drawn_108 : decode cL_drawn 108 = .ok (.getfield 58, 3) := by decide +kernel
theorem dL_drawn_111 : decode cL_drawn 111 = .ok (.iload 5, 2) := by decide +kernel
theorem dL_drawn_113 : decode cL_drawn 113 = .ok (.aaload, 1) := by decide +kernel
theorem dL_drawn_114 : decode cL_drawn 114 = .ok (.iconst 0, 1) := by decide +kernel
theorem dL_drawn_115 : decode cL_drawn 115 = .ok (.iaload, 1) := by decide +kernel
theorem dL_drawn_116 : decode cL_drawn 116 = .ok (.invokevirtual 72, 3) := by decide +kernel
theorem dL_drawn_119 : decode cL_drawn 119 = .ok (.ldc 75, 2) := by decide +kernel
theorem dL_drawn_121 : decode cL_drawn 121 = .ok (.invokevirtual 37, 3) := by decide +kernel
theorem dL_drawn_124 : decode cL_drawn 124 = .ok (.pop, 1) := by decide +kernel
theorem dL_drawn_125 : decode cL_drawn 125 = .ok (.iinc 5 1, 3) := by decide +kernel
theorem dL_drawn_128 : decode cL_drawn 128 = .ok (.goto (-99), 3) := by decide +kernel
theorem dL_drawn_131 : decode cL_drawn 131 = .ok (.iconst 1, 1) := by decide +kernel
theorem dL_drawn_132 : decode cL_drawn 132 = .ok (.aload_n 0, 1) := by decide +kernel
theorem dL_drawn_133 : decode cL_drawn 133 = .ok (.iconst 3, 1) := by decide +kernel
theorem dL_drawn_134 : decode cL_drawn 134 = .ok (.invokevirtual 51, 3) := by decide +kernel
theorem dL_drawn_137 : decode cL_drawn 137 = .ok (.iadd, 1) := by decide +kernel
theorem dL_drawn_138 : decode cL_drawn 138 = .ok (.istore 5, 2) := by decide +kernel
theorem dL_drawn_140 : decode cL_drawn 140 = .ok (.iconst 1, 1) := by decide +kernel
theorem dL_drawn_141 : decode cL_drawn 141 = .ok (.newarray .int, 2) := by decide +kernel
theorem dL_drawn_143 : decode cL_drawn 143 = .ok (.dup, 1) := by decide +kernel
theorem dL_drawn_144 : decode cL_drawn 144 = .ok (.iconst 0, 1) := by decide +kernel
theorem dL_drawn_145 : decode cL_drawn 145 = .ok (.iload_n 2, 1) := by decide +kernel
theorem dL_drawn_146 : decode cL_drawn 146 = .ok (.iastore, 1) := by decide +kernel
theorem dL_drawn_147 : decode cL_drawn 147 = .ok (.astore 6, 2) := by decide +kernel
theorem dL_drawn_149 : decode cL_drawn 149 = .ok (.iconst 0, 1) := by decide +kernel
theorem dL_drawn_150 : decode cL_drawn 150 = .ok (.istore 7, 2) := by decide +kernel
theorem dL_drawn_152 : decode cL_drawn 152 = .ok (.iload 7, 2) := by decide +kernel
theorem dL_drawn_154 : decode cL_drawn 154 = .ok (.iload 5, 2) := by decide +kernel
theorem dL_drawn_156 : decode cL_drawn 156 = .ok (.if_icmp .ge 100, 3) := by decide +kernel
theorem dL_drawn_159 : decode cL_drawn 159 = .ok (.iload 7, 2) := by decide +kernel
theorem dL_drawn_161 : decode cL_drawn 161 = .ok (.iconst 1, 1) := by decide +kernel
theorem dL_drawn_162 : decode cL_drawn 162 = .ok (.iadd, 1) := by decide +kernel
theorem dL_drawn_163 : decode cL_drawn 163 = .ok (.anewarray 77, 3) := by decide +kernel
theorem dL_drawn_166 : decode cL_drawn 166 = .ok (.astore 8, 2) := by decide +kernel
theorem dL_drawn_168 : decode cL_drawn 168 = .ok (.iconst 0, 1) := by decide +kernel
theorem dL_drawn_169 : decode cL_drawn 169 = .ok (.istore 9, 2) := by decide +kernel
theorem dL_drawn_171 : decode cL_drawn 171 = .ok (.iload 9, 2) := by decide +kernel
theorem dL_drawn_173 : decode cL_drawn 173 = .ok (.iload 7, 2) := by decide +kernel
theorem dL_drawn_175 : decode cL_drawn 175 = .ok (.if_icmp .ge 21, 3) := by decide +kernel
theorem dL_drawn_178 : decode cL_drawn 178 = .ok (.aload 8, 2) := by decide +kernel
theorem dL_drawn_180 : decode cL_drawn 180 = .ok (.iload 9, 2) := by decide +kernel
theorem dL_drawn_182 : decode cL_drawn 182 = .ok (.aload_n 3, 1) := by decide +kernel
theorem dL_drawn_183 : decode cL_drawn 183 = .ok (.getfield 79, 3) := by decide +kernel
theorem dL_drawn_186 : decode cL_drawn 186 = .ok (.iload 9, 2) := by decide +kernel
theorem dL_drawn_188 : decode cL_drawn 188 = .ok (.aaload, 1) := by decide +kernel
theorem dL_drawn_189 : decode cL_drawn 189 = .ok (.aastore, 1) := by decide +kernel
theorem dL_drawn_190 : decode cL_drawn 190 = .ok (.iinc 9 1, 3) := by decide +kernel
theorem dL_drawn_193 : decode cL_drawn 193 = .ok (.goto (-22), 3) := by decide +kernel
theorem dL_drawn_196 : decode cL_drawn 196 = .ok (.aload 8, 2) := by decide +kernel
theorem dL_drawn_198 : decode cL_drawn 198 = .ok (.iload 7, 2) := by decide +kernel
theorem dL_drawn_200 : decode cL_drawn 200 = .ok (.aload_n 0, 1) := by decide +kernel
theorem dL_drawn_201 : decode cL_drawn 201 = .ok (.iload 4, 2) := by decide +kernel
theorem dL_drawn_203 : decode cL_drawn 203 = .ok (.iload 7, 2) := by decide +kernel
theorem dL_drawn_205 : decode cL_drawn 205 = .ok (.iconst 0, 1) := by decide +kernel
theorem dL_drawn_206 : decode cL_drawn 206 = .ok (.aload 6, 2) := by decide +kernel
theorem dL_drawn_208 : decode cL_drawn 208 = .ok (.invokestatic 83, 3) := by decide +kernel
theorem dL_drawn_211 : decode cL_drawn 211 = .ok (.aastore, 1) := by decide +kernel
theorem dL_drawn_212 : decode cL_drawn 212 = .ok (.aload_n 3, 1) := by decide +kernel
theorem dL_drawn_213 : decode cL_drawn 213 = .ok (.aload 8, 2) := by decide +kernel
theorem dL_drawn_215 : decode cL_drawn 215 = .ok (.putfield 79, 3) := by decide +kernel
theorem dL_drawn_218 : decode cL_drawn 218 = .ok (.aload_n 1, 1) := by decide +kernel
theorem dL_drawn_219 : decode cL_drawn 219 = .ok (.ldc 89, 2) := by decide +kernel
theorem dL_drawn_221 : decode cL_drawn 221 = .ok (.invokevirtual 37, 3) := by decide +kernel
theorem dL_drawn_224 : decode cL_drawn 224 = .ok (.bipush 97, 2) := by decide +kernel
theorem dL_drawn_226 : decode cL_drawn 226 = .ok (.iload 7, 2) := by decide +kernel
theorem dL_drawn_228 : decode cL_drawn 228 = .ok (.iadd, 1) := by decide +kernel
theorem dL_drawn_229 : decode cL_drawn 229 = .ok (.i2c, 1) := by decide +kernel
theorem dL_drawn_230 : decode cL_drawn 230 = .ok (.invokevirtual 41, 3) := by decide +kernel
theorem dL_drawn_233 : decode cL_drawn 233 = .ok (.aload 8, 2) := by decide +kernel
theorem dL_drawn_235 : decode cL_drawn 235 = .ok (.iload 7, 2) := by decide +kernel
theorem dL_drawn_237 : decode cL_drawn 237 = .ok (.aaload, 1) := by decide +kernel
theorem dL_drawn_238 : decode cL_drawn 238 = .ok (.invokestatic 91, 3) := by decide +kernel
theorem dL_drawn_241 : decode cL_drawn 241 = .ok (.invokevirtual 37, 3) := by decide +kernel
theorem dL_drawn_244 : decode cL_drawn 244 = .ok (.ldc 95, 2) := by decide +kernel
theorem dL_drawn_246 : decode cL_drawn 246 = .ok (.invokevirtual 37, 3) := by decide +kernel
theorem dL_drawn_249 : decode cL_drawn 249 = .ok (.pop, 1) := by decide +kernel
theorem dL_drawn_250 : decode cL_drawn 250 = .ok (.iinc 7 1, 3) := by decide +kernel
theorem dL_drawn_253 : decode cL_drawn 253 = .ok (.goto (-101), 3) := by decide +kernel
theorem dL_drawn_256 : decode cL_drawn 256 = .ok (.aload_n 3, 1) := by decide +kernel
theorem dL_drawn_257 : decode cL_drawn 257 = .ok (.areturn, 1) := by decide +kernel
set_option maxRecDepth 20000 in
theorem ggL_act_X14_next : GoodIn wsL_act wsX14_next := goodIn_r _ [11, 12, 13, 14, 15, 16, 17, 359] (by decide +kernel) (by decide +kernel)
set_option maxRecDepth 20000 in
theorem gL_act_X14_next : GoodIn wsL_act (wsV RL 51 RX14 yX14_next wsX14_next) := goodIn_app (goodIn_of _ (by decide +kernel)) ggL_act_X14_next
set_option maxRecDepth 20000 in
theorem ggL_act_X15_climb : GoodIn wsL_act wsX15_climb := goodIn_r _ [22, 23, 24, 25, 26, 27, 21, 28, 347, 348, 349, 350, 351, 352, 353, 354, 355, 356, 357, 358] (by decide +kernel) (by decide +kernel)
set_option maxRecDepth 20000 in
theorem gL_act_X15_climb : GoodIn wsL_act (wsV RL 101 RX15 yX15_climb wsX15_climb) := goodIn_app (goodIn_of _ (by decide +kernel)) ggL_act_X15_climb
set_option maxRecDepth 20000 in
theorem ggL_act_X12_setAltitude : GoodIn wsL_act wsX12_setAltitude := goodIn_ca (goodIn_r _ [33, 34, 35, 36, 32, 37, 38, 39, 40, 41, 42, 43, 44, 45, 46, 47, 48, 49, 50, 51, 52, 53, 54, 55, 56, 57, 58, 59, 60, 61, 62, 360, 361, 362, 363, 364, 365, 366, 367, 368, 369, 370, 371, 372, 373, 374, 375, 376, 377, 378, 379, 380, 381, 382, 383, 384, 385, 386, 387] (by decide +kernel) (by decide +kernel)) (goodIn_sub (fun _ h => List.mem_cons_of_mem _ (List.mem_append_left _ (List.mem_append_right _ h))) (by decide +kernel))
set_option maxRecDepth 20000 in
theorem gL_act_X12_setAltitude : GoodIn wsL_act (wsV RL 105 RX12 yX12_setAltitude wsX12_setAltitude) := goodIn_app (goodIn_of _ (by decide +kernel)) ggL_act_X12_setAltitude
set_option maxRecDepth 20000 in
theorem ggL_act_X12_setServings : GoodIn wsL_act wsX12_setServings := goodIn_ca (goodIn_r _ [66, 34, 35, 36, 32, 37, 38, 39, 360, 361, 362, 363, 364, 365, 366, 367, 368, 369, 370, 371, 372, 373, 374, 375] (by decide +kernel) (by decide +kernel)) (goodIn_sub (fun _ h => List.mem_cons_of_mem _ (List.mem_append_left _ (List.mem_append_right _ h))) (by decide +kernel))
set_option maxRecDepth 20000 in
theorem gL_act_X12_setServings : GoodIn wsL_act (wsV RL 111 RX12 yX12_setServings wsX12_setServings) := goodIn_app (goodIn_of _ (by decide +kernel)) ggL_act_X12_setServings
set_option maxRecDepth 20000 in
theorem ggL_act_X12_setSpoon : GoodIn wsL_act wsX12_setSpoon := goodIn_ca (goodIn_r _ [70, 34, 35, 36, 32, 37, 38, 39, 360, 361, 362, 363, 364, 365, 366, 367, 368, 369, 370, 371, 372, 373, 374, 375] (by decide +kernel) (by decide +kernel)) (goodIn_sub (fun _ h => List.mem_cons_of_mem _ (List.mem_append_left _ (List.mem_append_right _ h))) (by decide +kernel))
set_option maxRecDepth 20000 in
theorem gL_act_X12_setSpoon : GoodIn wsL_act (wsV RL 117 RX12 yX12_setSpoon wsX12_setSpoon) := goodIn_app (goodIn_of _ (by decide +kernel)) ggL_act_X12_setSpoon
set_option maxRecDepth 20000 in
theorem ggL_act_X12_pourWater : GoodIn wsL_act wsX12_pourWater := goodIn_ca (goodIn_ca (goodIn_r _ [74, 75, 76, 77, 32, 78, 79, 80, 34, 81, 52, 53, 43, 54, 46, 55, 35, 36, 37, 38, 39, 82, 83, 84, 85, 86, 87, 48, 49, 50, 88, 89, 90, 91, 92, 93, 94, 95, 96, 97, 98, 99, 100, 101, 102, 360, 361, 362, 363, 364, 365, 366, 367, 368, 369, 370, 371, 372, 373, 374, 375, 376, 377, 378, 379, 380, 381, 382, 383, 384, 385, 386, 387] (by decide +kernel) (by decide +kernel)) (goodIn_sub (fun _ h => List.mem_cons_of_mem _ (List.mem_append_right _ h)) (by decide +kernel))) (goodIn_sub (fun _ h => List.mem_cons_of_mem _ (List.mem_append_left _ (List.mem_append_right _ h))) (by decide +kernel))
set_option maxRecDepth 20000 in
theorem gL_act_X12_pourWater : GoodIn wsL_act (wsV RL 120 RX12 yX12_pourWater wsX12_pourWater) := goodIn_app (goodIn_of _ (by decide +kernel)) ggL_act_X12_pourWater
set_option maxRecDepth 20000 in
theorem ggL_act_X15_pour : GoodIn wsL_act wsX15_pour := goodIn_r _ [106, 24, 107, 108, 109, 21, 110, 347, 348, 349, 350, 351, 352, 353, 354, 355, 356, 357, 358] (by decide +kernel) (by decide +kernel)
set_option maxRecDepth 20000 in
theorem gL_act_X15_pour : GoodIn wsL_act (wsV RL 124 RX15 yX15_pour wsX15_pour) := goodIn_app (goodIn_of _ (by decide +kernel)) ggL_act_X15_pour
set_option maxRecDepth 20000 in
theorem ggL_act_X12_pourMeal : GoodIn wsL_act wsX12_pourMeal := goodIn_ca (goodIn_ca (goodIn_r _ [114, 75, 76, 77, 32, 78, 79, 80, 34, 81, 52, 53, 43, 54, 46, 55, 35, 36, 37, 38, 39, 82, 83, 84, 85, 86, 87, 48, 49, 50, 88, 89, 90, 91, 92, 93, 94, 95, 96, 97, 98, 99, 100, 101, 102, 360, 361, 362, 363, 364, 365, 366, 367, 368, 369, 370, 371, 372, 373, 374, 375, 376, 377, 378, 379, 380, 381, 382, 383, 384, 385, 386, 387] (by decide +kernel) (by decide +kernel)) (goodIn_sub (fun _ h => List.mem_cons_of_mem _ (List.mem_append_right _ h)) (by decide +kernel))) (goodIn_sub (fun _ h => List.mem_cons_of_mem _ (List.mem_append_left _ (List.mem_append_right _ h))) (by decide +kernel))
set_option maxRecDepth 20000 in
theorem gL_act_X12_pourMeal : GoodIn wsL_act (wsV RL 128 RX12 yX12_pourMeal wsX12_pourMeal) := goodIn_app (goodIn_of _ (by decide +kernel)) ggL_act_X12_pourMeal
set_option maxRecDepth 20000 in
theorem ggL_act_X12_wash : GoodIn wsL_act wsX12_wash := goodIn_ca (goodIn_r _ [118, 75, 76, 77, 32, 78, 79, 80, 34, 81, 52, 53, 43, 54, 46, 55, 119, 98, 99, 85, 100, 91, 90, 120, 121, 122, 123, 88, 89, 360, 361, 362, 363, 364, 365, 366, 367, 368, 369, 370, 371, 372, 373, 374, 375, 376, 377, 378, 379, 380, 381, 382, 383, 384, 385, 386, 387] (by decide +kernel) (by decide +kernel)) (goodIn_sub (fun _ h => List.mem_cons_of_mem _ (List.mem_append_right _ h)) (by decide +kernel))
set_option maxRecDepth 20000 in
theorem gL_act_X12_wash : GoodIn wsL_act (wsV RL 131 RX12 yX12_wash wsX12_wash) := goodIn_app (goodIn_of _ (by decide +kernel)) ggL_act_X12_wash
set_option maxRecDepth 20000 in
theorem ggL_act_X15_goBy : GoodIn wsL_act wsX15_goBy := goodIn_r _ [127, 128, 24, 347, 348, 349, 350, 351, 352, 353, 354, 355, 356, 357, 358] (by decide +kernel) (by decide +kernel)
set_option maxRecDepth 20000 in
theorem gL_act_X15_goBy : GoodIn wsL_act (wsV RL 134 RX15 yX15_goBy wsX15_goBy) := goodIn_app (goodIn_of _ (by decide +kernel)) ggL_act_X15_goBy
set_option maxRecDepth 20000 in
theorem ggL_act_X12_rest : GoodIn wsL_act wsX12_rest := goodIn_ca (goodIn_r _ [132, 34, 35, 36, 32, 37, 38, 39, 133, 134, 135, 43, 136, 137, 46, 51, 52, 53, 54, 55, 138, 139, 140, 85, 141, 88, 142, 143, 49, 144, 145, 146, 147, 148, 360, 361, 362, 363, 364, 365, 366, 367, 368, 369, 370, 371, 372, 373, 374, 375, 376, 377, 378, 379, 380, 381, 382, 383, 384, 385, 386, 387] (by decide +kernel) (by decide +kernel)) (goodIn_sub (fun _ h => List.mem_cons_of_mem _ (List.mem_append_left _ (List.mem_append_right _ h))) (by decide +kernel))
set_option maxRecDepth 20000 in
theorem gL_act_X12_rest : GoodIn wsL_act (wsV RL 138 RX12 yX12_rest wsX12_rest) := goodIn_app (goodIn_of _ (by decide +kernel)) ggL_act_X12_rest
set_option maxRecDepth 20000 in
theorem ggL_act_X12_cook : GoodIn wsL_act wsX12_cook := goodIn_ca (goodIn_r _ [152, 153, 154, 155, 156, 32, 157, 34, 158, 159, 160, 79, 80, 161, 162, 163, 164, 165, 166, 167, 168, 169, 170, 171, 172, 173, 174, 175, 176, 177, 178, 179, 180, 181, 182, 183, 184, 185, 186, 187, 188, 189, 190, 191, 192, 193, 194, 195, 196, 197, 198, 199, 200, 201, 202, 203, 204, 101, 102, 205, 57, 58, 43, 59, 45, 60, 61, 62, 206, 52, 53, 54, 46, 55, 207, 208, 209, 210, 93, 94, 85, 95, 96, 91, 90, 211, 212, 213, 214, 215, 216, 217, 218, 219, 220, 221, 222, 223, 48, 49, 50, 224, 143, 144, 225, 83, 84, 86, 87, 88, 89, 92, 97, 98, 99, 100, 226, 227, 228, 229, 230, 231, 232, 233, 234, 235, 236, 237, 238, 239, 240, 241, 242, 243, 244, 245, 246, 247, 134, 135, 136, 137, 51, 138, 139, 140, 141, 142, 248, 249, 250, 251, 252, 253, 254, 255, 256, 257, 258, 259, 260, 261, 262, 263, 264, 265, 266, 267, 268, 269, 121, 122, 123, 270, 271, 360, 361, 362, 363, 364, 365, 366, 367, 368, 369, 370, 371, 372, 373, 374, 375, 376, 377, 378, 379, 380, 381, 382, 388, 389, 390, 391, 392, 393, 394, 395, 396, 397, 398, 399, 400, 401, 402, 403, 404, 383, 384, 385, 386, 387, 405, 406] (by decide +kernel) (by decide +kernel)) (goodIn_sub (fun _ h => List.mem_cons_of_mem _ (List.mem_append_right _ h)) (by decide +kernel))
set_option maxRecDepth 20000 in
theorem gL_act_X12_cook : GoodIn wsL_act (wsV RL 141 RX12 yX12_cook wsX12_cook) := goodIn_app (goodIn_of _ (by decide +kernel)) ggL_act_X12_cook
set_option maxRecDepth 20000 in
theorem pgL_act_X15_cook_0 : GoodIn wsL_act (Cond.code yX15_cook cX15_cook 3 (some .int) :: wsX15_cook_r1) := goodIn_r _ [275, 128, 276, 277, 278, 279, 280, 281, 21, 282, 283, 284, 285, 286, 287, 24, 288, 289, 5, 290, 291, 292, 293, 294, 295] (by decide +kernel) (by decide +kernel)
set_option maxRecDepth 20000 in
theorem pgL_act_X15_cook_1 : GoodIn wsL_act wsX15_cook_r2 := goodIn_r _ [296, 297, 298, 299, 300, 301, 302, 303, 304, 305, 306, 307, 308, 309, 26, 27, 28, 23, 310, 108, 109, 110, 311, 312] (by decide +kernel) (by decide +kernel)
set_option maxRecDepth 20000 in
theorem pgL_act_X15_cook_2 : GoodIn wsL_act wsX15_cook_r3 := goodIn_r _ [313, 314, 315, 316, 317, 318, 319, 320, 104, 105, 106, 107, 321, 322, 323, 324, 325, 326, 327, 328, 329, 330, 125, 126] (by decide +kernel) (by decide +kernel)
set_option maxRecDepth 20000 in
theorem pgL_act_X15_cook_3 : GoodIn wsL_act wsX15_cook_r4 := goodIn_r _ [127, 25, 331, 332, 333, 334, 335, 336, 337, 338, 339, 340, 341, 342, 343, 344, 345, 346] (by decide +kernel) (by decide +kernel)
set_option maxRecDepth 20000 in
theorem pgL_act_X15_cook_4 : GoodIn wsL_act wsX150 := goodIn_r _ [347, 348, 349, 350, 351, 352, 353, 354, 355, 356, 357, 358] (by decide +kernel) (by decide +kernel)
set_option maxRecDepth 20000 in
theorem pgL_act_X15_cook_5 : GoodIn wsL_act wsX130 := goodIn_r _ [407, 408, 409, 410, 411, 412, 413, 414] (by decide +kernel) (by decide +kernel)
set_option maxRecDepth 20000 in
theorem pgL_act_X15_cook_6 : GoodIn wsL_act wsX160 := goodIn_r _ [415, 416, 417, 418] (by decide +kernel) (by decide +kernel)
set_option maxRecDepth 20000 in
theorem ggL_act_X15_cook : GoodIn wsL_act wsX15_cook := goodIn_ca (goodIn_ca (goodIn_ca (goodIn_ca pgL_act_X15_cook_0 (goodIn_app pgL_act_X15_cook_1 (goodIn_app pgL_act_X15_cook_2 (pgL_act_X15_cook_3)))) pgL_act_X15_cook_4) pgL_act_X15_cook_5) pgL_act_X15_cook_6
set_option maxRecDepth 20000 in
theorem gL_act_X15_cook : GoodIn wsL_act (wsV RL 144 RX15 yX15_cook wsX15_cook) := goodIn_app (goodIn_of _ (by decide +kernel)) ggL_act_X15_cook
theorem dL_act_0 : decode cL_act 0 = .ok (.aload_n 2, 1) := by decide +kernel
theorem dL_act_1 : decode cL_act 1 = .ok (.aload_n 1, 1) := by decide +kernel
theorem dL_act_2 : decode cL_act 2 = .ok (.getfield 58, 3) := by decide +kernel
theorem dL_act_5 : decode cL_act 5 = .ok (.arraylength, 1) := by decide +kernel
theorem dL_act_6 : decode cL_act 6 = .ok (.invokevirtual 51, 3) := by decide +kernel
theorem dL_act_9 : decode cL_act 9 = .ok (.istore_n 3, 1) := by decide +kernel
theorem dL_act_10 : decode cL_act 10 = .ok (.aload_n 2, 1) := by decide +kernel
theorem dL_act_11 : decode cL_act 11 = .ok (.bipush 13, 2) := by decide +kernel
theorem dL_act_13 : decode cL_act 13 = .ok (.invokevirtual 51, 3) := by decide +kernel
theorem dL_act_16 : decode cL_act 16 = .ok (.tableswitch 425 0 7 #[48, 83, 120, 157, 157, 205, 239, 321], 48) := by decide +kernel
theorem dL_act_64 : decode cL_act 64 = .ok (.aload_n 1, 1) := by decide +kernel
theorem dL_act_65 : decode cL_act 65 = .ok (.getfield 97, 3) := by decide +kernel
theorem dL_act_68 : decode cL_act 68 = .ok (.istore 4, 2) := by decide +kernel
theorem dL_act_70 : decode cL_act 70 = .ok (.aload_n 1, 1) := by decide +kernel
theorem dL_act_71 : decode cL_act 71 = .ok (.aload_n 2, 1) := by decide +kernel
theorem dL_act_72 : decode cL_act 72 = .ok (.bipush 61, 2) := by decide +kernel
theorem dL_act_74 : decode cL_act 74 = .ok (.invokevirtual 51, 3) := by decide +kernel
theorem dL_act_77 : decode cL_act 77 = .ok (.invokevirtual 101, 3) := by decide +kernel
theorem dL_act_80 : decode cL_act 80 = .ok (.aload_n 0, 1) := by decide +kernel
theorem dL_act_81 : decode cL_act 81 = .ok (.aload_n 1, 1) := by decide +kernel
theorem dL_act_82 : decode cL_act 82 = .ok (.getfield 97, 3) := by decide +kernel
theorem dL_act_85 : decode cL_act 85 = .ok (.invokevirtual 105, 3) := by decide +kernel
theorem dL_act_88 : decode cL_act 88 = .ok (.iload 4, 2) := by decide +kernel
theorem dL_act_90 : decode cL_act 90 = .ok (.if_icmp .ne 7, 3) := by decide +kernel
theorem dL_act_93 : decode cL_act 93 = .ok (.iconst 1, 1) := by decide +kernel
theorem dL_act_94 : decode cL_act 94 = .ok (.goto 4, 3) := by decide +kernel
theorem dL_act_97 : decode cL_act 97 = .ok (.iconst 0, 1) := by decide +kernel
theorem dL_act_98 : decode cL_act 98 = .ok (.ireturn, 1) := by decide +kernel
theorem dL_act_99 : decode cL_act 99 = .ok (.aload_n 1, 1) := by decide +kernel
theorem dL_act_100 : decode cL_act 100 = .ok (.getfield 108, 3) := by decide +kernel
theorem dL_act_103 : decode cL_act 103 = .ok (.istore 4, 2) := by decide +kernel
theorem dL_act_105 : decode cL_act 105 = .ok (.aload_n 1, 1) := by decide +kernel
theorem dL_act_106 : decode cL_act 106 = .ok (.iconst 1, 1) := by decide +kernel
theorem dL_act_107 : decode cL_act 107 = .ok (.aload_n 2, 1) := by decide +kernel
theorem dL_act_108 : decode cL_act 108 = .ok (.bipush 12, 2) := by decide +kernel
theorem dL_act_110 : decode cL_act 110 = .ok (.invokevirtual 51, 3) := by decide +kernel
theorem dL_act_113 : decode cL_act 113 = .ok (.iadd, 1) := by decide +kernel
theorem dL_act_114 : decode cL_act 114 = .ok (.putfield 108, 3) := by decide +kernel
theorem dL_act_117 : decode cL_act 117 = .ok (.aload_n 0, 1) := by decide +kernel
theorem dL_act_118 : decode cL_act 118 = .ok (.aload_n 1, 1) := by decide +kernel
theorem dL_act_119 : decode cL_act 119 = .ok (.getfield 108, 3) := by decide +kernel
theorem dL_act_122 : decode cL_act 122 = .ok (.invokevirtual 111, 3) := by decide +kernel
theorem dL_act_125 : decode cL_act 125 = .ok (.iload 4, 2) := by decide +kernel
theorem dL_act_127 : decode cL_act 127 = .ok (.if_icmp .ne 7, 3) := by decide +kernel
theorem dL_act_130 : decode cL_act 130 = .ok (.iconst 1, 1) := by decide +kernel
theorem dL_act_131 : decode cL_act 131 = .ok (.goto 4, 3) := by decide +kernel
theorem dL_act_134 : decode cL_act 134 = .ok (.iconst 0, 1) := by decide +kernel
theorem dL_act_135 : decode cL_act 135 = .ok (.ireturn, 1) := by decide +kernel
theorem dL_act_136 : decode cL_act 136 = .ok (.aload_n 1, 1) := by decide +kernel
theorem dL_act_137 : decode cL_act 137 = .ok (.getfield 114, 3) := by decide +kernel
theorem dL_act_140 : decode cL_act 140 = .ok (.istore 4, 2) := by decide +kernel
theorem dL_act_142 : decode cL_act 142 = .ok (.aload_n 1, 1) := by decide +kernel
theorem dL_act_143 : decode cL_act 143 = .ok (.iconst 1, 1) := by decide +kernel
theorem dL_act_144 : decode cL_act 144 = .ok (.aload_n 2, 1) := by decide +kernel
theorem dL_act_145 : decode cL_act 145 = .ok (.bipush 10, 2) := by decide +kernel
theorem dL_act_147 : decode cL_act 147 = .ok (.invokevirtual 51, 3) := by decide +kernel
theorem dL_act_150 : decode cL_act 150 = .ok (.iadd, 1) := by decide +kernel
theorem dL_act_151 : decode cL_act 151 = .ok (.putfield 114, 3) := by decide +kernel
theorem dL_act_154 : decode cL_act 154 = .ok (.aload_n 0, 1) := by decide +kernel
theorem dL_act_155 : decode cL_act 155 = .ok (.aload_n 1, 1) := by decide +kernel
theorem dL_act_156 : decode cL_act 156 = .ok (.getfield 114, 3) := by decide +kernel
theorem dL_act_159 : decode cL_act 159 = .ok (.invokevirtual 117, 3) := by decide +kernel
theorem dL_act_162 : decode cL_act 162 = .ok (.iload 4, 2) := by decide +kernel
theorem dL_act_164 : decode cL_act 164 = .ok (.if_icmp .ne 7, 3) := by decide +kernel
theorem dL_act_167 : decode cL_act 167 = .ok (.iconst 1, 1) := by decide +kernel
theorem dL_act_168 : decode cL_act 168 = .ok (.goto 4, 3) := by decide +kernel
theorem dL_act_171 : decode cL_act 171 = .ok (.iconst 0, 1) := by decide +kernel
theorem dL_act_172 : decode cL_act 172 = .ok (.ireturn, 1) := by decide +kernel
theorem dL_act_173 : decode cL_act 173 = .ok (.iconst 1, 1) := by decide +kernel
theorem dL_act_174 : decode cL_act 174 = .ok (.aload_n 2, 1) := by decide +kernel
theorem dL_act_175 : decode cL_act 175 = .ok (.aload_n 2, 1) := by decide +kernel
theorem dL_act_176 : decode cL_act 176 = .ok (.iconst 3, 1) := by decide +kernel
theorem dL_act_177 : decode cL_act 177 = .ok (.invokevirtual 51, 3) := by decide +kernel
theorem dL_act_180 : decode cL_act 180 = .ok (.ifCond .ne 9, 3) := by decide +kernel
theorem dL_act_183 : decode cL_act 183 = .ok (.sipush 200, 3) := by decide +kernel
theorem dL_act_186 : decode cL_act 186 = .ok (.goto 5, 3) := by decide +kernel
theorem dL_act_189 : decode cL_act 189 = .ok (.bipush 30, 2) := by decide +kernel
theorem dL_act_191 : decode cL_act 191 = .ok (.invokevirtual 51, 3) := by decide +kernel
theorem dL_act_194 : decode cL_act 194 = .ok (.iadd, 1) := by decide +kernel
theorem dL_act_195 : decode cL_act 195 = .ok (.istore 4, 2) := by decide +kernel
theorem dL_act_197 : decode cL_act 197 = .ok (.aload_n 0, 1) := by decide +kernel
theorem dL_act_198 : decode cL_act 198 = .ok (.iload_n 3, 1) := by decide +kernel
theorem dL_act_199 : decode cL_act 199 = .ok (.iload 4, 2) := by decide +kernel
theorem dL_act_201 : decode cL_act 201 = .ok (.invokevirtual 120, 3) := by decide +kernel
theorem dL_act_204 : decode cL_act 204 = .ok (.aload_n 1, 1) := by decide +kernel
theorem dL_act_205 : decode cL_act 205 = .ok (.iload_n 3, 1) := by decide +kernel
theorem dL_act_206 : decode cL_act 206 = .ok (.iconst 0, 1) := by decide +kernel
theorem dL_act_207 : decode cL_act 207 = .ok (.iload 4, 2) := by decide +kernel
theorem dL_act_209 : decode cL_act 209 = .ok (.invokevirtual 124, 3) := by decide +kernel
theorem dL_act_212 : decode cL_act 212 = .ok (.if_icmp .ne 7, 3) := by decide +kernel
theorem dL_act_215 : decode cL_act 215 = .ok (.iconst 1, 1) := by decide +kernel
theorem dL_act_216 : decode cL_act 216 = .ok (.goto 4, 3) := by decide +kernel
theorem dL_act_219 : decode cL_act 219 = .ok (.iconst 0, 1) := by decide +kernel
theorem dL_act_220 : decode cL_act 220 = .ok (.ireturn, 1) := by decide +kernel
theorem dL_act_221 : decode cL_act 221 = .ok (.iconst 1, 1) := by decide +kernel
theorem dL_act_222 : decode cL_act 222 = .ok (.aload_n 2, 1) := by decide +kernel
theorem dL_act_223 : decode cL_act 223 = .ok (.bipush 40, 2) := by decide +kernel
theorem dL_act_225 : decode cL_act 225 = .ok (.invokevirtual 51, 3) := by decide +kernel
theorem dL_act_228 : decode cL_act 228 = .ok (.iadd, 1) := by decide +kernel
theorem dL_act_229 : decode cL_act 229 = .ok (.istore 4, 2) := by decide +kernel
theorem dL_act_231 : decode cL_act 231 = .ok (.aload_n 0, 1) := by decide +kernel
theorem dL_act_232 : decode cL_act 232 = .ok (.iload_n 3, 1) := by decide +kernel
theorem dL_act_233 : decode cL_act 233 = .ok (.iload 4, 2) := by decide +kernel
theorem dL_act_235 : decode cL_act 235 = .ok (.invokevirtual 128, 3) := by decide +kernel
theorem dL_act_238 : decode cL_act 238 = .ok (.aload_n 1, 1) := by decide +kernel
theorem dL_act_239 : decode cL_act 239 = .ok (.iload_n 3, 1) := by decide +kernel
theorem dL_act_240 : decode cL_act 240 = .ok (.iconst 1, 1) := by decide +kernel
theorem dL_act_241 : decode cL_act 241 = .ok (.iload 4, 2) := by decide +kernel
theorem dL_act_243 : decode cL_act 243 = .ok (.invokevirtual 124, 3) := by decide +kernel
theorem dL_act_246 : decode cL_act 246 = .ok (.if_icmp .ne 7, 3) := by decide +kernel
theorem dL_act_249 : decode cL_act 249 = .ok (.iconst 1, 1) := by decide +kernel
theorem dL_act_250 : decode cL_act 250 = .ok (.goto 4, 3) := by decide +kernel
theorem dL_act_253 : decode cL_act 253 = .ok (.iconst 0, 1) := by decide +kernel
theorem dL_act_254 : decode cL_act 254 = .ok (.ireturn, 1) := by decide +kernel
theorem dL_act_255 : decode cL_act 255 = .ok (.aload_n 2, 1) := by decide +kernel
theorem dL_act_256 : decode cL_act 256 = .ok (.iconst 3, 1) := by decide +kernel
theorem dL_act_257 : decode cL_act 257 = .ok (.invokevirtual 51, 3) := by decide +kernel
theorem dL_act_260 : decode cL_act 260 = .ok (.ifCond .le 5, 3) := by decide +kernel
theorem dL_act_263 : decode cL_act 263 = .ok (.iconst 1, 1) := by decide +kernel
theorem dL_act_264 : decode cL_act 264 = .ok (.ireturn, 1) := by decide +kernel
theorem dL_act_265 : decode cL_act 265 = .ok (.aload_n 1, 1) := by decide +kernel
theorem dL_act_266 : decode cL_act 266 = .ok (.getfield 58, 3) := by decide +kernel
theorem dL_act_269 : decode cL_act 269 = .ok (.iload_n 3, 1) := by decide +kernel
theorem dL_act_270 : decode cL_act 270 = .ok (.aaload, 1) := by decide +kernel
theorem dL_act_271 : decode cL_act 271 = .ok (.iconst 1, 1) := by decide +kernel
theorem dL_act_272 : decode cL_act 272 = .ok (.iaload, 1) := by decide +kernel
theorem dL_act_273 : decode cL_act 273 = .ok (.aload_n 1, 1) := by decide +kernel
theorem dL_act_274 : decode cL_act 274 = .ok (.getfield 58, 3) := by decide +kernel
theorem dL_act_277 : decode cL_act 277 = .ok (.iload_n 3, 1) := by decide +kernel
theorem dL_act_278 : decode cL_act 278 = .ok (.aaload, 1) := by decide +kernel
theorem dL_act_279 : decode cL_act 279 = .ok (.iconst 2, 1) := by decide +kernel
theorem dL_act_280 : decode cL_act 280 = .ok (.iaload, 1) := by decide +kernel
theorem dL_act_281 : decode cL_act 281 = .ok (.iadd, 1) := by decide +kernel
theorem dL_act_282 : decode cL_act 282 = .ok (.istore 4, 2) := by decide +kernel
theorem dL_act_284 : decode cL_act 284 = .ok (.aload_n 1, 1) := by decide +kernel
theorem dL_act_285 : decode cL_act 285 = .ok (.getfield 58, 3) := by decide +kernel
theorem dL_act_288 : decode cL_act 288 = .ok (.iload_n 3, 1) := by decide +kernel
theorem dL_act_289 : decode cL_act 289 = .ok (.iconst 5, 1) := by decide +kernel
theorem dL_act_290 : decode cL_act 290 = .ok (.newarray .int, 2) := by decide +kernel
theorem dL_act_292 : decode cL_act 292 = .ok (.dup, 1) := by decide +kernel
theorem dL_act_293 : decode cL_act 293 = .ok (.iconst 0, 1) := by decide +kernel
theorem dL_act_294 : decode cL_act 294 = .ok (.aload_n 1, 1) := by decide +kernel
theorem dL_act_295 : decode cL_act 295 = .ok (.getfield 58, 3) := by decide +kernel
theorem dL_act_298 : decode cL_act 298 = .ok (.iload_n 3, 1) := by decide +kernel
theorem dL_act_299 : decode cL_act 299 = .ok (.aaload, 1) := by decide +kernel
theorem dL_act_300 : decode cL_act 300 = .ok (.iconst 0, 1) := by decide +kernel
theorem dL_act_301 : decode cL_act 301 = .ok (.iaload, 1) := by decide +kernel
theorem dL_act_302 : decode cL_act 302 = .ok (.iastore, 1) := by decide +kernel
theorem dL_act_303 : decode cL_act 303 = .ok (.dup, 1) := by decide +kernel
theorem dL_act_304 : decode cL_act 304 = .ok (.iconst 1, 1) := by decide +kernel
theorem dL_act_305 : decode cL_act 305 = .ok (.iconst 0, 1) := by decide +kernel
theorem dL_act_306 : decode cL_act 306 = .ok (.iastore, 1) := by decide +kernel
theorem dL_act_307 : decode cL_act 307 = .ok (.dup, 1) := by decide +kernel
theorem dL_act_308 : decode cL_act 308 = .ok (.iconst 2, 1) := by decide +kernel
theorem dL_act_309 : decode cL_act 309 = .ok (.iconst 0, 1) := by decide +kernel
theorem dL_act_310 : decode cL_act 310 = .ok (.iastore, 1) := by decide +kernel
theorem dL_act_311 : decode cL_act 311 = .ok (.dup, 1) := by decide +kernel
theorem dL_act_312 : decode cL_act 312 = .ok (.iconst 3, 1) := by decide +kernel
theorem dL_act_313 : decode cL_act 313 = .ok (.bipush 20, 2) := by decide +kernel
theorem dL_act_315 : decode cL_act 315 = .ok (.iastore, 1) := by decide +kernel
theorem dL_act_316 : decode cL_act 316 = .ok (.dup, 1) := by decide +kernel
theorem dL_act_317 : decode cL_act 317 = .ok (.iconst 4, 1) := by decide +kernel
theorem dL_act_318 : decode cL_act 318 = .ok (.iconst 0, 1) := by decide +kernel
theorem dL_act_319 : decode cL_act 319 = .ok (.iastore, 1) := by decide +kernel
theorem dL_act_320 : decode cL_act 320 = .ok (.aastore, 1) := by decide +kernel
theorem dL_act_321 : decode cL_act 321 = .ok (.aload_n 0, 1) := by decide +kernel
theorem dL_act_322 : decode cL_act 322 = .ok (.iload_n 3, 1) := by decide +kernel
theorem dL_act_323 : decode cL_act 323 = .ok (.invokevirtual 131, 3) := by decide +kernel
theorem dL_act_326 : decode cL_act 326 = .ok (.iload 4, 2) := by decide +kernel
theorem dL_act_328 : decode cL_act 328 = .ok (.if_icmp .ne 7, 3) := by decide +kernel
theorem dL_act_331 : decode cL_act 331 = .ok (.iconst 1, 1) := by decide +kernel
theorem dL_act_332 : decode cL_act 332 = .ok (.goto 4, 3) := by decide +kernel
theorem dL_act_335 : decode cL_act 335 = .ok (.iconst 0, 1) := by decide +kernel
theorem dL_act_336 : decode cL_act 336 = .ok (.ireturn, 1) := by decide +kernel
theorem dL_act_337 : decode cL_act 337 = .ok (.iconst 1, 1) := by decide +kernel
theorem dL_act_338 : decode cL_act 338 = .ok (.aload_n 2, 1) := by decide +kernel
theorem dL_act_339 : decode cL_act 339 = .ok (.aload_n 2, 1) := by decide +kernel
theorem dL_act_340 : decode cL_act 340 = .ok (.iconst 2, 1) := by decide +kernel
theorem dL_act_341 : decode cL_act 341 = .ok (.invokevirtual 51, 3) := by decide +kernel
theorem dL_act_344 : decode cL_act 344 = .ok (.ifCond .ne 9, 3) := by decide +kernel
theorem dL_act_347 : decode cL_act 347 = .ok (.sipush 600, 3) := by decide +kernel
theorem dL_act_350 : decode cL_act 350 = .ok (.goto 5, 3) := by decide +kernel
theorem dL_act_353 : decode cL_act 353 = .ok (.bipush 40, 2) := by decide +kernel
theorem dL_act_355 : decode cL_act 355 = .ok (.invokevirtual 51, 3) := by decide +kernel
theorem dL_act_358 : decode cL_act 358 = .ok (.iadd, 1) := by decide +kernel
theorem dL_act_359 : decode cL_act 359 = .ok (.istore 4, 2) := by decide +kernel
theorem dL_act_361 : decode cL_act 361 = .ok (.aload_n 1, 1) := by decide +kernel
theorem dL_act_362 : decode cL_act 362 = .ok (.iload 4, 2) := by decide +kernel
theorem dL_act_364 : decode cL_act 364 = .ok (.iconst (-1), 1) := by decide +kernel
theorem dL_act_365 : decode cL_act 365 = .ok (.invokevirtual 134, 3) := by decide +kernel
theorem dL_act_368 : decode cL_act 368 = .ok (.iconst 0, 1) := by decide +kernel
theorem dL_act_369 : decode cL_act 369 = .ok (.istore 5, 2) := by decide +kernel
theorem dL_act_371 : decode cL_act 371 = .ok (.aload_n 1, 1) := by decide +kernel
theorem dL_act_372 : decode cL_act 372 = .ok (.getfield 58, 3) := by decide +kernel
theorem dL_act_375 : decode cL_act 375 = .ok (.astore 6, 2) := by decide +kernel
theorem dL_act_377 : decode cL_act 377 = .ok (.aload 6, 2) := by decide +kernel
theorem dL_act_379 : decode cL_act 379 = .ok (.arraylength, 1) := by decide +kernel
theorem dL_act_380 : decode cL_act 380 = .ok (.istore 7, 2) := by decide +kernel
theorem dL_act_382 : decode cL_act 382 = .ok (.iconst 0, 1) := by decide +kernel
theorem dL_act_383 : decode cL_act 383 = .ok (.istore 8, 2) := by decide +kernel
theorem dL_act_385 : decode cL_act 385 = .ok (.iload 8, 2) := by decide +kernel
theorem dL_act_387 : decode cL_act 387 = .ok (.iload 7, 2) := by decide +kernel
theorem dL_act_389 : decode cL_act 389 = .ok (.if_icmp .ge 35, 3) := by decide +kernel
theorem dL_act_392 : decode cL_act 392 = .ok (.aload 6, 2) := by decide +kernel
theorem dL_act_394 : decode cL_act 394 = .ok (.iload 8, 2) := by decide +kernel
theorem dL_act_396 : decode cL_act 396 = .ok (.aaload, 1) := by decide +kernel
theorem dL_act_397 : decode cL_act 397 = .ok (.astore 9, 2) := by decide +kernel
theorem dL_act_399 : decode cL_act 399 = .ok (.iload 5, 2) := by decide +kernel
theorem dL_act_401 : decode cL_act 401 = .ok (.aload 9, 2) := by decide +kernel
theorem dL_act_403 : decode cL_act 403 = .ok (.iconst 3, 1) := by decide +kernel
theorem dL_act_404 : decode cL_act 404 = .ok (.iaload, 1) := by decide +kernel
theorem dL_act_405 : decode cL_act 405 = .ok (.bipush 20, 2) := by decide +kernel
theorem dL_act_407 : decode cL_act 407 = .ok (.if_icmp .le 7, 3) := by decide +kernel
theorem dL_act_410 : decode cL_act 410 = .ok (.iconst 1, 1) := by decide +kernel
theorem dL_act_411 : decode cL_act 411 = .ok (.goto 4, 3) := by decide +kernel
theorem dL_act_414 : decode cL_act 414 = .ok (.iconst 0, 1) := by decide +kernel
theorem dL_act_415 : decode cL_act 415 = .ok (.iadd, 1) := by decide +kernel
theorem dL_act_416 : decode cL_act 416 = .ok (.istore 5, 2) := by decide +kernel
theorem dL_act_418 : decode cL_act 418 = .ok (.iinc 8 1, 3) := by decide +kernel
theorem dL_act_421 : decode cL_act 421 = .ok (.goto (-36), 3) := by decide +kernel
theorem dL_act_424 : decode cL_act 424 = .ok (.aload_n 0, 1) := by decide +kernel
theorem dL_act_425 : decode cL_act 425 = .ok (.iload 4, 2) := by decide +kernel
theorem dL_act_427 : decode cL_act 427 = .ok (.invokevirtual 138, 3) := by decide +kernel
theorem dL_act_430 : decode cL_act 430 = .ok (.iload 5, 2) := by decide +kernel
theorem dL_act_432 : decode cL_act 432 = .ok (.if_icmp .ne 7, 3) := by decide +kernel
theorem dL_act_435 : decode cL_act 435 = .ok (.iconst 1, 1) := by decide +kernel
theorem dL_act_436 : decode cL_act 436 = .ok (.goto 4, 3) := by decide +kernel
theorem dL_act_439 : decode cL_act 439 = .ok (.iconst 0, 1) := by decide +kernel
theorem dL_act_440 : decode cL_act 440 = .ok (.ireturn, 1) := by decide +kernel
theorem dL_act_441 : decode cL_act 441 = .ok (.aload_n 2, 1) := by decide +kernel
theorem dL_act_442 : decode cL_act 442 = .ok (.aload_n 1, 1) := by decide +kernel
theorem dL_act_443 : decode cL_act 443 = .ok (.getfield 79, 3) := by decide +kernel
theorem dL_act_446 : decode cL_act 446 = .ok (.arraylength, 1) := by decide +kernel
theorem dL_act_447 : decode cL_act 447 = .ok (.invokevirtual 51, 3) := by decide +kernel
theorem dL_act_450 : decode cL_act 450 = .ok (.istore 4, 2) := by decide +kernel
theorem dL_act_452 : decode cL_act 452 = .ok (.aload_n 0, 1) := by decide +kernel
theorem dL_act_453 : decode cL_act 453 = .ok (.iload 4, 2) := by decide +kernel
theorem dL_act_455 : decode cL_act 455 = .ok (.invokevirtual 141, 3) := by decide +kernel
theorem dL_act_458 : decode cL_act 458 = .ok (.aload_n 1, 1) := by decide +kernel
theorem dL_act_459 : decode cL_act 459 = .ok (.iload 4, 2) := by decide +kernel
theorem dL_act_461 : decode cL_act 461 = .ok (.invokevirtual 144, 3) := by decide +kernel
theorem dL_act_464 : decode cL_act 464 = .ok (.if_icmp .ne 7, 3) := by decide +kernel
theorem dL_act_467 : decode cL_act 467 = .ok (.iconst 1, 1) := by decide +kernel
theorem dL_act_468 : decode cL_act 468 = .ok (.goto 4, 3) := by decide +kernel
theorem dL_act_471 : decode cL_act 471 = .ok (.iconst 0, 1) := by decide +kernel
theorem dL_act_472 : decode cL_act 472 = .ok (.ireturn, 1) := by decide +kernel
abbrev vwCl : List vw_C := [(RJ0, TJ0, 4), (RJ4, TJ4, 4), (RX1, TX1, 9), (RX2, TX2, 7), (RX3, TX3, 3), (RX4, TX4, 2), (RX6, TX6, 9), (RX7, TX7, 5), (RX8, TX8, 4), (RX9, TX9, 2), (RX10, TX10, 6), (RX11, TX11, 5), (RX12, TX12, 7), (RX13, TX13, 8), (RX14, TX14, 1), (RX15, TX15, 12), (RX16, TX16, 4)]
