theorem dX13_texts_4 : decode cX13_texts 4 = .ok (.ldc 63, 2) := by decide +kernel
theorem dX13_texts_6 : decode cX13_texts 6 = .ok (.invokespecial 65, 3) := by decide +kernel
theorem dX13_texts_9 : decode cX13_texts 9 = .ok (.astore_n 1, 1) := by decide +kernel
theorem dX13_texts_10 : decode cX13_texts 10 = .ok (.aload_n 0, 1) := by decide +kernel
theorem dX13_texts_11 : decode cX13_texts 11 = .ok (.astore_n 2, 1) := by decide +kernel
theorem dX13_texts_12 : decode cX13_texts 12 = .ok (.aload_n 2, 1) := by decide +kernel
theorem dX13_texts_13 : decode cX13_texts 13 = .ok (.arraylength, 1) := by decide +kernel
theorem dX13_texts_14 : decode cX13_texts 14 = .ok (.istore_n 3, 1) := by decide +kernel
theorem dX13_texts_15 : decode cX13_texts 15 = .ok (.iconst 0, 1) := by decide +kernel
theorem dX13_texts_16 : decode cX13_texts 16 = .ok (.istore 4, 2) := by decide +kernel
theorem dX13_texts_18 : decode cX13_texts 18 = .ok (.iload 4, 2) := by decide +kernel
theorem dX13_texts_20 : decode cX13_texts 20 = .ok (.iload_n 3, 1) := by decide +kernel
theorem dX13_texts_21 : decode cX13_texts 21 = .ok (.if_icmp .ge 25, 3) := by decide +kernel
theorem dX13_texts_24 : decode cX13_texts 24 = .ok (.aload_n 2, 1) := by decide +kernel
theorem dX13_texts_25 : decode cX13_texts 25 = .ok (.iload 4, 2) := by decide +kernel
theorem dX13_texts_27 : decode cX13_texts 27 = .ok (.aaload, 1) := by decide +kernel
theorem dX13_texts_28 : decode cX13_texts 28 = .ok (.astore 5, 2) := by decide +kernel
theorem dX13_texts_30 : decode cX13_texts 30 = .ok (.aload_n 1, 1) := by decide +kernel
theorem dX13_texts_31 : decode cX13_texts 31 = .ok (.aload 5, 2) := by decide +kernel
theorem dX13_texts_33 : decode cX13_texts 33 = .ok (.invokevirtual 68, 3) := by decide +kernel
theorem dX13_texts_36 : decode cX13_texts 36 = .ok (.invokevirtual 72, 3) := by decide +kernel
theorem dX13_texts_39 : decode cX13_texts 39 = .ok (.pop, 1) := by decide +kernel
theorem dX13_texts_40 : decode cX13_texts 40 = .ok (.iinc 4 1, 3) := by decide +kernel
theorem dX13_texts_43 : decode cX13_texts 43 = .ok (.goto (-25), 3) := by decide +kernel
theorem dX13_texts_46 : decode cX13_texts 46 = .ok (.aload_n 1, 1) := by decide +kernel
theorem dX13_texts_47 : decode cX13_texts 47 = .ok (.ldc 76, 2) := by decide +kernel
theorem dX13_texts_49 : decode cX13_texts 49 = .ok (.invokevirtual 72, 3) := by decide +kernel
theorem dX13_texts_52 : decode cX13_texts 52 = .ok (.invokevirtual 78, 3) := by decide +kernel
theorem dX13_texts_55 : decode cX13_texts 55 = .ok (.areturn, 1) := by decide +kernel
set_option maxRecDepth 20000 in
theorem ggX13_text_J4_init_da8c8 : GoodIn wsX13_text wsJ4_init_da8c8 := goodIn_r _ [15, 16, 17, 18, 19, 20, 21, 22, 23, 24, 25, 26, 27, 28, 29, 30, 31, 32, 33, 34, 317, 318, 319, 320] (by decide +kernel) (by decide +kernel)
set_option maxRecDepth 20000 in
theorem gX13_text_J4_init_da8c8 : GoodIn wsX13_text (wsJ4_init_da8c8) := ggX13_text_J4_init_da8c8
set_option maxRecDepth 20000 in
theorem pgX13_text_J4_append_15ec4_0 : GoodIn wsX13_text (Cond.code yJ4_append_15ec4 cJ4_append_15ec4 2 (some (.object "java/lang/StringBuilder")) :: wsJ4_append_15ec4_r1) := goodIn_r _ [38, 39, 40, 41, 42, 18, 43, 44, 45, 46, 47, 48, 49, 25, 50, 51, 52, 53, 54, 26, 55, 56, 57, 58, 59] (by decide +kernel) (by decide +kernel)
set_option maxRecDepth 20000 in
theorem pgX13_text_J4_append_15ec4_1 : GoodIn wsX13_text wsJ4_append_15ec4_r2 := goodIn_r _ [60, 61, 62, 63, 64, 65, 66, 67, 68, 69, 70, 71, 72, 73, 74, 75, 76, 77, 78, 79, 80, 81, 82, 24] (by decide +kernel) (by decide +kernel)
set_option maxRecDepth 20000 in
theorem pgX13_text_J4_append_15ec4_2 : GoodIn wsX13_text wsJ4_append_15ec4_r3 := goodIn_r _ [83, 84, 85, 86, 87, 88, 89, 90, 91, 92, 93, 94, 23, 95, 96, 29, 97, 98, 99, 100, 101, 102, 103, 104] (by decide +kernel) (by decide +kernel)
set_option maxRecDepth 20000 in
theorem pgX13_text_J4_append_15ec4_3 : GoodIn wsX13_text wsJ4_append_15ec4_r4 := goodIn_r _ [105, 106, 107, 108, 109, 110, 111, 112, 113, 114, 115, 116, 117, 118, 119, 120, 121, 122, 123, 124, 125, 126, 127, 128] (by decide +kernel) (by decide +kernel)
set_option maxRecDepth 20000 in
theorem pgX13_text_J4_append_15ec4_4 : GoodIn wsX13_text wsJ4_append_15ec4_r5 := goodIn_r _ [129, 130, 131, 132, 133, 134, 135, 136, 137, 138, 139, 140, 141, 142, 143, 144, 145, 27, 28, 30, 31, 32, 33, 34] (by decide +kernel) (by decide +kernel)
set_option maxRecDepth 20000 in
theorem pgX13_text_J4_append_15ec4_5 : GoodIn wsX13_text wsJ4_append_15ec4_r6 := goodIn_r _ [146, 147, 148, 149, 150, 151, 152, 153, 154, 155, 156, 157, 158, 159, 160, 161, 162, 163, 164, 165, 166, 167] (by decide +kernel) (by decide +kernel)
set_option maxRecDepth 20000 in
theorem pgX13_text_J4_append_15ec4_6 : GoodIn wsX13_text wsJ40 := goodIn_r _ [317, 318, 319, 320] (by decide +kernel) (by decide +kernel)
set_option maxRecDepth 20000 in
theorem pgX13_text_J4_append_15ec4_7 : GoodIn wsX13_text wsJ00 := goodIn_r _ [321, 322, 323, 324] (by decide +kernel) (by decide +kernel)
set_option maxRecDepth 20000 in
theorem ggX13_text_J4_append_15ec4 : GoodIn wsX13_text wsJ4_append_15ec4 := goodIn_ca (goodIn_ca (goodIn_ca pgX13_text_J4_append_15ec4_0 (goodIn_app pgX13_text_J4_append_15ec4_1 (goodIn_app pgX13_text_J4_append_15ec4_2 (goodIn_app pgX13_text_J4_append_15ec4_3 (goodIn_app pgX13_text_J4_append_15ec4_4 (pgX13_text_J4_append_15ec4_5)))))) pgX13_text_J4_append_15ec4_6) pgX13_text_J4_append_15ec4_7
set_option maxRecDepth 20000 in
theorem gX13_text_J4_append_15ec4 : GoodIn wsX13_text (wsV RX13 72 RJ4 yJ4_append_15ec4 wsJ4_append_15ec4) := goodIn_app (goodIn_of _ (by decide +kernel)) ggX13_text_J4_append_15ec4
set_option maxRecDepth 20000 in
theorem pgX13_text_X16_text_0 : GoodIn wsX13_text (Cond.code yX16_text cX16_text 1 (some (.object "java/lang/String")) :: wsX16_text_r1) := goodIn_r _ [172, 173, 174, 3, 4, 175, 176, 177, 178, 14, 15, 16, 17, 18, 19, 20, 21, 22, 23, 24, 25, 26, 27, 28, 29] (by decide +kernel) (by decide +kernel)
set_option maxRecDepth 20000 in
theorem pgX13_text_X16_text_1 : GoodIn wsX13_text wsX16_text_r2 := goodIn_r _ [30, 31, 32, 33, 34, 179, 36, 37, 38, 39, 40, 41, 42, 43, 44, 45, 46, 47, 48, 49, 50, 51, 52, 53] (by decide +kernel) (by decide +kernel)
set_option maxRecDepth 20000 in
theorem pgX13_text_X16_text_2 : GoodIn wsX13_text wsX16_text_r3 := goodIn_r _ [54, 55, 56, 57, 58, 59, 60, 61, 62, 63, 64, 65, 66, 67, 68, 69, 70, 71, 72, 73, 74, 75, 76, 77] (by decide +kernel) (by decide +kernel)
set_option maxRecDepth 20000 in
theorem pgX13_text_X16_text_3 : GoodIn wsX13_text wsX16_text_r4 := goodIn_r _ [78, 79, 80, 81, 82, 83, 84, 85, 86, 87, 88, 89, 90, 91, 92, 93, 94, 95, 96, 97, 98, 99, 100, 101] (by decide +kernel) (by decide +kernel)
set_option maxRecDepth 20000 in
theorem pgX13_text_X16_text_4 : GoodIn wsX13_text wsX16_text_r5 := goodIn_r _ [102, 103, 104, 105, 106, 107, 108, 109, 110, 111, 112, 113, 114, 115, 116, 117, 118, 119, 120, 121, 122, 123, 124, 125] (by decide +kernel) (by decide +kernel)
set_option maxRecDepth 20000 in
theorem pgX13_text_X16_text_5 : GoodIn wsX13_text wsX16_text_r6 := goodIn_r _ [126, 127, 128, 129, 130, 131, 132, 133, 134, 135, 136, 137, 138, 139, 140, 141, 142, 143, 144, 145, 146, 147, 148, 149] (by decide +kernel) (by decide +kernel)
set_option maxRecDepth 20000 in
theorem pgX13_text_X16_text_6 : GoodIn wsX13_text wsX16_text_r7 := goodIn_r _ [150, 151, 152, 153, 154, 155, 156, 157, 158, 159, 160, 161, 162, 163, 164, 165, 166, 167, 180, 181, 182, 183, 184, 185] (by decide +kernel) (by decide +kernel)
set_option maxRecDepth 20000 in
theorem pgX13_text_X16_text_7 : GoodIn wsX13_text wsX16_text_r8 := goodIn_r _ [186, 187, 188, 189, 190, 191, 192, 193, 194, 195, 196, 197, 198, 199, 200, 201, 202, 203, 204, 205, 206, 207, 208, 209] (by decide +kernel) (by decide +kernel)
set_option maxRecDepth 20000 in
theorem pgX13_text_X16_text_8 : GoodIn wsX13_text wsX16_text_r9 := goodIn_r _ [210, 211, 212, 213, 214, 215, 216, 217, 218, 219, 220, 221, 222, 223, 224, 225, 226, 227, 228, 229, 230, 231, 232, 233] (by decide +kernel) (by decide +kernel)
set_option maxRecDepth 20000 in
theorem pgX13_text_X16_text_9 : GoodIn wsX13_text wsX16_text_r10 := goodIn_r _ [234, 235, 236, 237, 238, 239, 240, 241, 242, 243, 244, 245, 246, 247, 248, 249, 250, 251, 252, 253, 254, 255, 256, 257] (by decide +kernel) (by decide +kernel)
set_option maxRecDepth 20000 in
theorem pgX13_text_X16_text_10 : GoodIn wsX13_text wsX16_text_r11 := goodIn_r _ [258, 259, 260, 261, 262, 263, 264, 265, 266, 267, 268, 269, 270, 271, 272, 273, 274, 275, 276, 277, 278, 279, 280, 281] (by decide +kernel) (by decide +kernel)
set_option maxRecDepth 20000 in
theorem pgX13_text_X16_text_11 : GoodIn wsX13_text wsX16_text_r12 := goodIn_r _ [282, 283, 284, 285, 286, 169, 170, 171] (by decide +kernel) (by decide +kernel)
set_option maxRecDepth 20000 in
theorem pgX13_text_X16_text_12 : GoodIn wsX13_text wsX160 := goodIn_r _ [325, 326, 327, 328] (by decide +kernel) (by decide +kernel)
set_option maxRecDepth 20000 in
theorem pgX13_text_X16_text_13 : GoodIn wsX13_text wsJ40 := goodIn_r _ [317, 318, 319, 320] (by decide +kernel) (by decide +kernel)
set_option maxRecDepth 20000 in
theorem pgX13_text_X16_text_14 : GoodIn wsX13_text wsJ00 := goodIn_r _ [321, 322, 323, 324] (by decide +kernel) (by decide +kernel)
set_option maxRecDepth 20000 in
theorem ggX13_text_X16_text : GoodIn wsX13_text wsX16_text := goodIn_ca (goodIn_ca (goodIn_ca (goodIn_ca pgX13_text_X16_text_0 (goodIn_app pgX13_text_X16_text_1 (goodIn_app pgX13_text_X16_text_2 (goodIn_app pgX13_text_X16_text_3 (goodIn_app pgX13_text_X16_text_4 (goodIn_app pgX13_text_X16_text_5 (goodIn_app pgX13_text_X16_text_6 (goodIn_app pgX13_text_X16_text_7 (goodIn_app pgX13_text_X16_text_8 (goodIn_app pgX13_text_X16_text_9 (goodIn_app pgX13_text_X16_text_10 (pgX13_text_X16_text_11)))))))))))) pgX13_text_X16_text_12) pgX13_text_X16_text_13) pgX13_text_X16_text_14
set_option maxRecDepth 20000 in
theorem gX13_text_X16_text : GoodIn wsX13_text (wsV RX13 84 RX16 yX16_text wsX16_text) := goodIn_app (goodIn_of _ (by decide +kernel)) ggX13_text_X16_text
set_option maxRecDepth 20000 in
theorem pgX13_text_L_pan_0 : GoodIn wsX13_text (Cond.code yL_pan cL_pan 1 (some (.object "java/lang/String")) :: wsL_pan_r1) := goodIn_r _ [258, 259, 3, 4, 260, 14, 15, 16, 17, 18, 19, 20, 21, 22, 23, 24, 25, 26, 27, 28, 29, 30, 31, 32, 33] (by decide +kernel) (by decide +kernel)
set_option maxRecDepth 20000 in
theorem pgX13_text_L_pan_1 : GoodIn wsX13_text wsL_pan_r2 := goodIn_r _ [34, 261, 36, 37, 38, 39, 40, 41, 42, 43, 44, 45, 46, 47, 48, 49, 50, 51, 52, 53, 54, 55, 56, 57] (by decide +kernel) (by decide +kernel)
set_option maxRecDepth 20000 in
theorem pgX13_text_L_pan_2 : GoodIn wsX13_text wsL_pan_r3 := goodIn_r _ [58, 59, 60, 61, 62, 63, 64, 65, 66, 67, 68, 69, 70, 71, 72, 73, 74, 75, 76, 77, 78, 79, 80, 81] (by decide +kernel) (by decide +kernel)
set_option maxRecDepth 20000 in
theorem pgX13_text_L_pan_3 : GoodIn wsX13_text wsL_pan_r4 := goodIn_r _ [82, 83, 84, 85, 86, 87, 88, 89, 90, 91, 92, 93, 94, 95, 96, 97, 98, 99, 100, 101, 102, 103, 104, 105] (by decide +kernel) (by decide +kernel)
set_option maxRecDepth 20000 in
theorem pgX13_text_L_pan_4 : GoodIn wsX13_text wsL_pan_r5 := goodIn_r _ [106, 107, 108, 109, 110, 111, 112, 113, 114, 115, 116, 117, 118, 119, 120, 121, 122, 123, 124, 125, 126, 127, 128, 129] (by decide +kernel) (by decide +kernel)
set_option maxRecDepth 20000 in
theorem pgX13_text_L_pan_5 : GoodIn wsX13_text wsL_pan_r6 := goodIn_r _ [130, 131, 132, 133, 134, 135, 136, 137, 138, 139, 140, 141, 142, 143, 144, 145, 146, 147, 148, 149, 150, 151, 152, 153] (by decide +kernel) (by decide +kernel)
set_option maxRecDepth 20000 in
theorem pgX13_text_L_pan_6 : GoodIn wsX13_text wsL_pan_r7 := goodIn_r _ [154, 155, 156, 157, 158, 159, 160, 161, 162, 163, 164, 165, 166, 167, 262, 263, 264, 265, 266, 267, 268, 269, 270, 271] (by decide +kernel) (by decide +kernel)
set_option maxRecDepth 20000 in
theorem pgX13_text_L_pan_7 : GoodIn wsX13_text wsL_pan_r8 := goodIn_r _ [272, 273, 274, 275, 276, 277, 278, 279, 280, 281, 282, 283, 284, 285, 206, 207, 208, 209, 210, 211, 212, 213, 214, 215] (by decide +kernel) (by decide +kernel)
set_option maxRecDepth 20000 in
theorem pgX13_text_L_pan_8 : GoodIn wsX13_text wsL_pan_r9 := goodIn_r _ [216, 217, 218, 219, 220, 221, 222, 223, 224, 225, 226, 227, 228, 229, 230, 231, 232, 233, 234, 235, 236, 237, 238, 239] (by decide +kernel) (by decide +kernel)
set_option maxRecDepth 20000 in
theorem pgX13_text_L_pan_9 : GoodIn wsX13_text wsL_pan_r10 := goodIn_r _ [240, 241, 242, 243, 244, 245, 246, 247, 248, 249, 250, 251, 252, 253, 254, 255] (by decide +kernel) (by decide +kernel)
set_option maxRecDepth 20000 in
theorem pgX13_text_L_pan_10 : GoodIn wsX13_text wsJ40 := goodIn_r _ [317, 318, 319, 320] (by decide +kernel) (by decide +kernel)
set_option maxRecDepth 20000 in
theorem pgX13_text_L_pan_11 : GoodIn wsX13_text wsJ00 := goodIn_r _ [321, 322, 323, 324] (by decide +kernel) (by decide +kernel)
set_option maxRecDepth 20000 in
theorem ggX13_text_L_pan : GoodIn wsX13_text wsL_pan := goodIn_ca (goodIn_ca (goodIn_ca pgX13_text_L_pan_0 (goodIn_app pgX13_text_L_pan_1 (goodIn_app pgX13_text_L_pan_2 (goodIn_app pgX13_text_L_pan_3 (goodIn_app pgX13_text_L_pan_4 (goodIn_app pgX13_text_L_pan_5 (goodIn_app pgX13_text_L_pan_6 (goodIn_app pgX13_text_L_pan_7 (goodIn_app pgX13_text_L_pan_8 (pgX13_text_L_pan_9)))))))))) pgX13_text_L_pan_10) pgX13_text_L_pan_11
set_option maxRecDepth 20000 in
theorem gX13_text_L_pan_n87 : GoodIn wsX13_text (wsL_pan) := ggX13_text_L_pan
set_option maxRecDepth 20000 in
theorem pgX13_text_J4_toString_0e30d_0 : GoodIn wsX13_text (Cond.code yJ4_toString_0e30d cJ4_toString_0e30d 1 (some (.object "java/lang/String")) :: wsJ4_toString_0e30d_r1) := goodIn_r _ [208, 209, 210, 107, 211, 212, 213, 214, 215, 216, 217, 21, 22, 129, 123, 128, 218, 219, 220, 221, 222, 18, 223, 25, 224] (by decide +kernel) (by decide +kernel)
set_option maxRecDepth 20000 in
theorem pgX13_text_J4_toString_0e30d_1 : GoodIn wsX13_text wsJ4_toString_0e30d_r2 := goodIn_r _ [225, 226, 227, 228, 4, 229, 230, 41, 231, 232, 44, 233, 91, 92, 93, 94, 23, 26, 234, 235, 75, 236, 77, 78] (by decide +kernel) (by decide +kernel)
set_option maxRecDepth 20000 in
theorem pgX13_text_J4_toString_0e30d_2 : GoodIn wsX13_text wsJ4_toString_0e30d_r3 := goodIn_r _ [79, 80, 81, 82, 237, 238, 239, 24, 83, 84, 67, 85, 86, 87, 88, 89, 240, 241, 242, 243, 244, 29, 245, 246] (by decide +kernel) (by decide +kernel)
set_option maxRecDepth 20000 in
theorem pgX13_text_J4_toString_0e30d_3 : GoodIn wsX13_text wsJ4_toString_0e30d_r4 := goodIn_r _ [247, 248, 153, 154, 155, 102, 103, 104, 156, 157, 158, 109, 159, 160, 112, 161, 249, 250, 251, 98, 117, 118, 31, 32] (by decide +kernel) (by decide +kernel)
set_option maxRecDepth 20000 in
theorem pgX13_text_J4_toString_0e30d_4 : GoodIn wsX13_text wsJ4_toString_0e30d_r5 := goodIn_r _ [33, 34, 252, 253, 254, 255] (by decide +kernel) (by decide +kernel)
set_option maxRecDepth 20000 in
theorem pgX13_text_J4_toString_0e30d_5 : GoodIn wsX13_text wsJ00 := goodIn_r _ [321, 322, 323, 324] (by decide +kernel) (by decide +kernel)
set_option maxRecDepth 20000 in
theorem pgX13_text_J4_toString_0e30d_6 : GoodIn wsX13_text wsJ40 := goodIn_r _ [317, 318, 319, 320] (by decide +kernel) (by decide +kernel)
set_option maxRecDepth 20000 in
theorem ggX13_text_J4_toString_0e30d : GoodIn wsX13_text wsJ4_toString_0e30d := goodIn_ca (goodIn_ca (goodIn_ca pgX13_text_J4_toString_0e30d_0 (goodIn_app pgX13_text_J4_toString_0e30d_1 (goodIn_app pgX13_text_J4_toString_0e30d_2 (goodIn_app pgX13_text_J4_toString_0e30d_3 (pgX13_text_J4_toString_0e30d_4))))) pgX13_text_J4_toString_0e30d_5) pgX13_text_J4_toString_0e30d_6
set_option maxRecDepth 20000 in
theorem gX13_text_J4_toString_0e30d : GoodIn wsX13_text (wsV RX13 78 RJ4 yJ4_toString_0e30d wsJ4_toString_0e30d) := goodIn_app (goodIn_of _ (by decide +kernel)) ggX13_text_J4_toString_0e30d
set_option maxRecDepth 20000 in
theorem pgX13_text_J4_append_cf468_0 : GoodIn wsX13_text (Cond.code yJ4_append_cf468 cJ4_append_cf468 2 (some (.object "java/lang/StringBuilder")) :: wsJ4_append_cf468_r1) := goodIn_r _ [265, 266, 267, 41, 268, 18, 269, 44, 25, 50, 51, 52, 53, 54, 26, 55, 56, 57, 58, 59, 60, 61, 62, 63, 64] (by decide +kernel) (by decide +kernel)
set_option maxRecDepth 20000 in
theorem pgX13_text_J4_append_cf468_1 : GoodIn wsX13_text wsJ4_append_cf468_r2 := goodIn_r _ [65, 66, 67, 68, 69, 70, 71, 72, 73, 74, 75, 76, 77, 78, 79, 80, 81, 82, 24, 83, 84, 85, 86, 87] (by decide +kernel) (by decide +kernel)
set_option maxRecDepth 20000 in
theorem pgX13_text_J4_append_cf468_2 : GoodIn wsX13_text wsJ4_append_cf468_r3 := goodIn_r _ [88, 89, 90, 91, 92, 93, 94, 23, 270, 271, 148, 272, 141, 142, 143, 144, 145, 27, 28, 29, 30, 31, 32, 33] (by decide +kernel) (by decide +kernel)
set_option maxRecDepth 20000 in
theorem pgX13_text_J4_append_cf468_3 : GoodIn wsX13_text wsJ4_append_cf468_r4 := goodIn_r _ [34, 146, 147, 149, 150, 151, 152, 153, 154, 155, 102, 103, 104, 156, 157, 107, 158, 109, 159, 160, 112, 161, 114, 115] (by decide +kernel) (by decide +kernel)
set_option maxRecDepth 20000 in
theorem pgX13_text_J4_append_cf468_4 : GoodIn wsX13_text wsJ4_append_cf468_r5 := goodIn_r _ [116, 98, 117, 118, 273, 274, 275, 276, 277, 278, 279, 280, 281, 282, 283, 284] (by decide +kernel) (by decide +kernel)
set_option maxRecDepth 20000 in
theorem pgX13_text_J4_append_cf468_5 : GoodIn wsX13_text wsJ40 := goodIn_r _ [317, 318, 319, 320] (by decide +kernel) (by decide +kernel)
set_option maxRecDepth 20000 in
theorem ggX13_text_J4_append_cf468 : GoodIn wsX13_text wsJ4_append_cf468 := goodIn_ca (goodIn_ca pgX13_text_J4_append_cf468_0 (goodIn_app pgX13_text_J4_append_cf468_1 (goodIn_app pgX13_text_J4_append_cf468_2 (goodIn_app pgX13_text_J4_append_cf468_3 (pgX13_text_J4_append_cf468_4))))) pgX13_text_J4_append_cf468_5
set_option maxRecDepth 20000 in
theorem gX13_text_J4_append_cf468 : GoodIn wsX13_text (wsV RX13 119 RJ4 yJ4_append_cf468 wsJ4_append_cf468) := goodIn_app (goodIn_of _ (by decide +kernel)) ggX13_text_J4_append_cf468
set_option maxRecDepth 20000 in
theorem pgX13_text_X13_texts_0 : GoodIn wsX13_text (Cond.code yX13_texts cX13_texts 6 (some (.object "java/lang/String")) :: wsX13_texts_r1) := goodIn_r _ [292, 2, 3, 4, 293, 294, 295, 296, 297, 18, 298, 20, 21, 22, 299, 60, 26, 24, 25, 119, 120, 121, 107, 122, 123] (by decide +kernel) (by decide +kernel)
set_option maxRecDepth 20000 in
theorem pgX13_text_X13_texts_1 : GoodIn wsX13_text wsX13_texts_r2 := goodIn_r _ [124, 125, 126, 127, 128, 129, 140, 27, 28, 29, 30, 31, 32, 33, 34, 300, 40, 301, 302, 303, 304, 305, 36, 37] (by decide +kernel) (by decide +kernel)
set_option maxRecDepth 20000 in
theorem pgX13_text_X13_texts_2 : GoodIn wsX13_text wsX13_texts_r3 := goodIn_r _ [38, 39, 41, 42, 43, 44, 45, 46, 47, 48, 49, 50, 51, 52, 53, 54, 55, 56, 57, 58, 59, 61, 62, 63] (by decide +kernel) (by decide +kernel)
set_option maxRecDepth 20000 in
theorem pgX13_text_X13_texts_3 : GoodIn wsX13_text wsX13_texts_r4 := goodIn_r _ [64, 65, 66, 67, 68, 69, 70, 71, 72, 73, 74, 75, 76, 77, 78, 79, 80, 81, 82, 83, 84, 85, 86, 87] (by decide +kernel) (by decide +kernel)
set_option maxRecDepth 20000 in
theorem pgX13_text_X13_texts_4 : GoodIn wsX13_text wsX13_texts_r5 := goodIn_r _ [88, 89, 90, 91, 92, 93, 94, 23, 95, 96, 97, 98, 99, 100, 101, 102, 103, 104, 105, 106, 108, 109, 110, 111] (by decide +kernel) (by decide +kernel)
set_option maxRecDepth 20000 in
theorem pgX13_text_X13_texts_5 : GoodIn wsX13_text wsX13_texts_r6 := goodIn_r _ [112, 113, 114, 115, 116, 117, 118, 130, 131, 132, 133, 134, 135, 136, 137, 138, 139, 141, 142, 143, 144, 145, 146, 147] (by decide +kernel) (by decide +kernel)
set_option maxRecDepth 20000 in
theorem pgX13_text_X13_texts_6 : GoodIn wsX13_text wsX13_texts_r7 := goodIn_r _ [148, 149, 150, 151, 152, 153, 154, 155, 156, 157, 158, 159, 160, 161, 162, 163, 164, 165, 166, 167, 306, 307, 308, 291] (by decide +kernel) (by decide +kernel)
set_option maxRecDepth 20000 in
theorem pgX13_text_X13_texts_7 : GoodIn wsX13_text wsX13_texts_r8 := goodIn_r _ [35, 287, 206, 207, 208, 209, 210, 211, 212, 213, 214, 215, 216, 217, 218, 219, 220, 221, 222, 223, 224, 225, 226, 227] (by decide +kernel) (by decide +kernel)
set_option maxRecDepth 20000 in
theorem pgX13_text_X13_texts_8 : GoodIn wsX13_text wsX13_texts_r9 := goodIn_r _ [228, 229, 230, 231, 232, 233, 234, 235, 236, 237, 238, 239, 240, 241, 242, 243, 244, 245, 246, 247, 248, 249, 250, 251] (by decide +kernel) (by decide +kernel)
set_option maxRecDepth 20000 in
theorem pgX13_text_X13_texts_9 : GoodIn wsX13_text wsX13_texts_r10 := goodIn_r _ [252, 253, 254, 255, 0, 1, 5, 6, 7, 8, 9, 10, 11, 12, 13, 14, 15, 16, 17, 19, 168, 169, 170, 171] (by decide +kernel) (by decide +kernel)
set_option maxRecDepth 20000 in
theorem pgX13_text_X13_texts_10 : GoodIn wsX13_text wsX13_texts_r11 := goodIn_r _ [172, 173, 174, 175, 176, 177, 178, 179, 180, 181, 182, 183, 184, 185, 186, 187, 188, 189, 190, 191, 192, 193, 194, 195] (by decide +kernel) (by decide +kernel)
set_option maxRecDepth 20000 in
theorem pgX13_text_X13_texts_11 : GoodIn wsX13_text wsX13_texts_r12 := goodIn_r _ [196, 197, 198, 199, 200, 201, 202, 203, 204, 205, 256, 257, 258, 259, 260, 261, 262, 263, 264, 265, 266, 267, 268, 269] (by decide +kernel) (by decide +kernel)
set_option maxRecDepth 20000 in
theorem pgX13_text_X13_texts_12 : GoodIn wsX13_text wsX13_texts_r13 := goodIn_r _ [270, 271, 272, 273, 274, 275, 276, 277, 278, 279, 280, 281, 282, 283, 284, 285, 286, 288, 289, 290] (by decide +kernel) (by decide +kernel)
set_option maxRecDepth 20000 in
theorem pgX13_text_X13_texts_13 : GoodIn wsX13_text wsX130 := goodIn_r _ [309, 310, 311, 312, 313, 314, 315, 316] (by decide +kernel) (by decide +kernel)
set_option maxRecDepth 20000 in
theorem pgX13_text_X13_texts_14 : GoodIn wsX13_text wsJ40 := goodIn_r _ [317, 318, 319, 320] (by decide +kernel) (by decide +kernel)
set_option maxRecDepth 20000 in
theorem pgX13_text_X13_texts_15 : GoodIn wsX13_text wsJ00 := goodIn_r _ [321, 322, 323, 324] (by decide +kernel) (by decide +kernel)
set_option maxRecDepth 20000 in
theorem pgX13_text_X13_texts_16 : GoodIn wsX13_text wsX160 := goodIn_r _ [325, 326, 327, 328] (by decide +kernel) (by decide +kernel)
set_option maxRecDepth 20000 in
theorem ggX13_text_X13_texts : GoodIn wsX13_text wsX13_texts := goodIn_ca (goodIn_ca (goodIn_ca (goodIn_ca (goodIn_ca pgX13_text_X13_texts_0 (goodIn_app pgX13_text_X13_texts_1 (goodIn_app pgX13_text_X13_texts_2 (goodIn_app pgX13_text_X13_texts_3 (goodIn_app pgX13_text_X13_texts_4 (goodIn_app pgX13_text_X13_texts_5 (goodIn_app pgX13_text_X13_texts_6 (goodIn_app pgX13_text_X13_texts_7 (goodIn_app pgX13_text_X13_texts_8 (goodIn_app pgX13_text_X13_texts_9 (goodIn_app pgX13_text_X13_texts_10 (goodIn_app pgX13_text_X13_texts_11 (pgX13_text_X13_texts_12))))))))))))) pgX13_text_X13_texts_13) pgX13_text_X13_texts_14) pgX13_text_X13_texts_15) pgX13_text_X13_texts_16
set_option maxRecDepth 20000 in
theorem gX13_text_X13_texts : GoodIn wsX13_text (va_wsS RX13 124 yX13_texts wsX13_texts) := goodIn_app (goodIn_of _ (by decide +kernel)) ggX13_text_X13_texts
theorem dX13_text_0 : decode cX13_text 0 = .ok (.aload_n 0, 1) := by decide +kernel
theorem dX13_text_1 : decode cX13_text 1 = .ok (.getfield 37, 3) := by decide +kernel
theorem dX13_text_4 : decode cX13_text 4 = .ok (.tableswitch 397 0 8 #[52, 98, 144, 190, 236, 267, 298, 329, 361], 52) := by decide +kernel
theorem dX13_text_56 : decode cX13_text 56 = .ok (.new 61, 3) := by decide +kernel
theorem dX13_text_59 : decode cX13_text 59 = .ok (.dup, 1) := by decide +kernel
theorem dX13_text_60 : decode cX13_text 60 = .ok (.invokespecial 81, 3) := by decide +kernel
theorem dX13_text_63 : decode cX13_text 63 = .ok (.ldc 82, 2) := by decide +kernel
theorem dX13_text_65 : decode cX13_text 65 = .ok (.invokevirtual 72, 3) := by decide +kernel
theorem dX13_text_68 : decode cX13_text 68 = .ok (.aload_n 0, 1) := by decide +kernel
theorem dX13_text_69 : decode cX13_text 69 = .ok (.getfield 47, 3) := by decide +kernel
theorem dX13_text_72 : decode cX13_text 72 = .ok (.invokevirtual 84, 3) := by decide +kernel
theorem dX13_text_75 : decode cX13_text 75 = .ok (.invokevirtual 72, 3) := by decide +kernel
theorem dX13_text_78 : decode cX13_text 78 = .ok (.ldc 85, 2) := by decide +kernel
theorem dX13_text_80 : decode cX13_text 80 = .ok (.invokevirtual 72, 3) := by decide +kernel
theorem dX13_text_83 : decode cX13_text 83 = .ok (.aload_n 0, 1) := by decide +kernel
theorem dX13_text_84 : decode cX13_text 84 = .ok (.getfield 41, 3) := by decide +kernel
theorem dX13_text_87 : decode cX13_text 87 = .ok (.invokestatic 87, 3) := by decide +kernel
theorem dX13_text_90 : decode cX13_text 90 = .ok (.invokevirtual 72, 3) := by decide +kernel
theorem dX13_text_93 : decode cX13_text 93 = .ok (.ldc 93, 2) := by decide +kernel
theorem dX13_text_95 : decode cX13_text 95 = .ok (.invokevirtual 72, 3) := by decide +kernel
theorem dX13_text_98 : decode cX13_text 98 = .ok (.invokevirtual 78, 3) := by decide +kernel
theorem dX13_text_101 : decode cX13_text 101 = .ok (.areturn, 1) := by decide +kernel
theorem dX13_text_102 : decode cX13_text 102 = .ok (.new 61, 3) := by decide +kernel
theorem dX13_text_105 : decode cX13_text 105 = .ok (.dup, 1) := by decide +kernel
theorem dX13_text_106 : decode cX13_text 106 = .ok (.invokespecial 81, 3) := by decide +kernel
theorem dX13_text_109 : decode cX13_text 109 = .ok (.ldc 82, 2) := by decide +kernel
theorem dX13_text_111 : decode cX13_text 111 = .ok (.invokevirtual 72, 3) := by decide +kernel
theorem dX13_text_114 : decode cX13_text 114 = .ok (.aload_n 0, 1) := by decide +kernel
theorem dX13_text_115 : decode cX13_text 115 = .ok (.getfield 47, 3) := by decide +kernel
theorem dX13_text_118 : decode cX13_text 118 = .ok (.invokevirtual 84, 3) := by decide +kernel
theorem dX13_text_121 : decode cX13_text 121 = .ok (.invokevirtual 72, 3) := by decide +kernel
theorem dX13_text_124 : decode cX13_text 124 = .ok (.ldc 95, 2) := by decide +kernel
theorem dX13_text_126 : decode cX13_text 126 = .ok (.invokevirtual 72, 3) := by decide +kernel
theorem dX13_text_129 : decode cX13_text 129 = .ok (.aload_n 0, 1) := by decide +kernel
theorem dX13_text_130 : decode cX13_text 130 = .ok (.getfield 41, 3) := by decide +kernel
theorem dX13_text_133 : decode cX13_text 133 = .ok (.invokestatic 87, 3) := by decide +kernel
theorem dX13_text_136 : decode cX13_text 136 = .ok (.invokevirtual 72, 3) := by decide +kernel
theorem dX13_text_139 : decode cX13_text 139 = .ok (.ldc 97, 2) := by decide +kernel
theorem dX13_text_141 : decode cX13_text 141 = .ok (.invokevirtual 72, 3) := by decide +kernel
theorem dX13_text_144 : decode cX13_text 144 = .ok (.invokevirtual 78, 3) := by decide +kernel
theorem dX13_text_147 : decode cX13_text 147 = .ok (.areturn, 1) := by decide +kernel
theorem dX13_text_148 : decode cX13_text 148 = .ok (.new 61, 3) := by decide +kernel
theorem dX13_text_151 : decode cX13_text 151 = .ok (.dup, 1) := by decide +kernel
theorem dX13_text_152 : decode cX13_text 152 = .ok (.invokespecial 81, 3) := by decide +kernel
theorem dX13_text_155 : decode cX13_text 155 = .ok (.ldc 99, 2) := by decide +kernel
theorem dX13_text_157 : decode cX13_text 157 = .ok (.invokevirtual 72, 3) := by decide +kernel
theorem dX13_text_160 : decode cX13_text 160 = .ok (.aload_n 0, 1) := by decide +kernel
theorem dX13_text_161 : decode cX13_text 161 = .ok (.getfield 41, 3) := by decide +kernel
theorem dX13_text_164 : decode cX13_text 164 = .ok (.invokestatic 87, 3) := by decide +kernel
theorem dX13_text_167 : decode cX13_text 167 = .ok (.invokevirtual 72, 3) := by decide +kernel
theorem dX13_text_170 : decode cX13_text 170 = .ok (.ldc 101, 2) := by decide +kernel
theorem dX13_text_172 : decode cX13_text 172 = .ok (.invokevirtual 72, 3) := by decide +kernel
theorem dX13_text_175 : decode cX13_text 175 = .ok (.aload_n 0, 1) := by decide +kernel
theorem dX13_text_176 : decode cX13_text 176 = .ok (.getfield 47, 3) := by decide +kernel
theorem dX13_text_179 : decode cX13_text 179 = .ok (.invokevirtual 84, 3) := by decide +kernel
theorem dX13_text_182 : decode cX13_text 182 = .ok (.invokevirtual 72, 3) := by decide +kernel
theorem dX13_text_185 : decode cX13_text 185 = .ok (.ldc 93, 2) := by decide +kernel
theorem dX13_text_187 : decode cX13_text 187 = .ok (.invokevirtual 72, 3) := by decide +kernel
theorem dX13_text_190 : decode cX13_text 190 = .ok (.invokevirtual 78, 3) := by decide +kernel
theorem dX13_text_193 : decode cX13_text 193 = .ok (.areturn, 1) := by decide +kernel
theorem dX13_text_194 : decode cX13_text 194 = .ok (.new 61, 3) := by decide +kernel
theorem dX13_text_197 : decode cX13_text 197 = .ok (.dup, 1) := by decide +kernel
theorem dX13_text_198 : decode cX13_text 198 = .ok (.invokespecial 81, 3) := by decide +kernel
theorem dX13_text_201 : decode cX13_text 201 = .ok (.ldc 103, 2) := by decide +kernel
theorem dX13_text_203 : decode cX13_text 203 = .ok (.invokevirtual 72, 3) := by decide +kernel
theorem dX13_text_206 : decode cX13_text 206 = .ok (.aload_n 0, 1) := by decide +kernel
theorem dX13_text_207 : decode cX13_text 207 = .ok (.getfield 41, 3) := by decide +kernel
theorem dX13_text_210 : decode cX13_text 210 = .ok (.invokestatic 87, 3) := by decide +kernel
theorem dX13_text_213 : decode cX13_text 213 = .ok (.invokevirtual 72, 3) := by decide +kernel
theorem dX13_text_216 : decode cX13_text 216 = .ok (.ldc 105, 2) := by decide +kernel
theorem dX13_text_218 : decode cX13_text 218 = .ok (.invokevirtual 72, 3) := by decide +kernel
theorem dX13_text_221 : decode cX13_text 221 = .ok (.aload_n 0, 1) := by decide +kernel
theorem dX13_text_222 : decode cX13_text 222 = .ok (.getfield 47, 3) := by decide +kernel
theorem dX13_text_225 : decode cX13_text 225 = .ok (.invokevirtual 84, 3) := by decide +kernel
theorem dX13_text_228 : decode cX13_text 228 = .ok (.invokevirtual 72, 3) := by decide +kernel
theorem dX13_text_231 : decode cX13_text 231 = .ok (.ldc 107, 2) := by decide +kernel
theorem dX13_text_233 : decode cX13_text 233 = .ok (.invokevirtual 72, 3) := by decide +kernel
theorem dX13_text_236 : decode cX13_text 236 = .ok (.invokevirtual 78, 3) := by decide +kernel
theorem dX13_text_239 : decode cX13_text 239 = .ok (.areturn, 1) := by decide +kernel
theorem dX13_text_240 : decode cX13_text 240 = .ok (.new 61, 3) := by decide +kernel
theorem dX13_text_243 : decode cX13_text 243 = .ok (.dup, 1) := by decide +kernel
theorem dX13_text_244 : decode cX13_text 244 = .ok (.invokespecial 81, 3) := by decide +kernel
theorem dX13_text_247 : decode cX13_text 247 = .ok (.ldc 109, 2) := by decide +kernel
theorem dX13_text_249 : decode cX13_text 249 = .ok (.invokevirtual 72, 3) := by decide +kernel
theorem dX13_text_252 : decode cX13_text 252 = .ok (.aload_n 0, 1) := by decide +kernel
theorem dX13_text_253 : decode cX13_text 253 = .ok (.getfield 41, 3) := by decide +kernel
theorem dX13_text_256 : decode cX13_text 256 = .ok (.invokestatic 87, 3) := by decide +kernel
theorem dX13_text_259 : decode cX13_text 259 = .ok (.invokevirtual 72, 3) := by decide +kernel
theorem dX13_text_262 : decode cX13_text 262 = .ok (.ldc 93, 2) := by decide +kernel
theorem dX13_text_264 : decode cX13_text 264 = .ok (.invokevirtual 72, 3) := by decide +kernel
theorem dX13_text_267 : decode cX13_text 267 = .ok (.invokevirtual 78, 3) := by decide +kernel
theorem dX13_text_270 : decode cX13_text 270 = .ok (.areturn, 1) := by decide +kernel
theorem dX13_text_271 : decode cX13_text 271 = .ok (.new 61, 3) := by decide +kernel
theorem dX13_text_274 : decode cX13_text 274 = .ok (.dup, 1) := by decide +kernel
theorem dX13_text_275 : decode cX13_text 275 = .ok (.invokespecial 81, 3) := by decide +kernel
theorem dX13_text_278 : decode cX13_text 278 = .ok (.ldc 111, 2) := by decide +kernel
theorem dX13_text_280 : decode cX13_text 280 = .ok (.invokevirtual 72, 3) := by decide +kernel
theorem dX13_text_283 : decode cX13_text 283 = .ok (.aload_n 0, 1) := by decide +kernel
theorem dX13_text_284 : decode cX13_text 284 = .ok (.getfield 47, 3) := by decide +kernel
theorem dX13_text_287 : decode cX13_text 287 = .ok (.invokevirtual 84, 3) := by decide +kernel
theorem dX13_text_290 : decode cX13_text 290 = .ok (.invokevirtual 72, 3) := by decide +kernel
theorem dX13_text_293 : decode cX13_text 293 = .ok (.ldc 113, 2) := by decide +kernel
theorem dX13_text_295 : decode cX13_text 295 = .ok (.invokevirtual 72, 3) := by decide +kernel
theorem dX13_text_298 : decode cX13_text 298 = .ok (.invokevirtual 78, 3) := by decide +kernel
theorem dX13_text_301 : decode cX13_text 301 = .ok (.areturn, 1) := by decide +kernel
theorem dX13_text_302 : decode cX13_text 302 = .ok (.new 61, 3) := by decide +kernel
theorem dX13_text_305 : decode cX13_text 305 = .ok (.dup, 1) := by decide +kernel
theorem dX13_text_306 : decode cX13_text 306 = .ok (.invokespecial 81, 3) := by decide +kernel
theorem dX13_text_309 : decode cX13_text 309 = .ok (.ldc 115, 2) := by decide +kernel
theorem dX13_text_311 : decode cX13_text 311 = .ok (.invokevirtual 72, 3) := by decide +kernel
theorem dX13_text_314 : decode cX13_text 314 = .ok (.aload_n 0, 1) := by decide +kernel
theorem dX13_text_315 : decode cX13_text 315 = .ok (.getfield 47, 3) := by decide +kernel
theorem dX13_text_318 : decode cX13_text 318 = .ok (.invokevirtual 84, 3) := by decide +kernel
theorem dX13_text_321 : decode cX13_text 321 = .ok (.invokevirtual 72, 3) := by decide +kernel
theorem dX13_text_324 : decode cX13_text 324 = .ok (.ldc 93, 2) := by decide +kernel
theorem dX13_text_326 : decode cX13_text 326 = .ok (.invokevirtual 72, 3) := by decide +kernel
theorem dX13_text_329 : decode cX13_text 329 = .ok (.invokevirtual 78, 3) := by decide +kernel
theorem dX13_text_332 : decode cX13_text 332 = .ok (.areturn, 1) := by decide +kernel
theorem dX13_text_333 : decode cX13_text 333 = .ok (.new 61, 3) := by decide +kernel
theorem dX13_text_336 : decode cX13_text 336 = .ok (.dup, 1) := by decide +kernel
theorem dX13_text_337 : decode cX13_text 337 = .ok (.invokespecial 81, 3) := by decide +kernel
theorem dX13_text_340 : decode cX13_text 340 = .ok (.ldc 117, 2) := by decide +kernel
theorem dX13_text_342 : decode cX13_text 342 = .ok (.invokevirtual 72, 3) := by decide +kernel
theorem dX13_text_345 : decode cX13_text 345 = .ok (.bipush 97, 2) := by decide +kernel
theorem dX13_text_347 : decode cX13_text 347 = .ok (.aload_n 0, 1) := by decide +kernel
theorem dX13_text_348 : decode cX13_text 348 = .ok (.getfield 41, 3) := by decide +kernel
theorem dX13_text_351 : decode cX13_text 351 = .ok (.iadd, 1) := by decide +kernel
theorem dX13_text_352 : decode cX13_text 352 = .ok (.i2c, 1) := by decide +kernel
theorem dX13_text_353 : decode cX13_text 353 = .ok (.invokevirtual 119, 3) := by decide +kernel
theorem dX13_text_356 : decode cX13_text 356 = .ok (.ldc 93, 2) := by decide +kernel
theorem dX13_text_358 : decode cX13_text 358 = .ok (.invokevirtual 72, 3) := by decide +kernel
theorem dX13_text_361 : decode cX13_text 361 = .ok (.invokevirtual 78, 3) := by decide +kernel
theorem dX13_text_364 : decode cX13_text 364 = .ok (.areturn, 1) := by decide +kernel
theorem dX13_text_365 : decode cX13_text 365 = .ok (.new 61, 3) := by decide +kernel
theorem dX13_text_368 : decode cX13_text 368 = .ok (.dup, 1) := by decide +kernel
theorem dX13_text_369 : decode cX13_text 369 = .ok (.invokespecial 81, 3) := by decide +kernel
theorem dX13_text_372 : decode cX13_text 372 = .ok (.ldc 122, 2) := by decide +kernel
theorem dX13_text_374 : decode cX13_text 374 = .ok (.invokevirtual 72, 3) := by decide +kernel
theorem dX13_text_377 : decode cX13_text 377 = .ok (.aload_n 0, 1) := by decide +kernel
theorem dX13_text_378 : decode cX13_text 378 = .ok (.getfield 47, 3) := by decide +kernel
theorem dX13_text_381 : decode cX13_text 381 = .ok (.invokevirtual 84, 3) := by decide +kernel
theorem dX13_text_384 : decode cX13_text 384 = .ok (.invokevirtual 72, 3) := by decide +kernel
theorem dX13_text_387 : decode cX13_text 387 = .ok (.aload_n 0, 1) := by decide +kernel
theorem dX13_text_388 : decode cX13_text 388 = .ok (.getfield 22, 3) := by decide +kernel
theorem dX13_text_391 : decode cX13_text 391 = .ok (.invokestatic 124, 3) := by decide +kernel
theorem dX13_text_394 : decode cX13_text 394 = .ok (.invokevirtual 72, 3) := by decide +kernel
theorem dX13_text_397 : decode cX13_text 397 = .ok (.invokevirtual 78, 3) := by decide +kernel
theorem dX13_text_400 : decode cX13_text 400 = .ok (.areturn, 1) := by decide +kernel
theorem dX13_text_401 : decode cX13_text 401 = .ok (.new 61, 3) := by decide +kernel
theorem dX13_text_404 : decode cX13_text 404 = .ok (.dup, 1) := by decide +kernel
theorem dX13_text_405 : decode cX13_text 405 = .ok (.invokespecial 81, 3) := by decide +kernel
theorem dX13_text_408 : decode cX13_text 408 = .ok (.astore_n 1, 1) := by decide +kernel
theorem dX13_text_409 : decode cX13_text 409 = .ok (.iconst 0, 1) := by decide +kernel
theorem dX13_text_410 : decode cX13_text 410 = .ok (.istore_n 2, 1) := by decide +kernel
theorem dX13_text_411 : decode cX13_text 411 = .ok (.iload_n 2, 1) := by decide +kernel
theorem dX13_text_412 : decode cX13_text 412 = .ok (.aload_n 0, 1) := by decide +kernel
theorem dX13_text_413 : decode cX13_text 413 = .ok (.getfield 7, 3) := by decide +kernel
theorem dX13_text_416 : decode cX13_text 416 = .ok (.arraylength, 1) := by decide +kernel
theorem dX13_text_417 : decode cX13_text 417 = .ok (.if_icmp .ge 62, 3) := by decide +kernel
theorem dX13_text_420 : decode cX13_text 420 = .ok (.aload_n 1, 1) := by decide +kernel
theorem dX13_text_421 : decode cX13_text 421 = .ok (.iload_n 2, 1) := by decide +kernel
theorem dX13_text_422 : decode cX13_text 422 = .ok (.ifCond .ne 8, 3) := by decide +kernel
theorem dX13_text_425 : decode cX13_text 425 = .ok (.ldc 128, 2) := by decide +kernel
theorem dX13_text_427 : decode cX13_text 427 = .ok (.goto 5, 3) := by decide +kernel
theorem dX13_text_430 : decode cX13_text 430 = .ok (.ldc 130, 2) := by decide +kernel
theorem dX13_text_432 : decode cX13_text 432 = .ok (.invokevirtual 72, 3) := by decide +kernel
theorem dX13_text_435 : decode cX13_text 435 = .ok (.aload_n 0, 1) := by decide +kernel
theorem dX13_text_436 : decode cX13_text 436 = .ok (.getfield 15, 3) := by decide +kernel
theorem dX13_text_439 : decode cX13_text 439 = .ok (.iload_n 2, 1) := by decide +kernel
theorem dX13_text_440 : decode cX13_text 440 = .ok (.aaload, 1) := by decide +kernel
theorem dX13_text_441 : decode cX13_text 441 = .ok (.invokevirtual 84, 3) := by decide +kernel
theorem dX13_text_444 : decode cX13_text 444 = .ok (.invokevirtual 72, 3) := by decide +kernel
theorem dX13_text_447 : decode cX13_text 447 = .ok (.getstatic 132, 3) := by decide +kernel
theorem dX13_text_450 : decode cX13_text 450 = .ok (.aload_n 0, 1) := by decide +kernel
theorem dX13_text_451 : decode cX13_text 451 = .ok (.getfield 7, 3) := by decide +kernel
theorem dX13_text_454 : decode cX13_text 454 = .ok (.iload_n 2, 1) := by decide +kernel
theorem dX13_text_455 : decode cX13_text 455 = .ok (.iaload, 1) := by decide +kernel
theorem dX13_text_456 : decode cX13_text 456 = .ok (.aaload, 1) := by decide +kernel
theorem dX13_text_457 : decode cX13_text 457 = .ok (.invokevirtual 72, 3) := by decide +kernel
theorem dX13_text_460 : decode cX13_text 460 = .ok (.aload_n 0, 1) := by decide +kernel
theorem dX13_text_461 : decode cX13_text 461 = .ok (.getfield 19, 3) := by decide +kernel
theorem dX13_text_464 : decode cX13_text 464 = .ok (.iload_n 2, 1) := by decide +kernel
theorem dX13_text_465 : decode cX13_text 465 = .ok (.aaload, 1) := by decide +kernel
theorem dX13_text_466 : decode cX13_text 466 = .ok (.invokevirtual 84, 3) := by decide +kernel
theorem dX13_text_469 : decode cX13_text 469 = .ok (.invokevirtual 72, 3) := by decide +kernel
theorem dX13_text_472 : decode cX13_text 472 = .ok (.pop, 1) := by decide +kernel
theorem dX13_text_473 : decode cX13_text 473 = .ok (.iinc 2 1, 3) := by decide +kernel
theorem dX13_text_476 : decode cX13_text 476 = .ok (.goto (-65), 3) := by decide +kernel
theorem dX13_text_479 : decode cX13_text 479 = .ok (.aload_n 1, 1) := by decide +kernel
theorem dX13_text_480 : decode cX13_text 480 = .ok (.aload_n 0, 1) := by decide +kernel
theorem dX13_text_481 : decode cX13_text 481 = .ok (.getfield 22, 3) := by decide +kernel
theorem dX13_text_484 : decode cX13_text 484 = .ok (.invokestatic 124, 3) := by decide +kernel
theorem dX13_text_487 : decode cX13_text 487 = .ok (.invokevirtual 72, 3) := by decide +kernel
theorem dX13_text_490 : decode cX13_text 490 = .ok (.pop, 1) := by decide +kernel
theorem dX13_text_491 : decode cX13_text 491 = .ok (.aload_n 0, 1) := by decide +kernel
theorem dX13_text_492 : decode cX13_text 492 = .ok (.getfield 58, 3) := by decide +kernel
theorem dX13_text_495 : decode cX13_text 495 = .ok (.ifnull 20, 3) := by decide +kernel
theorem dX13_text_498 : decode cX13_text 498 = .ok (.aload_n 1, 1) := by decide +kernel
theorem dX13_text_499 : decode cX13_text 499 = .ok (.ldc 136, 2) := by decide +kernel
theorem dX13_text_501 : decode cX13_text 501 = .ok (.invokevirtual 72, 3) := by decide +kernel
theorem dX13_text_504 : decode cX13_text 504 = .ok (.aload_n 0, 1) := by decide +kernel
theorem dX13_text_505 : decode cX13_text 505 = .ok (.getfield 58, 3) := by decide +kernel
theorem dX13_text_508 : decode cX13_text 508 = .ok (.invokestatic 124, 3) := by decide +kernel
theorem dX13_text_511 : decode cX13_text 511 = .ok (.invokevirtual 72, 3) := by decide +kernel
theorem dX13_text_514 : decode cX13_text 514 = .ok (.pop, 1) := by decide +kernel
theorem dX13_text_515 : decode cX13_text 515 = .ok (.aload_n 1, 1) := by decide +kernel
theorem dX13_text_516 : decode cX13_text 516 = .ok (.invokevirtual 78, 3) := by decide +kernel
theorem dX13_text_519 : decode cX13_text 519 = .ok (.areturn, 1) := by decide +kernel
set_option maxRecDepth 20000 in
theorem ggX13_isSo_X16_value : GoodIn wsX13_isSo wsX16_value := goodIn_r _ [8, 9, 10, 11, 12, 13, 14, 15, 16, 17, 18, 5, 6, 7, 19, 20, 21, 22, 23, 24, 25, 26, 27, 28, 29, 38, 39, 40, 41, 42, 43, 44, 45, 46, 47, 48, 49, 50, 51, 52, 53] (by decide +kernel) (by decide +kernel)
set_option maxRecDepth 20000 in
theorem gX13_isSo_X16_value : GoodIn wsX13_isSo (wsV RX13 138 RX16 yX16_value wsX16_value) := goodIn_app (goodIn_of _ (by decide +kernel)) ggX13_isSo_X16_value
theorem dX13_isSo_0 : decode cX13_isSo 0 = .ok (.iconst 1, 1) := by decide +kernel
theorem dX13_isSo_1 : decode cX13_isSo 1 = .ok (.istore_n 2, 1) := by decide +kernel
theorem dX13_isSo_2 : decode cX13_isSo 2 = .ok (.iconst 0, 1) := by decide +kernel
theorem dX13_isSo_3 : decode cX13_isSo 3 = .ok (.istore_n 3, 1) := by decide +kernel
theorem dX13_isSo_4 : decode cX13_isSo 4 = .ok (.iload_n 3, 1) := by decide +kernel
theorem dX13_isSo_5 : decode cX13_isSo 5 = .ok (.aload_n 0, 1) := by decide +kernel
theorem dX13_isSo_6 : decode cX13_isSo 6 = .ok (.getfield 7, 3) := by decide +kernel
theorem dX13_isSo_9 : decode cX13_isSo 9 = .ok (.arraylength, 1) := by decide +kernel
theorem dX13_isSo_10 : decode cX13_isSo 10 = .ok (.if_icmp .ge 97, 3) := by decide +kernel
theorem dX13_isSo_13 : decode cX13_isSo 13 = .ok (.aload_n 0, 1) := by decide +kernel
theorem dX13_isSo_14 : decode cX13_isSo 14 = .ok (.getfield 15, 3) := by decide +kernel
theorem dX13_isSo_17 : decode cX13_isSo 17 = .ok (.iload_n 3, 1) := by decide +kernel
theorem dX13_isSo_18 : decode cX13_isSo 18 = .ok (.aaload, 1) := by decide +kernel
theorem dX13_isSo_19 : decode cX13_isSo 19 = .ok (.aload_n 1, 1) := by decide +kernel
theorem dX13_isSo_20 : decode cX13_isSo 20 = .ok (.invokevirtual 138, 3) := by decide +kernel
theorem dX13_isSo_23 : decode cX13_isSo 23 = .ok (.istore 4, 2) := by decide +kernel
theorem dX13_isSo_25 : decode cX13_isSo 25 = .ok (.aload_n 0, 1) := by decide +kernel
theorem dX13_isSo_26 : decode cX13_isSo 26 = .ok (.getfield 19, 3) := by decide +kernel
theorem dX13_isSo_29 : decode cX13_isSo 29 = .ok (.iload_n 3, 1) := by decide +kernel
theorem dX13_isSo_30 : decode cX13_isSo 30 = .ok (.aaload, 1) := by decide +kernel
theorem dX13_isSo_31 : decode cX13_isSo 31 = .ok (.aload_n 1, 1) := by decide +kernel
theorem dX13_isSo_32 : decode cX13_isSo 32 = .ok (.invokevirtual 138, 3) := by decide +kernel
theorem dX13_isSo_35 : decode cX13_isSo 35 = .ok (.istore 5, 2) := by decide +kernel
theorem dX13_isSo_37 : decode cX13_isSo 37 = .ok (.iload_n 2, 1) := by decide +kernel
theorem dX13_isSo_38 : decode cX13_isSo 38 = .ok (.aload_n 0, 1) := by decide +kernel
theorem dX13_isSo_39 : decode cX13_isSo 39 = .ok (.getfield 7, 3) := by decide +kernel
theorem dX13_isSo_42 : decode cX13_isSo 42 = .ok (.iload_n 3, 1) := by decide +kernel
theorem dX13_isSo_43 : decode cX13_isSo 43 = .ok (.iaload, 1) := by decide +kernel
theorem dX13_isSo_44 : decode cX13_isSo 44 = .ok (.ifCond .ne 18, 3) := by decide +kernel
theorem dX13_isSo_47 : decode cX13_isSo 47 = .ok (.iload 4, 2) := by decide +kernel
theorem dX13_isSo_49 : decode cX13_isSo 49 = .ok (.iload 5, 2) := by decide +kernel
theorem dX13_isSo_51 : decode cX13_isSo 51 = .ok (.if_icmp .ge 7, 3) := by decide +kernel
theorem dX13_isSo_54 : decode cX13_isSo 54 = .ok (.iconst 1, 1) := by decide +kernel
theorem dX13_isSo_55 : decode cX13_isSo 55 = .ok (.goto 44, 3) := by decide +kernel
theorem dX13_isSo_58 : decode cX13_isSo 58 = .ok (.iconst 0, 1) := by decide +kernel
theorem dX13_isSo_59 : decode cX13_isSo 59 = .ok (.goto 40, 3) := by decide +kernel
theorem dX13_isSo_62 : decode cX13_isSo 62 = .ok (.aload_n 0, 1) := by decide +kernel
theorem dX13_isSo_63 : decode cX13_isSo 63 = .ok (.getfield 7, 3) := by decide +kernel
theorem dX13_isSo_66 : decode cX13_isSo 66 = .ok (.iload_n 3, 1) := by decide +kernel
theorem dX13_isSo_67 : decode cX13_isSo 67 = .ok (.iaload, 1) := by decide +kernel
theorem dX13_isSo_68 : decode cX13_isSo 68 = .ok (.iconst 1, 1) := by decide +kernel
theorem dX13_isSo_69 : decode cX13_isSo 69 = .ok (.if_icmp .ne 18, 3) := by decide +kernel
theorem dX13_isSo_72 : decode cX13_isSo 72 = .ok (.iload 4, 2) := by decide +kernel
theorem dX13_isSo_74 : decode cX13_isSo 74 = .ok (.iload 5, 2) := by decide +kernel
theorem dX13_isSo_76 : decode cX13_isSo 76 = .ok (.if_icmp .le 7, 3) := by decide +kernel
theorem dX13_isSo_79 : decode cX13_isSo 79 = .ok (.iconst 1, 1) := by decide +kernel
theorem dX13_isSo_80 : decode cX13_isSo 80 = .ok (.goto 19, 3) := by decide +kernel
theorem dX13_isSo_83 : decode cX13_isSo 83 = .ok (.iconst 0, 1) := by decide +kernel
theorem dX13_isSo_84 : decode cX13_isSo 84 = .ok (.goto 15, 3) := by decide +kernel
theorem dX13_isSo_87 : decode cX13_isSo 87 = .ok (.iload 4, 2) := by decide +kernel
theorem dX13_isSo_89 : decode cX13_isSo 89 = .ok (.iload 5, 2) := by decide +kernel
theorem dX13_isSo_91 : decode cX13_isSo 91 = .ok (.if_icmp .ne 7, 3) := by decide +kernel
theorem dX13_isSo_94 : decode cX13_isSo 94 = .ok (.iconst 1, 1) := by decide +kernel
theorem dX13_isSo_95 : decode cX13_isSo 95 = .ok (.goto 4, 3) := by decide +kernel
theorem dX13_isSo_98 : decode cX13_isSo 98 = .ok (.iconst 0, 1) := by decide +kernel
theorem dX13_isSo_99 : decode cX13_isSo 99 = .ok (.iand, 1) := by decide +kernel
theorem dX13_isSo_100 : decode cX13_isSo 100 = .ok (.istore_n 2, 1) := by decide +kernel
theorem dX13_isSo_101 : decode cX13_isSo 101 = .ok (.iinc 3 1, 3) := by decide +kernel
theorem dX13_isSo_104 : decode cX13_isSo 104 = .ok (.goto (-100), 3) := by decide +kernel
theorem dX13_isSo_107 : decode cX13_isSo 107 = .ok (.iload_n 2, 1) := by decide +kernel
theorem dX13_isSo_108 : decode cX13_isSo 108 = .ok (.ireturn, 1) := by decide +kernel
set_option maxRecDepth 20000 in
theorem ggX13_many_X13_many : GoodIn wsX13_many wsX13_many := goodIn_r _ [0, 1, 2, 3, 4, 5, 6, 7, 8, 9, 10, 11, 12, 13] (by decide +kernel) (by decide +kernel)
set_option maxRecDepth 20000 in
theorem gX13_many_X13_many : GoodIn wsX13_many (va_wsS RX13 141 yX13_many wsX13_many) := goodIn_app (goodIn_of _ (by decide +kernel)) ggX13_many_X13_many
theorem dX13_many_0 : decode cX13_many 0 = .ok (.iconst 0, 1) := by decide +kernel
theorem dX13_many_1 : decode cX13_many 1 = .ok (.istore_n 1, 1) := by decide +kernel
theorem dX13_many_2 : decode cX13_many 2 = .ok (.aload_n 0, 1) := by decide +kernel
theorem dX13_many_3 : decode cX13_many 3 = .ok (.astore_n 2, 1) := by decide +kernel
theorem dX13_many_4 : decode cX13_many 4 = .ok (.aload_n 2, 1) := by decide +kernel
theorem dX13_many_5 : decode cX13_many 5 = .ok (.arraylength, 1) := by decide +kernel
theorem dX13_many_6 : decode cX13_many 6 = .ok (.istore_n 3, 1) := by decide +kernel
theorem dX13_many_7 : decode cX13_many 7 = .ok (.iconst 0, 1) := by decide +kernel
theorem dX13_many_8 : decode cX13_many 8 = .ok (.istore 4, 2) := by decide +kernel
theorem dX13_many_10 : decode cX13_many 10 = .ok (.iload 4, 2) := by decide +kernel
theorem dX13_many_12 : decode cX13_many 12 = .ok (.iload_n 3, 1) := by decide +kernel
theorem dX13_many_13 : decode cX13_many 13 = .ok (.if_icmp .ge 49, 3) := by decide +kernel
theorem dX13_many_16 : decode cX13_many 16 = .ok (.aload_n 2, 1) := by decide +kernel
theorem dX13_many_17 : decode cX13_many 17 = .ok (.iload 4, 2) := by decide +kernel
theorem dX13_many_19 : decode cX13_many 19 = .ok (.aaload, 1) := by decide +kernel
theorem dX13_many_20 : decode cX13_many 20 = .ok (.astore 5, 2) := by decide +kernel
theorem dX13_many_22 : decode cX13_many 22 = .ok (.iload_n 1, 1) := by decide +kernel
theorem dX13_many_23 : decode cX13_many 23 = .ok (.iconst 1, 1) := by decide +kernel
theorem dX13_many_24 : decode cX13_many 24 = .ok (.aload 5, 2) := by decide +kernel
theorem dX13_many_26 : decode cX13_many 26 = .ok (.getfield 22, 3) := by decide +kernel
theorem dX13_many_29 : decode cX13_many 29 = .ok (.invokestatic 141, 3) := by decide +kernel
theorem dX13_many_32 : decode cX13_many 32 = .ok (.iadd, 1) := by decide +kernel
theorem dX13_many_33 : decode cX13_many 33 = .ok (.aload 5, 2) := by decide +kernel
theorem dX13_many_35 : decode cX13_many 35 = .ok (.getfield 58, 3) := by decide +kernel
theorem dX13_many_38 : decode cX13_many 38 = .ok (.ifnonnull 7, 3) := by decide +kernel
theorem dX13_many_41 : decode cX13_many 41 = .ok (.iconst 0, 1) := by decide +kernel
theorem dX13_many_42 : decode cX13_many 42 = .ok (.goto 11, 3) := by decide +kernel
theorem dX13_many_45 : decode cX13_many 45 = .ok (.aload 5, 2) := by decide +kernel
theorem dX13_many_47 : decode cX13_many 47 = .ok (.getfield 58, 3) := by decide +kernel
theorem dX13_many_50 : decode cX13_many 50 = .ok (.invokestatic 141, 3) := by decide +kernel
theorem dX13_many_53 : decode cX13_many 53 = .ok (.iadd, 1) := by decide +kernel
theorem dX13_many_54 : decode cX13_many 54 = .ok (.iadd, 1) := by decide +kernel
theorem dX13_many_55 : decode cX13_many 55 = .ok (.istore_n 1, 1) := by decide +kernel
theorem dX13_many_56 : decode cX13_many 56 = .ok (.iinc 4 1, 3) := by decide +kernel
theorem dX13_many_59 : decode cX13_many 59 = .ok (.goto (-49), 3) := by decide +kernel
theorem dX13_many_62 : decode cX13_many 62 = .ok (.iload_n 1, 1) := by decide +kernel
theorem dX13_many_63 : decode cX13_many 63 = .ok (.ireturn, 1) := by decide +kernel
theorem dX14_init_0 : decode cX14_init 0 = .ok (.aload_n 0, 1) := by decide +kernel
theorem dX14_init_1 : decode cX14_init 1 = .ok (.invokespecial 1, 3) := by decide +kernel
theorem dX14_init_4 : decode cX14_init 4 = .ok (.aload_n 0, 1) := by decide +kernel
theorem dX14_init_5 : decode cX14_init 5 = .ok (.iload_n 1, 1) := by decide +kernel
theorem dX14_init_6 : decode cX14_init 6 = .ok (.putfield 7, 3) := by decide +kernel
theorem dX14_init_9 : decode cX14_init 9 = .ok (.return_, 1) := by decide +kernel
set_option maxRecDepth 20000 in
theorem ggX14_next_L_below : GoodIn wsX14_next wsL_below := goodIn_r _ [5, 6] (by decide +kernel) (by decide +kernel)
set_option maxRecDepth 20000 in
theorem gX14_next_L_below_n14 : GoodIn wsX14_next (wsL_below) := ggX14_next_L_below
theorem dX14_next_0 : decode cX14_next 0 = .ok (.aload_n 0, 1) := by decide +kernel
theorem dX14_next_1 : decode cX14_next 1 = .ok (.aload_n 0, 1) := by decide +kernel
theorem dX14_next_2 : decode cX14_next 2 = .ok (.getfield 7, 3) := by decide +kernel
theorem dX14_next_5 : decode cX14_next 5 = .ok (.ldc 13, 2) := by decide +kernel
theorem dX14_next_7 : decode cX14_next 7 = .ok (.imul, 1) := by decide +kernel
theorem dX14_next_8 : decode cX14_next 8 = .ok (.sipush 12345, 3) := by decide +kernel
theorem dX14_next_11 : decode cX14_next 11 = .ok (.iadd, 1) := by decide +kernel
theorem dX14_next_12 : decode cX14_next 12 = .ok (.putfield 7, 3) := by decide +kernel
theorem dX14_next_15 : decode cX14_next 15 = .ok (.aload_n 0, 1) := by decide +kernel
theorem dX14_next_16 : decode cX14_next 16 = .ok (.getfield 7, 3) := by decide +kernel
theorem dX14_next_19 : decode cX14_next 19 = .ok (.bipush 9, 2) := by decide +kernel
theorem dX14_next_21 : decode cX14_next 21 = .ok (.ishr, 1) := by decide +kernel
theorem dX14_next_22 : decode cX14_next 22 = .ok (.iload_n 1, 1) := by decide +kernel
theorem dX14_next_23 : decode cX14_next 23 = .ok (.invokestatic 14, 3) := by decide +kernel
theorem dX14_next_26 : decode cX14_next 26 = .ok (.ireturn, 1) := by decide +kernel
theorem dX15_init_0 : decode cX15_init 0 = .ok (.aload_n 0, 1) := by decide +kernel
theorem dX15_init_1 : decode cX15_init 1 = .ok (.invokespecial 1, 3) := by decide +kernel
theorem dX15_init_4 : decode cX15_init 4 = .ok (.aload_n 0, 1) := by decide +kernel
theorem dX15_init_5 : decode cX15_init 5 = .ok (.iconst 4, 1) := by decide +kernel
theorem dX15_init_6 : decode cX15_init 6 = .ok (.putfield 7, 3) := by decide +kernel
theorem dX15_init_9 : decode cX15_init 9 = .ok (.aload_n 0, 1) := by decide +kernel
theorem dX15_init_10 : decode cX15_init 10 = .ok (.iconst 1, 1) := by decide +kernel
theorem dX15_init_11 : decode cX15_init 11 = .ok (.putfield 13, 3) := by decide +kernel
theorem dX15_init_14 : decode cX15_init 14 = .ok (.aload_n 0, 1) := by decide +kernel
theorem dX15_init_15 : decode cX15_init 15 = .ok (.iconst 0, 1) := by decide +kernel
theorem dX15_init_16 : decode cX15_init 16 = .ok (.anewarray 16, 3) := by decide +kernel
theorem dX15_init_19 : decode cX15_init 19 = .ok (.putfield 18, 3) := by decide +kernel
theorem dX15_init_22 : decode cX15_init 22 = .ok (.aload_n 0, 1) := by decide +kernel
theorem dX15_init_23 : decode cX15_init 23 = .ok (.iconst 0, 1) := by decide +kernel
theorem dX15_init_24 : decode cX15_init 24 = .ok (.anewarray 22, 3) := by decide +kernel
theorem dX15_init_27 : decode cX15_init 27 = .ok (.putfield 24, 3) := by decide +kernel
theorem dX15_init_30 : decode cX15_init 30 = .ok (.aload_n 0, 1) := by decide +kernel
theorem dX15_init_31 : decode cX15_init 31 = .ok (.bipush 6, 2) := by decide +kernel
theorem dX15_init_33 : decode cX15_init 33 = .ok (.newarray .int, 2) := by decide +kernel
theorem dX15_init_35 : decode cX15_init 35 = .ok (.putfield 28, 3) := by decide +kernel
theorem dX15_init_38 : decode cX15_init 38 = .ok (.aload_n 0, 1) := by decide +kernel
theorem dX15_init_39 : decode cX15_init 39 = .ok (.iconst 0, 1) := by decide +kernel
theorem dX15_init_40 : decode cX15_init 40 = .ok (.newarray .int, 2) := by decide +kernel
theorem dX15_init_42 : decode cX15_init 42 = .ok (.putfield 31, 3) := by decide +kernel
theorem dX15_init_45 : decode cX15_init 45 = .ok (.aload_n 0, 1) := by decide +kernel
theorem dX15_init_46 : decode cX15_init 46 = .ok (.iconst 0, 1) := by decide +kernel
theorem dX15_init_47 : decode cX15_init 47 = .ok (.newarray .int, 2) := by decide +kernel
theorem dX15_init_49 : decode cX15_init 49 = .ok (.putfield 34, 3) := by decide +kernel
theorem dX15_init_52 : decode cX15_init 52 = .ok (.return_, 1) := by decide +kernel
theorem dX15_ahead_0 : decode cX15_ahead 0 = .ok (.aload_n 0, 1) := by decide +kernel
theorem dX15_ahead_1 : decode cX15_ahead 1 = .ok (.arraylength, 1) := by decide +kernel
theorem dX15_ahead_2 : decode cX15_ahead 2 = .ok (.bipush 20, 2) := by decide +kernel
theorem dX15_ahead_4 : decode cX15_ahead 4 = .ok (.if_icmp .ge 10, 3) := by decide +kernel
theorem dX15_ahead_7 : decode cX15_ahead 7 = .ok (.aload_n 0, 1) := by decide +kernel
theorem dX15_ahead_8 : decode cX15_ahead 8 = .ok (.arraylength, 1) := by decide +kernel
theorem dX15_ahead_9 : decode cX15_ahead 9 = .ok (.iconst 1, 1) := by decide +kernel
theorem dX15_ahead_10 : decode cX15_ahead 10 = .ok (.iadd, 1) := by decide +kernel
theorem dX15_ahead_11 : decode cX15_ahead 11 = .ok (.goto 5, 3) := by decide +kernel
theorem dX15_ahead_14 : decode cX15_ahead 14 = .ok (.bipush 20, 2) := by decide +kernel
theorem dX15_ahead_16 : decode cX15_ahead 16 = .ok (.newarray .int, 2) := by decide +kernel
theorem dX15_ahead_18 : decode cX15_ahead 18 = .ok (.astore_n 2, 1) := by decide +kernel
theorem dX15_ahead_19 : decode cX15_ahead 19 = .ok (.aload_n 2, 1) := by decide +kernel
theorem dX15_ahead_20 : decode cX15_ahead 20 = .ok (.iconst 0, 1) := by decide +kernel
theorem dX15_ahead_21 : decode cX15_ahead 21 = .ok (.iload_n 1, 1) := by decide +kernel
theorem dX15_ahead_22 : decode cX15_ahead 22 = .ok (.iastore, 1) := by decide +kernel
theorem dX15_ahead_23 : decode cX15_ahead 23 = .ok (.iconst 1, 1) := by decide +kernel
theorem dX15_ahead_24 : decode cX15_ahead 24 = .ok (.istore_n 3, 1) := by decide +kernel
theorem dX15_ahead_25 : decode cX15_ahead 25 = .ok (.iload_n 3, 1) := by decide +kernel
theorem dX15_ahead_26 : decode cX15_ahead 26 = .ok (.aload_n 2, 1) := by decide +kernel
theorem dX15_ahead_27 : decode cX15_ahead 27 = .ok (.arraylength, 1) := by decide +kernel
theorem dX15_ahead_28 : decode cX15_ahead 28 = .ok (.if_icmp .ge 17, 3) := by decide +kernel
theorem dX15_ahead_31 : decode cX15_ahead 31 = .ok (.aload_n 2, 1) := by decide +kernel
theorem dX15_ahead_32 : decode cX15_ahead 32 = .ok (.iload_n 3, 1) := by decide +kernel
theorem dX15_ahead_33 : decode cX15_ahead 33 = .ok (.aload_n 0, 1) := by decide +kernel
theorem dX15_ahead_34 : decode cX15_ahead 34 = .ok (.iload_n 3, 1) := by decide +kernel
theorem dX15_ahead_35 : decode cX15_ahead 35 = .ok (.iconst 1, 1) := by decide +kernel
theorem dX15_ahead_36 : decode cX15_ahead 36 = .ok (.isub, 1) := by decide +kernel
theorem dX15_ahead_37 : decode cX15_ahead 37 = .ok (.iaload, 1) := by decide +kernel
theorem dX15_ahead_38 : decode cX15_ahead 38 = .ok (.iastore, 1) := by decide +kernel
theorem dX15_ahead_39 : decode cX15_ahead 39 = .ok (.iinc 3 1, 3) := by decide +kernel
theorem dX15_ahead_42 : decode cX15_ahead 42 = .ok (.goto (-17), 3) := by decide +kernel
theorem dX15_ahead_45 : decode cX15_ahead 45 = .ok (.aload_n 2, 1) := by decide +kernel
theorem dX15_ahead_46 : decode cX15_ahead 46 = .ok (.areturn, 1) := by decide +kernel
theorem dX15_boiling_0 : decode cX15_boiling 0 = .ok (.bipush 100, 2) := by decide +kernel
theorem dX15_boiling_2 : decode cX15_boiling 2 = .ok (.aload_n 0, 1) := by decide +kernel
theorem dX15_boiling_3 : decode cX15_boiling 3 = .ok (.getfield 38, 3) := by decide +kernel
theorem dX15_boiling_6 : decode cX15_boiling 6 = .ok (.iconst 3, 1) := by decide +kernel
theorem dX15_boiling_7 : decode cX15_boiling 7 = .ok (.idiv, 1) := by decide +kernel
theorem dX15_boiling_8 : decode cX15_boiling 8 = .ok (.isub, 1) := by decide +kernel
theorem dX15_boiling_9 : decode cX15_boiling 9 = .ok (.ireturn, 1) := by decide +kernel
theorem dX15_room_0 : decode cX15_room 0 = .ok (.aload_n 0, 1) := by decide +kernel
theorem dX15_room_1 : decode cX15_room 1 = .ok (.getfield 18, 3) := by decide +kernel
theorem dX15_room_4 : decode cX15_room 4 = .ok (.iload_n 1, 1) := by decide +kernel
theorem dX15_room_5 : decode cX15_room 5 = .ok (.aaload, 1) := by decide +kernel
theorem dX15_room_6 : decode cX15_room 6 = .ok (.iconst 0, 1) := by decide +kernel
theorem dX15_room_7 : decode cX15_room 7 = .ok (.iaload, 1) := by decide +kernel
theorem dX15_room_8 : decode cX15_room 8 = .ok (.aload_n 0, 1) := by decide +kernel
theorem dX15_room_9 : decode cX15_room 9 = .ok (.getfield 18, 3) := by decide +kernel
theorem dX15_room_12 : decode cX15_room 12 = .ok (.iload_n 1, 1) := by decide +kernel
theorem dX15_room_13 : decode cX15_room 13 = .ok (.aaload, 1) := by decide +kernel
theorem dX15_room_14 : decode cX15_room 14 = .ok (.iconst 1, 1) := by decide +kernel
theorem dX15_room_15 : decode cX15_room 15 = .ok (.iaload, 1) := by decide +kernel
theorem dX15_room_16 : decode cX15_room 16 = .ok (.isub, 1) := by decide +kernel
theorem dX15_room_17 : decode cX15_room 17 = .ok (.aload_n 0, 1) := by decide +kernel
theorem dX15_room_18 : decode cX15_room 18 = .ok (.getfield 18, 3) := by decide +kernel
theorem dX15_room_21 : decode cX15_room 21 = .ok (.iload_n 1, 1) := by decide +kernel
theorem dX15_room_22 : decode cX15_room 22 = .ok (.aaload, 1) := by decide +kernel
theorem dX15_room_23 : decode cX15_room 23 = .ok (.iconst 2, 1) := by decide +kernel
theorem dX15_room_24 : decode cX15_room 24 = .ok (.iaload, 1) := by decide +kernel
theorem dX15_room_25 : decode cX15_room 25 = .ok (.isub, 1) := by decide +kernel
theorem dX15_room_26 : decode cX15_room 26 = .ok (.ireturn, 1) := by decide +kernel
theorem dX15_held_0 : decode cX15_held 0 = .ok (.iload_n 0, 1) := by decide +kernel
theorem dX15_held_1 : decode cX15_held 1 = .ok (.ifCond .ge 7, 3) := by decide +kernel
theorem dX15_held_4 : decode cX15_held 4 = .ok (.iconst 0, 1) := by decide +kernel
theorem dX15_held_5 : decode cX15_held 5 = .ok (.goto 13, 3) := by decide +kernel
theorem dX15_held_8 : decode cX15_held 8 = .ok (.iload_n 0, 1) := by decide +kernel
theorem dX15_held_9 : decode cX15_held 9 = .ok (.iload_n 1, 1) := by decide +kernel
theorem dX15_held_10 : decode cX15_held 10 = .ok (.if_icmp .le 7, 3) := by decide +kernel
theorem dX15_held_13 : decode cX15_held 13 = .ok (.iload_n 1, 1) := by decide +kernel
theorem dX15_held_14 : decode cX15_held 14 = .ok (.goto 4, 3) := by decide +kernel
theorem dX15_held_17 : decode cX15_held 17 = .ok (.iload_n 0, 1) := by decide +kernel
theorem dX15_held_18 : decode cX15_held 18 = .ok (.ireturn, 1) := by decide +kernel
set_option maxRecDepth 20000 in
theorem ggX15_amount_X15_held : GoodIn wsX15_amount wsX15_held := goodIn_r _ [6] (by decide +kernel) (by decide +kernel)
set_option maxRecDepth 20000 in
theorem gX15_amount_X15_held : GoodIn wsX15_amount (va_wsS RX15 51 yX15_held wsX15_held) := goodIn_app (goodIn_of _ (by decide +kernel)) ggX15_amount_X15_held
theorem dX15_amount_0 : decode cX15_amount 0 = .ok (.iload_n 1, 1) := by decide +kernel
theorem dX15_amount_1 : decode cX15_amount 1 = .ok (.sipush 999, 3) := by decide +kernel
theorem dX15_amount_4 : decode cX15_amount 4 = .ok (.invokestatic 51, 3) := by decide +kernel
theorem dX15_amount_7 : decode cX15_amount 7 = .ok (.aload_n 0, 1) := by decide +kernel
theorem dX15_amount_8 : decode cX15_amount 8 = .ok (.getfield 7, 3) := by decide +kernel
theorem dX15_amount_11 : decode cX15_amount 11 = .ok (.imul, 1) := by decide +kernel
theorem dX15_amount_12 : decode cX15_amount 12 = .ok (.istore_n 2, 1) := by decide +kernel
theorem dX15_amount_13 : decode cX15_amount 13 = .ok (.iconst 0, 1) := by decide +kernel
theorem dX15_amount_14 : decode cX15_amount 14 = .ok (.istore_n 3, 1) := by decide +kernel
theorem dX15_amount_15 : decode cX15_amount 15 = .ok (.aload_n 0, 1) := by decide +kernel
theorem dX15_amount_16 : decode cX15_amount 16 = .ok (.getfield 13, 3) := by decide +kernel
theorem dX15_amount_19 : decode cX15_amount 19 = .ok (.istore 4, 2) := by decide +kernel
theorem dX15_amount_21 : decode cX15_amount 21 = .ok (.iconst 4, 1) := by decide +kernel
theorem dX15_amount_22 : decode cX15_amount 22 = .ok (.iload 4, 2) := by decide +kernel
theorem dX15_amount_24 : decode cX15_amount 24 = .ok (.imul, 1) := by decide +kernel
theorem dX15_amount_25 : decode cX15_amount 25 = .ok (.iload_n 2, 1) := by decide +kernel
theorem dX15_amount_26 : decode cX15_amount 26 = .ok (.isub, 1) := by decide +kernel
theorem dX15_amount_27 : decode cX15_amount 27 = .ok (.iconst 2, 1) := by decide +kernel
theorem dX15_amount_28 : decode cX15_amount 28 = .ok (.aload_n 0, 1) := by decide +kernel
theorem dX15_amount_29 : decode cX15_amount 29 = .ok (.getfield 13, 3) := by decide +kernel
theorem dX15_amount_32 : decode cX15_amount 32 = .ok (.imul, 1) := by decide +kernel
theorem dX15_amount_33 : decode cX15_amount 33 = .ok (.if_icmp .gt 18, 3) := by decide +kernel
theorem dX15_amount_36 : decode cX15_amount 36 = .ok (.iload 4, 2) := by decide +kernel
theorem dX15_amount_38 : decode cX15_amount 38 = .ok (.istore_n 3, 1) := by decide +kernel
theorem dX15_amount_39 : decode cX15_amount 39 = .ok (.iload 4, 2) := by decide +kernel
theorem dX15_amount_41 : decode cX15_amount 41 = .ok (.aload_n 0, 1) := by decide +kernel
theorem dX15_amount_42 : decode cX15_amount 42 = .ok (.getfield 13, 3) := by decide +kernel
theorem dX15_amount_45 : decode cX15_amount 45 = .ok (.iadd, 1) := by decide +kernel
theorem dX15_amount_46 : decode cX15_amount 46 = .ok (.istore 4, 2) := by decide +kernel
theorem dX15_amount_48 : decode cX15_amount 48 = .ok (.goto (-27), 3) := by decide +kernel
theorem dX15_amount_51 : decode cX15_amount 51 = .ok (.iload_n 3, 1) := by decide +kernel
theorem dX15_amount_52 : decode cX15_amount 52 = .ok (.ireturn, 1) := by decide +kernel
theorem dX15_longer_0 : decode cX15_longer 0 = .ok (.iload_n 0, 1) := by decide +kernel
theorem dX15_longer_1 : decode cX15_longer 1 = .ok (.bipush 100, 2) := by decide +kernel
theorem dX15_longer_3 : decode cX15_longer 3 = .ok (.iload_n 1, 1) := by decide +kernel
theorem dX15_longer_4 : decode cX15_longer 4 = .ok (.iconst 3, 1) := by decide +kernel
theorem dX15_longer_5 : decode cX15_longer 5 = .ok (.idiv, 1) := by decide +kernel
theorem dX15_longer_6 : decode cX15_longer 6 = .ok (.iconst 5, 1) := by decide +kernel
theorem dX15_longer_7 : decode cX15_longer 7 = .ok (.imul, 1) := by decide +kernel
theorem dX15_longer_8 : decode cX15_longer 8 = .ok (.iadd, 1) := by decide +kernel
theorem dX15_longer_9 : decode cX15_longer 9 = .ok (.imul, 1) := by decide +kernel
theorem dX15_longer_10 : decode cX15_longer 10 = .ok (.istore_n 2, 1) := by decide +kernel
theorem dX15_longer_11 : decode cX15_longer 11 = .ok (.iload_n 2, 1) := by decide +kernel
theorem dX15_longer_12 : decode cX15_longer 12 = .ok (.bipush 100, 2) := by decide +kernel
theorem dX15_longer_14 : decode cX15_longer 14 = .ok (.idiv, 1) := by decide +kernel
theorem dX15_longer_15 : decode cX15_longer 15 = .ok (.iload_n 2, 1) := by decide +kernel
theorem dX15_longer_16 : decode cX15_longer 16 = .ok (.bipush 100, 2) := by decide +kernel
theorem dX15_longer_18 : decode cX15_longer 18 = .ok (.irem, 1) := by decide +kernel
theorem dX15_longer_19 : decode cX15_longer 19 = .ok (.ifCond .le 7, 3) := by decide +kernel
theorem dX15_longer_22 : decode cX15_longer 22 = .ok (.iconst 1, 1) := by decide +kernel
theorem dX15_longer_23 : decode cX15_longer 23 = .ok (.goto 4, 3) := by decide +kernel
theorem dX15_longer_26 : decode cX15_longer 26 = .ok (.iconst 0, 1) := by decide +kernel
theorem dX15_longer_27 : decode cX15_longer 27 = .ok (.iadd, 1) := by decide +kernel
theorem dX15_longer_28 : decode cX15_longer 28 = .ok (.ireturn, 1) := by decide +kernel
set_option maxRecDepth 20000 in
theorem ggX15_pour_X15_room : GoodIn wsX15_pour wsX15_room := goodIn_r _ [6, 1, 7, 8, 9, 10, 11, 12, 13, 14, 15, 16, 17, 18] (by decide +kernel) (by decide +kernel)
set_option maxRecDepth 20000 in
theorem gX15_pour_X15_room : GoodIn wsX15_pour (wsV RX15 55 RX15 yX15_room wsX15_room) := goodIn_app (goodIn_of _ (by decide +kernel)) ggX15_pour_X15_room
theorem dX15_pour_0 : decode cX15_pour 0 = .ok (.aload_n 0, 1) := by decide +kernel
theorem dX15_pour_1 : decode cX15_pour 1 = .ok (.getfield 18, 3) := by decide +kernel
theorem dX15_pour_4 : decode cX15_pour 4 = .ok (.iload_n 1, 1) := by decide +kernel
theorem dX15_pour_5 : decode cX15_pour 5 = .ok (.aaload, 1) := by decide +kernel
theorem dX15_pour_6 : decode cX15_pour 6 = .ok (.astore 4, 2) := by decide +kernel
theorem dX15_pour_8 : decode cX15_pour 8 = .ok (.iload_n 3, 1) := by decide +kernel
theorem dX15_pour_9 : decode cX15_pour 9 = .ok (.aload_n 0, 1) := by decide +kernel
theorem dX15_pour_10 : decode cX15_pour 10 = .ok (.iload_n 1, 1) := by decide +kernel
theorem dX15_pour_11 : decode cX15_pour 11 = .ok (.invokevirtual 55, 3) := by decide +kernel
theorem dX15_pour_14 : decode cX15_pour 14 = .ok (.if_icmp .ge 7, 3) := by decide +kernel
theorem dX15_pour_17 : decode cX15_pour 17 = .ok (.iload_n 3, 1) := by decide +kernel
theorem dX15_pour_18 : decode cX15_pour 18 = .ok (.goto 8, 3) := by decide +kernel
theorem dX15_pour_21 : decode cX15_pour 21 = .ok (.aload_n 0, 1) := by decide +kernel
theorem dX15_pour_22 : decode cX15_pour 22 = .ok (.iload_n 1, 1) := by decide +kernel
theorem dX15_pour_23 : decode cX15_pour 23 = .ok (.invokevirtual 55, 3) := by decide +kernel
theorem dX15_pour_26 : decode cX15_pour 26 = .ok (.istore 5, 2) := by decide +kernel
theorem dX15_pour_28 : decode cX15_pour 28 = .ok (.iload 5, 2) := by decide +kernel
theorem dX15_pour_30 : decode cX15_pour 30 = .ok (.ifCond .ne 5, 3) := by decide +kernel
theorem dX15_pour_33 : decode cX15_pour 33 = .ok (.iconst 0, 1) := by decide +kernel
theorem dX15_pour_34 : decode cX15_pour 34 = .ok (.ireturn, 1) := by decide +kernel
theorem dX15_pour_35 : decode cX15_pour 35 = .ok (.aload 4, 2) := by decide +kernel
theorem dX15_pour_37 : decode cX15_pour 37 = .ok (.iconst 1, 1) := by decide +kernel
theorem dX15_pour_38 : decode cX15_pour 38 = .ok (.iaload, 1) := by decide +kernel
theorem dX15_pour_39 : decode cX15_pour 39 = .ok (.aload 4, 2) := by decide +kernel
theorem dX15_pour_41 : decode cX15_pour 41 = .ok (.iconst 2, 1) := by decide +kernel
theorem dX15_pour_42 : decode cX15_pour 42 = .ok (.iaload, 1) := by decide +kernel
theorem dX15_pour_43 : decode cX15_pour 43 = .ok (.iadd, 1) := by decide +kernel
theorem dX15_pour_44 : decode cX15_pour 44 = .ok (.istore 6, 2) := by decide +kernel
theorem dX15_pour_46 : decode cX15_pour 46 = .ok (.aload 4, 2) := by decide +kernel
theorem dX15_pour_48 : decode cX15_pour 48 = .ok (.iconst 3, 1) := by decide +kernel
theorem dX15_pour_49 : decode cX15_pour 49 = .ok (.iload 6, 2) := by decide +kernel
theorem dX15_pour_51 : decode cX15_pour 51 = .ok (.aload 4, 2) := by decide +kernel
theorem dX15_pour_53 : decode cX15_pour 53 = .ok (.iconst 3, 1) := by decide +kernel
theorem dX15_pour_54 : decode cX15_pour 54 = .ok (.iaload, 1) := by decide +kernel
theorem dX15_pour_55 : decode cX15_pour 55 = .ok (.imul, 1) := by decide +kernel
theorem dX15_pour_56 : decode cX15_pour 56 = .ok (.iload 5, 2) := by decide +kernel
theorem dX15_pour_58 : decode cX15_pour 58 = .ok (.bipush 20, 2) := by decide +kernel
theorem dX15_pour_60 : decode cX15_pour 60 = .ok (.imul, 1) := by decide +kernel
theorem dX15_pour_61 : decode cX15_pour 61 = .ok (.iadd, 1) := by decide +kernel
theorem dX15_pour_62 : decode cX15_pour 62 = .ok (.iload 6, 2) := by decide +kernel
theorem dX15_pour_64 : decode cX15_pour 64 = .ok (.iload 5, 2) := by decide +kernel
theorem dX15_pour_66 : decode cX15_pour 66 = .ok (.iadd, 1) := by decide +kernel
theorem dX15_pour_67 : decode cX15_pour 67 = .ok (.idiv, 1) := by decide +kernel
theorem dX15_pour_68 : decode cX15_pour 68 = .ok (.iastore, 1) := by decide +kernel
theorem dX15_pour_69 : decode cX15_pour 69 = .ok (.iload_n 2, 1) := by decide +kernel
theorem dX15_pour_70 : decode cX15_pour 70 = .ok (.ifCond .eq 24, 3) := by decide +kernel
theorem dX15_pour_73 : decode cX15_pour 73 = .ok (.aload 4, 2) := by decide +kernel
theorem dX15_pour_75 : decode cX15_pour 75 = .ok (.iconst 4, 1) := by decide +kernel
theorem dX15_pour_76 : decode cX15_pour 76 = .ok (.aload 4, 2) := by decide +kernel
theorem dX15_pour_78 : decode cX15_pour 78 = .ok (.iconst 4, 1) := by decide +kernel
theorem dX15_pour_79 : decode cX15_pour 79 = .ok (.iaload, 1) := by decide +kernel
theorem dX15_pour_80 : decode cX15_pour 80 = .ok (.aload 4, 2) := by decide +kernel
theorem dX15_pour_82 : decode cX15_pour 82 = .ok (.iconst 2, 1) := by decide +kernel
theorem dX15_pour_83 : decode cX15_pour 83 = .ok (.iaload, 1) := by decide +kernel
theorem dX15_pour_84 : decode cX15_pour 84 = .ok (.imul, 1) := by decide +kernel
theorem dX15_pour_85 : decode cX15_pour 85 = .ok (.aload 4, 2) := by decide +kernel
theorem dX15_pour_87 : decode cX15_pour 87 = .ok (.iconst 2, 1) := by decide +kernel
theorem dX15_pour_88 : decode cX15_pour 88 = .ok (.iaload, 1) := by decide +kernel
theorem dX15_pour_89 : decode cX15_pour 89 = .ok (.iload 5, 2) := by decide +kernel
theorem dX15_pour_91 : decode cX15_pour 91 = .ok (.iadd, 1) := by decide +kernel
theorem dX15_pour_92 : decode cX15_pour 92 = .ok (.idiv, 1) := by decide +kernel
theorem dX15_pour_93 : decode cX15_pour 93 = .ok (.iastore, 1) := by decide +kernel
theorem dX15_pour_94 : decode cX15_pour 94 = .ok (.aload 4, 2) := by decide +kernel
theorem dX15_pour_96 : decode cX15_pour 96 = .ok (.iload_n 2, 1) := by decide +kernel
theorem dX15_pour_97 : decode cX15_pour 97 = .ok (.ifCond .eq 7, 3) := by decide +kernel
theorem dX15_pour_100 : decode cX15_pour 100 = .ok (.iconst 2, 1) := by decide +kernel
theorem dX15_pour_101 : decode cX15_pour 101 = .ok (.goto 4, 3) := by decide +kernel
theorem dX15_pour_104 : decode cX15_pour 104 = .ok (.iconst 1, 1) := by decide +kernel
theorem dX15_pour_105 : decode cX15_pour 105 = .ok (.dup2, 1) := by decide +kernel
theorem dX15_pour_106 : decode cX15_pour 106 = .ok (.iaload, 1) := by decide +kernel
theorem dX15_pour_107 : decode cX15_pour 107 = .ok (.iload 5, 2) := by decide +kernel
theorem dX15_pour_109 : decode cX15_pour 109 = .ok (.iadd, 1) := by decide +kernel
theorem dX15_pour_110 : decode cX15_pour 110 = .ok (.iastore, 1) := by decide +kernel
theorem dX15_pour_111 : decode cX15_pour 111 = .ok (.iload 5, 2) := by decide +kernel
theorem dX15_pour_113 : decode cX15_pour 113 = .ok (.ireturn, 1) := by decide +kernel
theorem dX15_goBy_0 : decode cX15_goBy 0 = .ok (.aload_n 0, 1) := by decide +kernel
theorem dX15_goBy_1 : decode cX15_goBy 1 = .ok (.dup, 1) := by decide +kernel
theorem dX15_goBy_2 : decode cX15_goBy 2 = .ok (.getfield 41, 3) := by decide +kernel
theorem dX15_goBy_5 : decode cX15_goBy 5 = .ok (.iload_n 1, 1) := by decide +kernel
theorem dX15_goBy_6 : decode cX15_goBy 6 = .ok (.iadd, 1) := by decide +kernel
theorem dX15_goBy_7 : decode cX15_goBy 7 = .ok (.putfield 41, 3) := by decide +kernel
theorem dX15_goBy_10 : decode cX15_goBy 10 = .ok (.iconst 0, 1) := by decide +kernel
theorem dX15_goBy_11 : decode cX15_goBy 11 = .ok (.istore_n 3, 1) := by decide +kernel
theorem dX15_goBy_12 : decode cX15_goBy 12 = .ok (.iload_n 3, 1) := by decide +kernel
theorem dX15_goBy_13 : decode cX15_goBy 13 = .ok (.aload_n 0, 1) := by decide +kernel
theorem dX15_goBy_14 : decode cX15_goBy 14 = .ok (.getfield 18, 3) := by decide +kernel
theorem dX15_goBy_17 : decode cX15_goBy 17 = .ok (.arraylength, 1) := by decide +kernel
theorem dX15_goBy_18 : decode cX15_goBy 18 = .ok (.if_icmp .ge 69, 3) := by decide +kernel
theorem dX15_goBy_21 : decode cX15_goBy 21 = .ok (.iload_n 3, 1) := by decide +kernel
theorem dX15_goBy_22 : decode cX15_goBy 22 = .ok (.iload_n 2, 1) := by decide +kernel
theorem dX15_goBy_23 : decode cX15_goBy 23 = .ok (.if_icmp .eq 58, 3) := by decide +kernel
theorem dX15_goBy_26 : decode cX15_goBy 26 = .ok (.aload_n 0, 1) := by decide +kernel
theorem dX15_goBy_27 : decode cX15_goBy 27 = .ok (.getfield 18, 3) := by decide +kernel
theorem dX15_goBy_30 : decode cX15_goBy 30 = .ok (.iload_n 3, 1) := by decide +kernel
theorem dX15_goBy_31 : decode cX15_goBy 31 = .ok (.aaload, 1) := by decide +kernel
theorem dX15_goBy_32 : decode cX15_goBy 32 = .ok (.iconst 3, 1) := by decide +kernel
theorem dX15_goBy_33 : decode cX15_goBy 33 = .ok (.iaload, 1) := by decide +kernel
theorem dX15_goBy_34 : decode cX15_goBy 34 = .ok (.bipush 20, 2) := by decide +kernel
theorem dX15_goBy_36 : decode cX15_goBy 36 = .ok (.if_icmp .le 45, 3) := by decide +kernel
