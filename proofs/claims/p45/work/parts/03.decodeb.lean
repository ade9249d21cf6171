theorem dX6_begin_11 : decode cX6_begin 11 = .ok (.iconst 4, 1) := by decide +kernel
theorem dX6_begin_12 : decode cX6_begin 12 = .ok (.putfield 38, 3) := by decide +kernel
theorem dX6_begin_15 : decode cX6_begin 15 = .ok (.aload_n 0, 1) := by decide +kernel
theorem dX6_begin_16 : decode cX6_begin 16 = .ok (.iconst 1, 1) := by decide +kernel
theorem dX6_begin_17 : decode cX6_begin 17 = .ok (.putfield 42, 3) := by decide +kernel
theorem dX6_begin_20 : decode cX6_begin 20 = .ok (.aload_n 0, 1) := by decide +kernel
theorem dX6_begin_21 : decode cX6_begin 21 = .ok (.iconst 0, 1) := by decide +kernel
theorem dX6_begin_22 : decode cX6_begin 22 = .ok (.putfield 49, 3) := by decide +kernel
theorem dX6_begin_25 : decode cX6_begin 25 = .ok (.aload_n 0, 1) := by decide +kernel
theorem dX6_begin_26 : decode cX6_begin 26 = .ok (.invokevirtual 52, 3) := by decide +kernel
theorem dX6_begin_29 : decode cX6_begin 29 = .ok (.iconst 0, 1) := by decide +kernel
theorem dX6_begin_30 : decode cX6_begin 30 = .ok (.istore_n 2, 1) := by decide +kernel
theorem dX6_begin_31 : decode cX6_begin 31 = .ok (.iload_n 2, 1) := by decide +kernel
theorem dX6_begin_32 : decode cX6_begin 32 = .ok (.aload_n 0, 1) := by decide +kernel
theorem dX6_begin_33 : decode cX6_begin 33 = .ok (.getfield 34, 3) := by decide +kernel
theorem dX6_begin_36 : decode cX6_begin 36 = .ok (.getfield 55, 3) := by decide +kernel
theorem dX6_begin_39 : decode cX6_begin 39 = .ok (.if_icmp .ge 35, 3) := by decide +kernel
theorem dX6_begin_42 : decode cX6_begin 42 = .ok (.aload_n 0, 1) := by decide +kernel
theorem dX6_begin_43 : decode cX6_begin 43 = .ok (.iload_n 2, 1) := by decide +kernel
theorem dX6_begin_44 : decode cX6_begin 44 = .ok (.invokevirtual 58, 3) := by decide +kernel
theorem dX6_begin_47 : decode cX6_begin 47 = .ok (.astore_n 3, 1) := by decide +kernel
theorem dX6_begin_48 : decode cX6_begin 48 = .ok (.aload_n 3, 1) := by decide +kernel
theorem dX6_begin_49 : decode cX6_begin 49 = .ok (.ifnull 19, 3) := by decide +kernel
theorem dX6_begin_52 : decode cX6_begin 52 = .ok (.aload_n 3, 1) := by decide +kernel
theorem dX6_begin_53 : decode cX6_begin 53 = .ok (.invokevirtual 62, 3) := by decide +kernel
theorem dX6_begin_56 : decode cX6_begin 56 = .ok (.aload_n 3, 1) := by decide +kernel
theorem dX6_begin_57 : decode cX6_begin 57 = .ok (.aload_n 0, 1) := by decide +kernel
theorem dX6_begin_58 : decode cX6_begin 58 = .ok (.getfield 34, 3) := by decide +kernel
theorem dX6_begin_61 : decode cX6_begin 61 = .ok (.iload_n 2, 1) := by decide +kernel
theorem dX6_begin_62 : decode cX6_begin 62 = .ok (.invokevirtual 65, 3) := by decide +kernel
theorem dX6_begin_65 : decode cX6_begin 65 = .ok (.putfield 69, 3) := by decide +kernel
theorem dX6_begin_68 : decode cX6_begin 68 = .ok (.iinc 2 1, 3) := by decide +kernel
theorem dX6_begin_71 : decode cX6_begin 71 = .ok (.goto (-40), 3) := by decide +kernel
theorem dX6_begin_74 : decode cX6_begin 74 = .ok (.return_, 1) := by decide +kernel
set_option maxRecDepth 20000 in
theorem ggX6_become_X6_forget : GoodIn wsX6_become wsX6_forget := goodIn_r _ [10, 11, 12, 13, 14, 15, 16, 17, 18, 19, 35, 36, 37, 38, 39, 40, 41, 42, 43, 51, 52] (by decide +kernel) (by decide +kernel)
set_option maxRecDepth 20000 in
theorem gX6_become_X6_forget : GoodIn wsX6_become (wsV RX6 52 RX6 yX6_forget wsX6_forget) := goodIn_app (goodIn_of _ (by decide +kernel)) ggX6_become_X6_forget
set_option maxRecDepth 20000 in
theorem ggX6_become_X6_panAt : GoodIn wsX6_become wsX6_panAt := goodIn_r _ [23, 1, 24, 35, 36, 37, 38, 39, 40, 41, 42, 43, 44, 45, 46, 47, 48, 49, 50] (by decide +kernel) (by decide +kernel)
set_option maxRecDepth 20000 in
theorem gX6_become_X6_panAt : GoodIn wsX6_become (wsV RX6 58 RX6 yX6_panAt wsX6_panAt) := goodIn_app (goodIn_of _ (by decide +kernel)) ggX6_become_X6_panAt
set_option maxRecDepth 20000 in
theorem ggX6_become_X7_become : GoodIn wsX6_become wsX7_become := goodIn_r _ [29, 30, 31, 32, 33, 34, 53, 54, 55, 56, 57] (by decide +kernel) (by decide +kernel)
set_option maxRecDepth 20000 in
theorem gX6_become_X7_become : GoodIn wsX6_become (wsV RX6 72 RX7 yX7_become wsX7_become) := goodIn_app (goodIn_of _ (by decide +kernel)) ggX6_become_X7_become
theorem dX6_become_0 : decode cX6_become 0 = .ok (.aload_n 0, 1) := by decide +kernel
theorem dX6_become_1 : decode cX6_become 1 = .ok (.aload_n 1, 1) := by decide +kernel
theorem dX6_become_2 : decode cX6_become 2 = .ok (.getfield 34, 3) := by decide +kernel
theorem dX6_become_5 : decode cX6_become 5 = .ok (.putfield 34, 3) := by decide +kernel
theorem dX6_become_8 : decode cX6_become 8 = .ok (.aload_n 0, 1) := by decide +kernel
theorem dX6_become_9 : decode cX6_become 9 = .ok (.aload_n 1, 1) := by decide +kernel
theorem dX6_become_10 : decode cX6_become 10 = .ok (.getfield 46, 3) := by decide +kernel
theorem dX6_become_13 : decode cX6_become 13 = .ok (.putfield 46, 3) := by decide +kernel
theorem dX6_become_16 : decode cX6_become 16 = .ok (.aload_n 0, 1) := by decide +kernel
theorem dX6_become_17 : decode cX6_become 17 = .ok (.aload_n 1, 1) := by decide +kernel
theorem dX6_become_18 : decode cX6_become 18 = .ok (.getfield 38, 3) := by decide +kernel
theorem dX6_become_21 : decode cX6_become 21 = .ok (.putfield 38, 3) := by decide +kernel
theorem dX6_become_24 : decode cX6_become 24 = .ok (.aload_n 0, 1) := by decide +kernel
theorem dX6_become_25 : decode cX6_become 25 = .ok (.aload_n 1, 1) := by decide +kernel
theorem dX6_become_26 : decode cX6_become 26 = .ok (.getfield 42, 3) := by decide +kernel
theorem dX6_become_29 : decode cX6_become 29 = .ok (.putfield 42, 3) := by decide +kernel
theorem dX6_become_32 : decode cX6_become 32 = .ok (.aload_n 0, 1) := by decide +kernel
theorem dX6_become_33 : decode cX6_become 33 = .ok (.aload_n 1, 1) := by decide +kernel
theorem dX6_become_34 : decode cX6_become 34 = .ok (.getfield 49, 3) := by decide +kernel
theorem dX6_become_37 : decode cX6_become 37 = .ok (.putfield 49, 3) := by decide +kernel
theorem dX6_become_40 : decode cX6_become 40 = .ok (.aload_n 0, 1) := by decide +kernel
theorem dX6_become_41 : decode cX6_become 41 = .ok (.invokevirtual 52, 3) := by decide +kernel
theorem dX6_become_44 : decode cX6_become 44 = .ok (.iconst 0, 1) := by decide +kernel
theorem dX6_become_45 : decode cX6_become 45 = .ok (.istore_n 2, 1) := by decide +kernel
theorem dX6_become_46 : decode cX6_become 46 = .ok (.iload_n 2, 1) := by decide +kernel
theorem dX6_become_47 : decode cX6_become 47 = .ok (.aload_n 0, 1) := by decide +kernel
theorem dX6_become_48 : decode cX6_become 48 = .ok (.getfield 34, 3) := by decide +kernel
theorem dX6_become_51 : decode cX6_become 51 = .ok (.getfield 55, 3) := by decide +kernel
theorem dX6_become_54 : decode cX6_become 54 = .ok (.if_icmp .ge 37, 3) := by decide +kernel
theorem dX6_become_57 : decode cX6_become 57 = .ok (.aload_n 0, 1) := by decide +kernel
theorem dX6_become_58 : decode cX6_become 58 = .ok (.iload_n 2, 1) := by decide +kernel
theorem dX6_become_59 : decode cX6_become 59 = .ok (.invokevirtual 58, 3) := by decide +kernel
theorem dX6_become_62 : decode cX6_become 62 = .ok (.astore_n 3, 1) := by decide +kernel
theorem dX6_become_63 : decode cX6_become 63 = .ok (.aload_n 1, 1) := by decide +kernel
theorem dX6_become_64 : decode cX6_become 64 = .ok (.iload_n 2, 1) := by decide +kernel
theorem dX6_become_65 : decode cX6_become 65 = .ok (.invokevirtual 58, 3) := by decide +kernel
theorem dX6_become_68 : decode cX6_become 68 = .ok (.astore 4, 2) := by decide +kernel
theorem dX6_become_70 : decode cX6_become 70 = .ok (.aload_n 3, 1) := by decide +kernel
theorem dX6_become_71 : decode cX6_become 71 = .ok (.ifnull 14, 3) := by decide +kernel
theorem dX6_become_74 : decode cX6_become 74 = .ok (.aload 4, 2) := by decide +kernel
theorem dX6_become_76 : decode cX6_become 76 = .ok (.ifnull 9, 3) := by decide +kernel
theorem dX6_become_79 : decode cX6_become 79 = .ok (.aload_n 3, 1) := by decide +kernel
theorem dX6_become_80 : decode cX6_become 80 = .ok (.aload 4, 2) := by decide +kernel
theorem dX6_become_82 : decode cX6_become 82 = .ok (.invokevirtual 72, 3) := by decide +kernel
theorem dX6_become_85 : decode cX6_become 85 = .ok (.iinc 2 1, 3) := by decide +kernel
theorem dX6_become_88 : decode cX6_become 88 = .ok (.goto (-42), 3) := by decide +kernel
theorem dX6_become_91 : decode cX6_become 91 = .ok (.return_, 1) := by decide +kernel
set_option maxRecDepth 20000 in
theorem ggX6_forget_X4_clear : GoodIn wsX6_forget wsX4_clear := goodIn_r _ [8, 9, 19, 20] (by decide +kernel) (by decide +kernel)
set_option maxRecDepth 20000 in
theorem gX6_forget_X4_clear : GoodIn wsX6_forget (wsV RX6 76 RX4 yX4_clear wsX4_clear) := goodIn_app (goodIn_of _ (by decide +kernel)) ggX6_forget_X4_clear
theorem dX6_forget_0 : decode cX6_forget 0 = .ok (.aload_n 0, 1) := by decide +kernel
theorem dX6_forget_1 : decode cX6_forget 1 = .ok (.getfield 22, 3) := by decide +kernel
theorem dX6_forget_4 : decode cX6_forget 4 = .ok (.invokevirtual 76, 3) := by decide +kernel
theorem dX6_forget_7 : decode cX6_forget 7 = .ok (.aload_n 0, 1) := by decide +kernel
theorem dX6_forget_8 : decode cX6_forget 8 = .ok (.getfield 26, 3) := by decide +kernel
theorem dX6_forget_11 : decode cX6_forget 11 = .ok (.invokevirtual 76, 3) := by decide +kernel
theorem dX6_forget_14 : decode cX6_forget 14 = .ok (.iconst 0, 1) := by decide +kernel
theorem dX6_forget_15 : decode cX6_forget 15 = .ok (.istore_n 1, 1) := by decide +kernel
theorem dX6_forget_16 : decode cX6_forget 16 = .ok (.iload_n 1, 1) := by decide +kernel
theorem dX6_forget_17 : decode cX6_forget 17 = .ok (.aload_n 0, 1) := by decide +kernel
theorem dX6_forget_18 : decode cX6_forget 18 = .ok (.getfield 29, 3) := by decide +kernel
theorem dX6_forget_21 : decode cX6_forget 21 = .ok (.arraylength, 1) := by decide +kernel
theorem dX6_forget_22 : decode cX6_forget 22 = .ok (.if_icmp .ge 16, 3) := by decide +kernel
theorem dX6_forget_25 : decode cX6_forget 25 = .ok (.aload_n 0, 1) := by decide +kernel
theorem dX6_forget_26 : decode cX6_forget 26 = .ok (.getfield 29, 3) := by decide +kernel
theorem dX6_forget_29 : decode cX6_forget 29 = .ok (.iload_n 1, 1) := by decide +kernel
theorem dX6_forget_30 : decode cX6_forget 30 = .ok (.iconst 0, 1) := by decide +kernel
theorem dX6_forget_31 : decode cX6_forget 31 = .ok (.iastore, 1) := by decide +kernel
theorem dX6_forget_32 : decode cX6_forget 32 = .ok (.iinc 1 1, 3) := by decide +kernel
theorem dX6_forget_35 : decode cX6_forget 35 = .ok (.goto (-19), 3) := by decide +kernel
theorem dX6_forget_38 : decode cX6_forget 38 = .ok (.return_, 1) := by decide +kernel
theorem dX6_panAt_0 : decode cX6_panAt 0 = .ok (.iload_n 1, 1) := by decide +kernel
theorem dX6_panAt_1 : decode cX6_panAt 1 = .ok (.ifCond .lt 32, 3) := by decide +kernel
theorem dX6_panAt_4 : decode cX6_panAt 4 = .ok (.iload_n 1, 1) := by decide +kernel
theorem dX6_panAt_5 : decode cX6_panAt 5 = .ok (.aload_n 0, 1) := by decide +kernel
theorem dX6_panAt_6 : decode cX6_panAt 6 = .ok (.getfield 34, 3) := by decide +kernel
theorem dX6_panAt_9 : decode cX6_panAt 9 = .ok (.getfield 55, 3) := by decide +kernel
theorem dX6_panAt_12 : decode cX6_panAt 12 = .ok (.if_icmp .ge 21, 3) := by decide +kernel
theorem dX6_panAt_15 : decode cX6_panAt 15 = .ok (.iload_n 1, 1) := by decide +kernel
theorem dX6_panAt_16 : decode cX6_panAt 16 = .ok (.aload_n 0, 1) := by decide +kernel
theorem dX6_panAt_17 : decode cX6_panAt 17 = .ok (.getfield 13, 3) := by decide +kernel
theorem dX6_panAt_20 : decode cX6_panAt 20 = .ok (.arraylength, 1) := by decide +kernel
theorem dX6_panAt_21 : decode cX6_panAt 21 = .ok (.if_icmp .ge 12, 3) := by decide +kernel
theorem dX6_panAt_24 : decode cX6_panAt 24 = .ok (.aload_n 0, 1) := by decide +kernel
theorem dX6_panAt_25 : decode cX6_panAt 25 = .ok (.getfield 13, 3) := by decide +kernel
theorem dX6_panAt_28 : decode cX6_panAt 28 = .ok (.iload_n 1, 1) := by decide +kernel
theorem dX6_panAt_29 : decode cX6_panAt 29 = .ok (.aaload, 1) := by decide +kernel
theorem dX6_panAt_30 : decode cX6_panAt 30 = .ok (.goto 4, 3) := by decide +kernel
theorem dX6_panAt_33 : decode cX6_panAt 33 = .ok (.aconst_null, 1) := by decide +kernel
theorem dX6_panAt_34 : decode cX6_panAt 34 = .ok (.areturn, 1) := by decide +kernel
set_option maxRecDepth 20000 in
theorem ggX6_hotPans_X6_panAt : GoodIn wsX6_hotPans wsX6_panAt := goodIn_r _ [6, 1, 7, 8, 9, 10, 11, 12, 13, 14, 15, 16, 17, 18, 19, 20, 21, 22, 23] (by decide +kernel) (by decide +kernel)
set_option maxRecDepth 20000 in
theorem gX6_hotPans_X6_panAt : GoodIn wsX6_hotPans (wsV RX6 58 RX6 yX6_panAt wsX6_panAt) := goodIn_app (goodIn_of _ (by decide +kernel)) ggX6_hotPans_X6_panAt
theorem dX6_hotPans_0 : decode cX6_hotPans 0 = .ok (.iconst 0, 1) := by decide +kernel
theorem dX6_hotPans_1 : decode cX6_hotPans 1 = .ok (.istore_n 1, 1) := by decide +kernel
theorem dX6_hotPans_2 : decode cX6_hotPans 2 = .ok (.iconst 0, 1) := by decide +kernel
theorem dX6_hotPans_3 : decode cX6_hotPans 3 = .ok (.istore_n 2, 1) := by decide +kernel
theorem dX6_hotPans_4 : decode cX6_hotPans 4 = .ok (.iload_n 2, 1) := by decide +kernel
theorem dX6_hotPans_5 : decode cX6_hotPans 5 = .ok (.aload_n 0, 1) := by decide +kernel
theorem dX6_hotPans_6 : decode cX6_hotPans 6 = .ok (.getfield 34, 3) := by decide +kernel
theorem dX6_hotPans_9 : decode cX6_hotPans 9 = .ok (.getfield 55, 3) := by decide +kernel
theorem dX6_hotPans_12 : decode cX6_hotPans 12 = .ok (.if_icmp .ge 31, 3) := by decide +kernel
theorem dX6_hotPans_15 : decode cX6_hotPans 15 = .ok (.aload_n 0, 1) := by decide +kernel
theorem dX6_hotPans_16 : decode cX6_hotPans 16 = .ok (.iload_n 2, 1) := by decide +kernel
theorem dX6_hotPans_17 : decode cX6_hotPans 17 = .ok (.invokevirtual 58, 3) := by decide +kernel
theorem dX6_hotPans_20 : decode cX6_hotPans 20 = .ok (.astore_n 3, 1) := by decide +kernel
theorem dX6_hotPans_21 : decode cX6_hotPans 21 = .ok (.aload_n 3, 1) := by decide +kernel
theorem dX6_hotPans_22 : decode cX6_hotPans 22 = .ok (.ifnull 15, 3) := by decide +kernel
theorem dX6_hotPans_25 : decode cX6_hotPans 25 = .ok (.aload_n 3, 1) := by decide +kernel
theorem dX6_hotPans_26 : decode cX6_hotPans 26 = .ok (.getfield 77, 3) := by decide +kernel
theorem dX6_hotPans_29 : decode cX6_hotPans 29 = .ok (.bipush 20, 2) := by decide +kernel
theorem dX6_hotPans_31 : decode cX6_hotPans 31 = .ok (.if_icmp .le 6, 3) := by decide +kernel
theorem dX6_hotPans_34 : decode cX6_hotPans 34 = .ok (.iinc 1 1, 3) := by decide +kernel
theorem dX6_hotPans_37 : decode cX6_hotPans 37 = .ok (.iinc 2 1, 3) := by decide +kernel
theorem dX6_hotPans_40 : decode cX6_hotPans 40 = .ok (.goto (-36), 3) := by decide +kernel
theorem dX6_hotPans_43 : decode cX6_hotPans 43 = .ok (.iload_n 1, 1) := by decide +kernel
theorem dX6_hotPans_44 : decode cX6_hotPans 44 = .ok (.ireturn, 1) := by decide +kernel
set_option maxRecDepth 20000 in
theorem ggX6_moveTo_X6_panAt : GoodIn wsX6_moveTo wsX6_panAt := goodIn_r _ [11, 2, 12, 20, 21, 22, 23, 24, 25, 26, 27, 28, 29, 30, 31, 32, 33, 34, 35] (by decide +kernel) (by decide +kernel)
set_option maxRecDepth 20000 in
theorem gX6_moveTo_X6_panAt : GoodIn wsX6_moveTo (wsV RX6 58 RX6 yX6_panAt wsX6_panAt) := goodIn_app (goodIn_of _ (by decide +kernel)) ggX6_moveTo_X6_panAt
set_option maxRecDepth 20000 in
theorem ggX6_moveTo_X6_boilingHeat : GoodIn wsX6_moveTo wsX6_boilingHeat := goodIn_r _ [16, 1, 17, 18, 10, 19, 20, 21, 22, 23, 24, 25, 26, 27, 28] (by decide +kernel) (by decide +kernel)
set_option maxRecDepth 20000 in
theorem gX6_moveTo_X6_boilingHeat : GoodIn wsX6_moveTo (wsV RX6 83 RX6 yX6_boilingHeat wsX6_boilingHeat) := goodIn_app (goodIn_of _ (by decide +kernel)) ggX6_moveTo_X6_boilingHeat
theorem dX6_moveTo_0 : decode cX6_moveTo 0 = .ok (.aload_n 0, 1) := by decide +kernel
theorem dX6_moveTo_1 : decode cX6_moveTo 1 = .ok (.iload_n 1, 1) := by decide +kernel
theorem dX6_moveTo_2 : decode cX6_moveTo 2 = .ok (.putfield 46, 3) := by decide +kernel
theorem dX6_moveTo_5 : decode cX6_moveTo 5 = .ok (.iconst 0, 1) := by decide +kernel
theorem dX6_moveTo_6 : decode cX6_moveTo 6 = .ok (.istore_n 2, 1) := by decide +kernel
theorem dX6_moveTo_7 : decode cX6_moveTo 7 = .ok (.iload_n 2, 1) := by decide +kernel
theorem dX6_moveTo_8 : decode cX6_moveTo 8 = .ok (.aload_n 0, 1) := by decide +kernel
theorem dX6_moveTo_9 : decode cX6_moveTo 9 = .ok (.getfield 34, 3) := by decide +kernel
theorem dX6_moveTo_12 : decode cX6_moveTo 12 = .ok (.getfield 55, 3) := by decide +kernel
theorem dX6_moveTo_15 : decode cX6_moveTo 15 = .ok (.if_icmp .ge 41, 3) := by decide +kernel
theorem dX6_moveTo_18 : decode cX6_moveTo 18 = .ok (.aload_n 0, 1) := by decide +kernel
theorem dX6_moveTo_19 : decode cX6_moveTo 19 = .ok (.iload_n 2, 1) := by decide +kernel
theorem dX6_moveTo_20 : decode cX6_moveTo 20 = .ok (.invokevirtual 58, 3) := by decide +kernel
theorem dX6_moveTo_23 : decode cX6_moveTo 23 = .ok (.astore_n 3, 1) := by decide +kernel
theorem dX6_moveTo_24 : decode cX6_moveTo 24 = .ok (.aload_n 3, 1) := by decide +kernel
theorem dX6_moveTo_25 : decode cX6_moveTo 25 = .ok (.ifnull 25, 3) := by decide +kernel
theorem dX6_moveTo_28 : decode cX6_moveTo 28 = .ok (.aload_n 3, 1) := by decide +kernel
theorem dX6_moveTo_29 : decode cX6_moveTo 29 = .ok (.getfield 80, 3) := by decide +kernel
theorem dX6_moveTo_32 : decode cX6_moveTo 32 = .ok (.ifCond .le 18, 3) := by decide +kernel
theorem dX6_moveTo_35 : decode cX6_moveTo 35 = .ok (.aload_n 3, 1) := by decide +kernel
theorem dX6_moveTo_36 : decode cX6_moveTo 36 = .ok (.aload_n 3, 1) := by decide +kernel
theorem dX6_moveTo_37 : decode cX6_moveTo 37 = .ok (.getfield 77, 3) := by decide +kernel
theorem dX6_moveTo_40 : decode cX6_moveTo 40 = .ok (.aload_n 0, 1) := by decide +kernel
theorem dX6_moveTo_41 : decode cX6_moveTo 41 = .ok (.invokevirtual 83, 3) := by decide +kernel
theorem dX6_moveTo_44 : decode cX6_moveTo 44 = .ok (.invokestatic 87, 3) := by decide +kernel
theorem dX6_moveTo_47 : decode cX6_moveTo 47 = .ok (.putfield 77, 3) := by decide +kernel
theorem dX6_moveTo_50 : decode cX6_moveTo 50 = .ok (.iinc 2 1, 3) := by decide +kernel
theorem dX6_moveTo_53 : decode cX6_moveTo 53 = .ok (.goto (-46), 3) := by decide +kernel
theorem dX6_moveTo_56 : decode cX6_moveTo 56 = .ok (.return_, 1) := by decide +kernel
set_option maxRecDepth 20000 in
theorem ggX6_pass_X6_panAt : GoodIn wsX6_pass wsX6_panAt := goodIn_r _ [7, 2, 8, 19, 20, 21, 22, 23, 24, 25, 26, 27, 28, 29, 30, 31, 32, 33, 34] (by decide +kernel) (by decide +kernel)
set_option maxRecDepth 20000 in
theorem gX6_pass_X6_panAt : GoodIn wsX6_pass (wsV RX6 58 RX6 yX6_panAt wsX6_panAt) := goodIn_app (goodIn_of _ (by decide +kernel)) ggX6_pass_X6_panAt
set_option maxRecDepth 20000 in
theorem ggX6_pass_X7_cool : GoodIn wsX6_pass wsX7_cool := goodIn_r _ [13, 14, 15, 16, 17, 18, 35, 36, 37, 38, 39] (by decide +kernel) (by decide +kernel)
set_option maxRecDepth 20000 in
theorem gX6_pass_X7_cool : GoodIn wsX6_pass (wsV RX6 93 RX7 yX7_cool wsX7_cool) := goodIn_app (goodIn_of _ (by decide +kernel)) ggX6_pass_X7_cool
theorem dX6_pass_0 : decode cX6_pass 0 = .ok (.aload_n 0, 1) := by decide +kernel
theorem dX6_pass_1 : decode cX6_pass 1 = .ok (.dup, 1) := by decide +kernel
theorem dX6_pass_2 : decode cX6_pass 2 = .ok (.getfield 49, 3) := by decide +kernel
theorem dX6_pass_5 : decode cX6_pass 5 = .ok (.iload_n 1, 1) := by decide +kernel
theorem dX6_pass_6 : decode cX6_pass 6 = .ok (.iadd, 1) := by decide +kernel
theorem dX6_pass_7 : decode cX6_pass 7 = .ok (.putfield 49, 3) := by decide +kernel
theorem dX6_pass_10 : decode cX6_pass 10 = .ok (.iconst 0, 1) := by decide +kernel
theorem dX6_pass_11 : decode cX6_pass 11 = .ok (.istore_n 3, 1) := by decide +kernel
theorem dX6_pass_12 : decode cX6_pass 12 = .ok (.iload_n 3, 1) := by decide +kernel
theorem dX6_pass_13 : decode cX6_pass 13 = .ok (.aload_n 0, 1) := by decide +kernel
theorem dX6_pass_14 : decode cX6_pass 14 = .ok (.getfield 34, 3) := by decide +kernel
theorem dX6_pass_17 : decode cX6_pass 17 = .ok (.getfield 55, 3) := by decide +kernel
theorem dX6_pass_20 : decode cX6_pass 20 = .ok (.if_icmp .ge 33, 3) := by decide +kernel
theorem dX6_pass_23 : decode cX6_pass 23 = .ok (.aload_n 0, 1) := by decide +kernel
theorem dX6_pass_24 : decode cX6_pass 24 = .ok (.iload_n 3, 1) := by decide +kernel
theorem dX6_pass_25 : decode cX6_pass 25 = .ok (.invokevirtual 58, 3) := by decide +kernel
theorem dX6_pass_28 : decode cX6_pass 28 = .ok (.astore 4, 2) := by decide +kernel
theorem dX6_pass_30 : decode cX6_pass 30 = .ok (.aload 4, 2) := by decide +kernel
theorem dX6_pass_32 : decode cX6_pass 32 = .ok (.ifnull 15, 3) := by decide +kernel
theorem dX6_pass_35 : decode cX6_pass 35 = .ok (.aload 4, 2) := by decide +kernel
theorem dX6_pass_37 : decode cX6_pass 37 = .ok (.aload_n 2, 1) := by decide +kernel
theorem dX6_pass_38 : decode cX6_pass 38 = .ok (.if_acmp .eq 9, 3) := by decide +kernel
theorem dX6_pass_41 : decode cX6_pass 41 = .ok (.aload 4, 2) := by decide +kernel
theorem dX6_pass_43 : decode cX6_pass 43 = .ok (.iload_n 1, 1) := by decide +kernel
theorem dX6_pass_44 : decode cX6_pass 44 = .ok (.invokevirtual 93, 3) := by decide +kernel
theorem dX6_pass_47 : decode cX6_pass 47 = .ok (.iinc 3 1, 3) := by decide +kernel
theorem dX6_pass_50 : decode cX6_pass 50 = .ok (.goto (-38), 3) := by decide +kernel
theorem dX6_pass_53 : decode cX6_pass 53 = .ok (.return_, 1) := by decide +kernel
set_option maxRecDepth 20000 in
theorem ggX6_warn_X4_add : GoodIn wsX6_warn wsX4_add := goodIn_r _ [7, 8, 9, 10, 11, 12, 13, 23, 24] (by decide +kernel) (by decide +kernel)
set_option maxRecDepth 20000 in
theorem gX6_warn_X4_add : GoodIn wsX6_warn (wsV RX6 97 RX4 yX4_add wsX4_add) := goodIn_app (goodIn_of _ (by decide +kernel)) ggX6_warn_X4_add
theorem dX6_warn_0 : decode cX6_warn 0 = .ok (.aload_n 0, 1) := by decide +kernel
theorem dX6_warn_1 : decode cX6_warn 1 = .ok (.getfield 22, 3) := by decide +kernel
theorem dX6_warn_4 : decode cX6_warn 4 = .ok (.iload_n 1, 1) := by decide +kernel
theorem dX6_warn_5 : decode cX6_warn 5 = .ok (.invokevirtual 97, 3) := by decide +kernel
theorem dX6_warn_8 : decode cX6_warn 8 = .ok (.iload_n 1, 1) := by decide +kernel
theorem dX6_warn_9 : decode cX6_warn 9 = .ok (.ifCond .lt 22, 3) := by decide +kernel
theorem dX6_warn_12 : decode cX6_warn 12 = .ok (.iload_n 1, 1) := by decide +kernel
theorem dX6_warn_13 : decode cX6_warn 13 = .ok (.aload_n 0, 1) := by decide +kernel
theorem dX6_warn_14 : decode cX6_warn 14 = .ok (.getfield 29, 3) := by decide +kernel
theorem dX6_warn_17 : decode cX6_warn 17 = .ok (.arraylength, 1) := by decide +kernel
theorem dX6_warn_18 : decode cX6_warn 18 = .ok (.if_icmp .ge 13, 3) := by decide +kernel
theorem dX6_warn_21 : decode cX6_warn 21 = .ok (.aload_n 0, 1) := by decide +kernel
theorem dX6_warn_22 : decode cX6_warn 22 = .ok (.getfield 29, 3) := by decide +kernel
theorem dX6_warn_25 : decode cX6_warn 25 = .ok (.iload_n 1, 1) := by decide +kernel
theorem dX6_warn_26 : decode cX6_warn 26 = .ok (.dup2, 1) := by decide +kernel
theorem dX6_warn_27 : decode cX6_warn 27 = .ok (.iaload, 1) := by decide +kernel
theorem dX6_warn_28 : decode cX6_warn 28 = .ok (.iconst 1, 1) := by decide +kernel
theorem dX6_warn_29 : decode cX6_warn 29 = .ok (.iadd, 1) := by decide +kernel
theorem dX6_warn_30 : decode cX6_warn 30 = .ok (.iastore, 1) := by decide +kernel
theorem dX6_warn_31 : decode cX6_warn 31 = .ok (.return_, 1) := by decide +kernel
theorem dX6_warningsOfKind_0 : decode cX6_warningsOfKind 0 = .ok (.iload_n 1, 1) := by decide +kernel
theorem dX6_warningsOfKind_1 : decode cX6_warningsOfKind 1 = .ok (.ifCond .lt 21, 3) := by decide +kernel
theorem dX6_warningsOfKind_4 : decode cX6_warningsOfKind 4 = .ok (.iload_n 1, 1) := by decide +kernel
theorem dX6_warningsOfKind_5 : decode cX6_warningsOfKind 5 = .ok (.aload_n 0, 1) := by decide +kernel
theorem dX6_warningsOfKind_6 : decode cX6_warningsOfKind 6 = .ok (.getfield 29, 3) := by decide +kernel
theorem dX6_warningsOfKind_9 : decode cX6_warningsOfKind 9 = .ok (.arraylength, 1) := by decide +kernel
theorem dX6_warningsOfKind_10 : decode cX6_warningsOfKind 10 = .ok (.if_icmp .ge 12, 3) := by decide +kernel
theorem dX6_warningsOfKind_13 : decode cX6_warningsOfKind 13 = .ok (.aload_n 0, 1) := by decide +kernel
theorem dX6_warningsOfKind_14 : decode cX6_warningsOfKind 14 = .ok (.getfield 29, 3) := by decide +kernel
theorem dX6_warningsOfKind_17 : decode cX6_warningsOfKind 17 = .ok (.iload_n 1, 1) := by decide +kernel
theorem dX6_warningsOfKind_18 : decode cX6_warningsOfKind 18 = .ok (.iaload, 1) := by decide +kernel
theorem dX6_warningsOfKind_19 : decode cX6_warningsOfKind 19 = .ok (.goto 4, 3) := by decide +kernel
theorem dX6_warningsOfKind_22 : decode cX6_warningsOfKind 22 = .ok (.iconst 0, 1) := by decide +kernel
theorem dX6_warningsOfKind_23 : decode cX6_warningsOfKind 23 = .ok (.ireturn, 1) := by decide +kernel
set_option maxRecDepth 20000 in
theorem ggX6_boilingHeat_X6_boilingHeatAt : GoodIn wsX6_boilingHeat wsX6_boilingHeatAt := goodIn_r _ [5] (by decide +kernel) (by decide +kernel)
set_option maxRecDepth 20000 in
theorem gX6_boilingHeat_X6_boilingHeatAt : GoodIn wsX6_boilingHeat (va_wsS RX6 100 yX6_boilingHeatAt wsX6_boilingHeatAt) := goodIn_app (goodIn_of _ (by decide +kernel)) ggX6_boilingHeat_X6_boilingHeatAt
theorem dX6_boilingHeat_0 : decode cX6_boilingHeat 0 = .ok (.aload_n 0, 1) := by decide +kernel
theorem dX6_boilingHeat_1 : decode cX6_boilingHeat 1 = .ok (.getfield 46, 3) := by decide +kernel
theorem dX6_boilingHeat_4 : decode cX6_boilingHeat 4 = .ok (.invokestatic 100, 3) := by decide +kernel
theorem dX6_boilingHeat_7 : decode cX6_boilingHeat 7 = .ok (.ireturn, 1) := by decide +kernel
theorem dX6_boilingHeatAt_0 : decode cX6_boilingHeatAt 0 = .ok (.bipush 100, 2) := by decide +kernel
theorem dX6_boilingHeatAt_2 : decode cX6_boilingHeatAt 2 = .ok (.iload_n 0, 1) := by decide +kernel
theorem dX6_boilingHeatAt_3 : decode cX6_boilingHeatAt 3 = .ok (.iconst 3, 1) := by decide +kernel
theorem dX6_boilingHeatAt_4 : decode cX6_boilingHeatAt 4 = .ok (.idiv, 1) := by decide +kernel
theorem dX6_boilingHeatAt_5 : decode cX6_boilingHeatAt 5 = .ok (.isub, 1) := by decide +kernel
theorem dX6_boilingHeatAt_6 : decode cX6_boilingHeatAt 6 = .ok (.ireturn, 1) := by decide +kernel
set_option maxRecDepth 20000 in
theorem ggX6_slowness_X6_boilingHeatAt : GoodIn wsX6_slowness wsX6_boilingHeatAt := goodIn_r _ [4] (by decide +kernel) (by decide +kernel)
set_option maxRecDepth 20000 in
theorem gX6_slowness_X6_boilingHeatAt : GoodIn wsX6_slowness (va_wsS RX6 100 yX6_boilingHeatAt wsX6_boilingHeatAt) := goodIn_app (goodIn_of _ (by decide +kernel)) ggX6_slowness_X6_boilingHeatAt
theorem dX6_slowness_0 : decode cX6_slowness 0 = .ok (.bipush 100, 2) := by decide +kernel
theorem dX6_slowness_2 : decode cX6_slowness 2 = .ok (.iconst 5, 1) := by decide +kernel
theorem dX6_slowness_3 : decode cX6_slowness 3 = .ok (.bipush 100, 2) := by decide +kernel
theorem dX6_slowness_5 : decode cX6_slowness 5 = .ok (.iload_n 0, 1) := by decide +kernel
theorem dX6_slowness_6 : decode cX6_slowness 6 = .ok (.invokestatic 100, 3) := by decide +kernel
theorem dX6_slowness_9 : decode cX6_slowness 9 = .ok (.isub, 1) := by decide +kernel
theorem dX6_slowness_10 : decode cX6_slowness 10 = .ok (.imul, 1) := by decide +kernel
theorem dX6_slowness_11 : decode cX6_slowness 11 = .ok (.iadd, 1) := by decide +kernel
theorem dX6_slowness_12 : decode cX6_slowness 12 = .ok (.ireturn, 1) := by decide +kernel
set_option maxRecDepth 20000 in
theorem ggX6_boilingMinutes_X6_slowness : GoodIn wsX6_boilingMinutes wsX6_slowness := goodIn_r _ [4, 5, 6, 3, 7] (by decide +kernel) (by decide +kernel)
set_option maxRecDepth 20000 in
theorem gX6_boilingMinutes_X6_slowness : GoodIn wsX6_boilingMinutes (va_wsS RX6 103 yX6_slowness wsX6_slowness) := goodIn_app (goodIn_of _ (by decide +kernel)) ggX6_boilingMinutes_X6_slowness
theorem dX6_boilingMinutes_0 : decode cX6_boilingMinutes 0 = .ok (.iload_n 0, 1) := by decide +kernel
theorem dX6_boilingMinutes_1 : decode cX6_boilingMinutes 1 = .ok (.iload_n 1, 1) := by decide +kernel
theorem dX6_boilingMinutes_2 : decode cX6_boilingMinutes 2 = .ok (.invokestatic 103, 3) := by decide +kernel
theorem dX6_boilingMinutes_5 : decode cX6_boilingMinutes 5 = .ok (.imul, 1) := by decide +kernel
theorem dX6_boilingMinutes_6 : decode cX6_boilingMinutes 6 = .ok (.bipush 99, 2) := by decide +kernel
theorem dX6_boilingMinutes_8 : decode cX6_boilingMinutes 8 = .ok (.iadd, 1) := by decide +kernel
theorem dX6_boilingMinutes_9 : decode cX6_boilingMinutes 9 = .ok (.bipush 100, 2) := by decide +kernel
theorem dX6_boilingMinutes_11 : decode cX6_boilingMinutes 11 = .ok (.idiv, 1) := by decide +kernel
theorem dX6_boilingMinutes_12 : decode cX6_boilingMinutes 12 = .ok (.ireturn, 1) := by decide +kernel
set_option maxRecDepth 20000 in
theorem ggX6_translated_X12_clamped : GoodIn wsX6_translated wsX12_clamped := goodIn_r _ [5, 6, 7, 8, 9, 10, 11, 12] (by decide +kernel) (by decide +kernel)
set_option maxRecDepth 20000 in
theorem gX6_translated_X12_clamped_n106 : GoodIn wsX6_translated (wsX12_clamped) := ggX6_translated_X12_clamped
set_option maxRecDepth 20000 in
theorem ggX6_translated_X12_quotient : GoodIn wsX6_translated wsX12_quotient := goodIn_r _ [14] (by decide +kernel) (by decide +kernel)
set_option maxRecDepth 20000 in
theorem gX6_translated_X12_quotient_n110 : GoodIn wsX6_translated (wsX12_quotient) := ggX6_translated_X12_quotient
theorem dX6_translated_0 : decode cX6_translated 0 = .ok (.iload_n 1, 1) := by decide +kernel
theorem dX6_translated_1 : decode cX6_translated 1 = .ok (.iconst 0, 1) := by decide +kernel
theorem dX6_translated_2 : decode cX6_translated 2 = .ok (.sipush 999, 3) := by decide +kernel
theorem dX6_translated_5 : decode cX6_translated 5 = .ok (.invokestatic 106, 3) := by decide +kernel
theorem dX6_translated_8 : decode cX6_translated 8 = .ok (.aload_n 0, 1) := by decide +kernel
theorem dX6_translated_9 : decode cX6_translated 9 = .ok (.getfield 38, 3) := by decide +kernel
theorem dX6_translated_12 : decode cX6_translated 12 = .ok (.imul, 1) := by decide +kernel
theorem dX6_translated_13 : decode cX6_translated 13 = .ok (.istore_n 2, 1) := by decide +kernel
theorem dX6_translated_14 : decode cX6_translated 14 = .ok (.iload_n 2, 1) := by decide +kernel
theorem dX6_translated_15 : decode cX6_translated 15 = .ok (.iconst 2, 1) := by decide +kernel
theorem dX6_translated_16 : decode cX6_translated 16 = .ok (.aload_n 0, 1) := by decide +kernel
theorem dX6_translated_17 : decode cX6_translated 17 = .ok (.getfield 42, 3) := by decide +kernel
theorem dX6_translated_20 : decode cX6_translated 20 = .ok (.imul, 1) := by decide +kernel
theorem dX6_translated_21 : decode cX6_translated 21 = .ok (.iadd, 1) := by decide +kernel
theorem dX6_translated_22 : decode cX6_translated 22 = .ok (.iconst 4, 1) := by decide +kernel
theorem dX6_translated_23 : decode cX6_translated 23 = .ok (.aload_n 0, 1) := by decide +kernel
theorem dX6_translated_24 : decode cX6_translated 24 = .ok (.getfield 42, 3) := by decide +kernel
theorem dX6_translated_27 : decode cX6_translated 27 = .ok (.imul, 1) := by decide +kernel
theorem dX6_translated_28 : decode cX6_translated 28 = .ok (.invokestatic 110, 3) := by decide +kernel
theorem dX6_translated_31 : decode cX6_translated 31 = .ok (.aload_n 0, 1) := by decide +kernel
theorem dX6_translated_32 : decode cX6_translated 32 = .ok (.getfield 42, 3) := by decide +kernel
theorem dX6_translated_35 : decode cX6_translated 35 = .ok (.imul, 1) := by decide +kernel
theorem dX6_translated_36 : decode cX6_translated 36 = .ok (.ireturn, 1) := by decide +kernel
theorem dX7_init_0 : decode cX7_init 0 = .ok (.aload_n 0, 1) := by decide +kernel
theorem dX7_init_1 : decode cX7_init 1 = .ok (.invokespecial 3, 3) := by decide +kernel
theorem dX7_init_4 : decode cX7_init 4 = .ok (.aload_n 0, 1) := by decide +kernel
theorem dX7_init_5 : decode cX7_init 5 = .ok (.bipush 20, 2) := by decide +kernel
theorem dX7_init_7 : decode cX7_init 7 = .ok (.putfield 9, 3) := by decide +kernel
theorem dX7_init_10 : decode cX7_init 10 = .ok (.return_, 1) := by decide +kernel
theorem dX7_clear_0 : decode cX7_clear 0 = .ok (.aload_n 0, 1) := by decide +kernel
theorem dX7_clear_1 : decode cX7_clear 1 = .ok (.iconst 0, 1) := by decide +kernel
theorem dX7_clear_2 : decode cX7_clear 2 = .ok (.putfield 15, 3) := by decide +kernel
theorem dX7_clear_5 : decode cX7_clear 5 = .ok (.aload_n 0, 1) := by decide +kernel
theorem dX7_clear_6 : decode cX7_clear 6 = .ok (.iconst 0, 1) := by decide +kernel
theorem dX7_clear_7 : decode cX7_clear 7 = .ok (.putfield 18, 3) := by decide +kernel
theorem dX7_clear_10 : decode cX7_clear 10 = .ok (.aload_n 0, 1) := by decide +kernel
theorem dX7_clear_11 : decode cX7_clear 11 = .ok (.bipush 20, 2) := by decide +kernel
theorem dX7_clear_13 : decode cX7_clear 13 = .ok (.putfield 9, 3) := by decide +kernel
theorem dX7_clear_16 : decode cX7_clear 16 = .ok (.aload_n 0, 1) := by decide +kernel
theorem dX7_clear_17 : decode cX7_clear 17 = .ok (.iconst 0, 1) := by decide +kernel
theorem dX7_clear_18 : decode cX7_clear 18 = .ok (.putfield 21, 3) := by decide +kernel
theorem dX7_clear_21 : decode cX7_clear 21 = .ok (.return_, 1) := by decide +kernel
theorem dX7_become_0 : decode cX7_become 0 = .ok (.aload_n 0, 1) := by decide +kernel
theorem dX7_become_1 : decode cX7_become 1 = .ok (.aload_n 1, 1) := by decide +kernel
theorem dX7_become_2 : decode cX7_become 2 = .ok (.getfield 24, 3) := by decide +kernel
theorem dX7_become_5 : decode cX7_become 5 = .ok (.putfield 24, 3) := by decide +kernel
theorem dX7_become_8 : decode cX7_become 8 = .ok (.aload_n 0, 1) := by decide +kernel
theorem dX7_become_9 : decode cX7_become 9 = .ok (.aload_n 1, 1) := by decide +kernel
theorem dX7_become_10 : decode cX7_become 10 = .ok (.getfield 15, 3) := by decide +kernel
theorem dX7_become_13 : decode cX7_become 13 = .ok (.putfield 15, 3) := by decide +kernel
theorem dX7_become_16 : decode cX7_become 16 = .ok (.aload_n 0, 1) := by decide +kernel
theorem dX7_become_17 : decode cX7_become 17 = .ok (.aload_n 1, 1) := by decide +kernel
theorem dX7_become_18 : decode cX7_become 18 = .ok (.getfield 18, 3) := by decide +kernel
theorem dX7_become_21 : decode cX7_become 21 = .ok (.putfield 18, 3) := by decide +kernel
theorem dX7_become_24 : decode cX7_become 24 = .ok (.aload_n 0, 1) := by decide +kernel
theorem dX7_become_25 : decode cX7_become 25 = .ok (.aload_n 1, 1) := by decide +kernel
theorem dX7_become_26 : decode cX7_become 26 = .ok (.getfield 9, 3) := by decide +kernel
theorem dX7_become_29 : decode cX7_become 29 = .ok (.putfield 9, 3) := by decide +kernel
theorem dX7_become_32 : decode cX7_become 32 = .ok (.aload_n 0, 1) := by decide +kernel
theorem dX7_become_33 : decode cX7_become 33 = .ok (.aload_n 1, 1) := by decide +kernel
theorem dX7_become_34 : decode cX7_become 34 = .ok (.getfield 21, 3) := by decide +kernel
theorem dX7_become_37 : decode cX7_become 37 = .ok (.putfield 21, 3) := by decide +kernel
theorem dX7_become_40 : decode cX7_become 40 = .ok (.return_, 1) := by decide +kernel
theorem dX7_inside_0 : decode cX7_inside 0 = .ok (.aload_n 0, 1) := by decide +kernel
theorem dX7_inside_1 : decode cX7_inside 1 = .ok (.getfield 15, 3) := by decide +kernel
theorem dX7_inside_4 : decode cX7_inside 4 = .ok (.aload_n 0, 1) := by decide +kernel
theorem dX7_inside_5 : decode cX7_inside 5 = .ok (.getfield 18, 3) := by decide +kernel
theorem dX7_inside_8 : decode cX7_inside 8 = .ok (.iadd, 1) := by decide +kernel
theorem dX7_inside_9 : decode cX7_inside 9 = .ok (.ireturn, 1) := by decide +kernel
theorem dX7_space_0 : decode cX7_space 0 = .ok (.aload_n 0, 1) := by decide +kernel
theorem dX7_space_1 : decode cX7_space 1 = .ok (.getfield 24, 3) := by decide +kernel
theorem dX7_space_4 : decode cX7_space 4 = .ok (.aload_n 0, 1) := by decide +kernel
theorem dX7_space_5 : decode cX7_space 5 = .ok (.getfield 15, 3) := by decide +kernel
theorem dX7_space_8 : decode cX7_space 8 = .ok (.isub, 1) := by decide +kernel
theorem dX7_space_9 : decode cX7_space 9 = .ok (.aload_n 0, 1) := by decide +kernel
theorem dX7_space_10 : decode cX7_space 10 = .ok (.getfield 18, 3) := by decide +kernel
theorem dX7_space_13 : decode cX7_space 13 = .ok (.isub, 1) := by decide +kernel
theorem dX7_space_14 : decode cX7_space 14 = .ok (.ireturn, 1) := by decide +kernel
set_option maxRecDepth 20000 in
theorem ggX7_fill_X7_space : GoodIn wsX7_fill wsX7_space := goodIn_r _ [13, 14, 8, 7, 22, 23, 24, 25, 26] (by decide +kernel) (by decide +kernel)
set_option maxRecDepth 20000 in
theorem gX7_fill_X7_space : GoodIn wsX7_fill (wsV RX7 27 RX7 yX7_space wsX7_space) := goodIn_app (goodIn_of _ (by decide +kernel)) ggX7_fill_X7_space
set_option maxRecDepth 20000 in
theorem ggX7_fill_X7_inside : GoodIn wsX7_fill wsX7_inside := goodIn_r _ [18, 8, 7, 22, 23, 24, 25, 26] (by decide +kernel) (by decide +kernel)
set_option maxRecDepth 20000 in
theorem gX7_fill_X7_inside : GoodIn wsX7_fill (wsV RX7 37 RX7 yX7_inside wsX7_inside) := goodIn_app (goodIn_of _ (by decide +kernel)) ggX7_fill_X7_inside
set_option maxRecDepth 20000 in
theorem ggX7_fill_X12_quotient : GoodIn wsX7_fill wsX12_quotient := goodIn_r _ [21] (by decide +kernel) (by decide +kernel)
set_option maxRecDepth 20000 in
theorem gX7_fill_X12_quotient_n40 : GoodIn wsX7_fill (wsX12_quotient) := ggX7_fill_X12_quotient
theorem dX7_fill_0 : decode cX7_fill 0 = .ok (.iload_n 1, 1) := by decide +kernel
theorem dX7_fill_1 : decode cX7_fill 1 = .ok (.aload_n 0, 1) := by decide +kernel
theorem dX7_fill_2 : decode cX7_fill 2 = .ok (.invokevirtual 27, 3) := by decide +kernel
theorem dX7_fill_5 : decode cX7_fill 5 = .ok (.invokestatic 31, 3) := by decide +kernel
theorem dX7_fill_8 : decode cX7_fill 8 = .ok (.istore_n 3, 1) := by decide +kernel
theorem dX7_fill_9 : decode cX7_fill 9 = .ok (.iload_n 3, 1) := by decide +kernel
theorem dX7_fill_10 : decode cX7_fill 10 = .ok (.ifCond .gt 5, 3) := by decide +kernel
theorem dX7_fill_13 : decode cX7_fill 13 = .ok (.iconst 0, 1) := by decide +kernel
theorem dX7_fill_14 : decode cX7_fill 14 = .ok (.ireturn, 1) := by decide +kernel
theorem dX7_fill_15 : decode cX7_fill 15 = .ok (.aload_n 0, 1) := by decide +kernel
theorem dX7_fill_16 : decode cX7_fill 16 = .ok (.aload_n 0, 1) := by decide +kernel
theorem dX7_fill_17 : decode cX7_fill 17 = .ok (.getfield 9, 3) := by decide +kernel
theorem dX7_fill_20 : decode cX7_fill 20 = .ok (.aload_n 0, 1) := by decide +kernel
theorem dX7_fill_21 : decode cX7_fill 21 = .ok (.invokevirtual 37, 3) := by decide +kernel
theorem dX7_fill_24 : decode cX7_fill 24 = .ok (.imul, 1) := by decide +kernel
theorem dX7_fill_25 : decode cX7_fill 25 = .ok (.bipush 20, 2) := by decide +kernel
theorem dX7_fill_27 : decode cX7_fill 27 = .ok (.iload_n 3, 1) := by decide +kernel
theorem dX7_fill_28 : decode cX7_fill 28 = .ok (.imul, 1) := by decide +kernel
theorem dX7_fill_29 : decode cX7_fill 29 = .ok (.iadd, 1) := by decide +kernel
theorem dX7_fill_30 : decode cX7_fill 30 = .ok (.aload_n 0, 1) := by decide +kernel
theorem dX7_fill_31 : decode cX7_fill 31 = .ok (.invokevirtual 37, 3) := by decide +kernel
theorem dX7_fill_34 : decode cX7_fill 34 = .ok (.iload_n 3, 1) := by decide +kernel
theorem dX7_fill_35 : decode cX7_fill 35 = .ok (.iadd, 1) := by decide +kernel
theorem dX7_fill_36 : decode cX7_fill 36 = .ok (.invokestatic 40, 3) := by decide +kernel
theorem dX7_fill_39 : decode cX7_fill 39 = .ok (.putfield 9, 3) := by decide +kernel
theorem dX7_fill_42 : decode cX7_fill 42 = .ok (.iload_n 2, 1) := by decide +kernel
theorem dX7_fill_43 : decode cX7_fill 43 = .ok (.ifCond .eq 38, 3) := by decide +kernel
theorem dX7_fill_46 : decode cX7_fill 46 = .ok (.aload_n 0, 1) := by decide +kernel
theorem dX7_fill_47 : decode cX7_fill 47 = .ok (.aload_n 0, 1) := by decide +kernel
theorem dX7_fill_48 : decode cX7_fill 48 = .ok (.getfield 21, 3) := by decide +kernel
theorem dX7_fill_51 : decode cX7_fill 51 = .ok (.aload_n 0, 1) := by decide +kernel
theorem dX7_fill_52 : decode cX7_fill 52 = .ok (.getfield 18, 3) := by decide +kernel
theorem dX7_fill_55 : decode cX7_fill 55 = .ok (.imul, 1) := by decide +kernel
theorem dX7_fill_56 : decode cX7_fill 56 = .ok (.aload_n 0, 1) := by decide +kernel
theorem dX7_fill_57 : decode cX7_fill 57 = .ok (.getfield 18, 3) := by decide +kernel
theorem dX7_fill_60 : decode cX7_fill 60 = .ok (.iload_n 3, 1) := by decide +kernel
theorem dX7_fill_61 : decode cX7_fill 61 = .ok (.iadd, 1) := by decide +kernel
theorem dX7_fill_62 : decode cX7_fill 62 = .ok (.invokestatic 40, 3) := by decide +kernel
theorem dX7_fill_65 : decode cX7_fill 65 = .ok (.putfield 21, 3) := by decide +kernel
theorem dX7_fill_68 : decode cX7_fill 68 = .ok (.aload_n 0, 1) := by decide +kernel
theorem dX7_fill_69 : decode cX7_fill 69 = .ok (.dup, 1) := by decide +kernel
theorem dX7_fill_70 : decode cX7_fill 70 = .ok (.getfield 18, 3) := by decide +kernel
theorem dX7_fill_73 : decode cX7_fill 73 = .ok (.iload_n 3, 1) := by decide +kernel
theorem dX7_fill_74 : decode cX7_fill 74 = .ok (.iadd, 1) := by decide +kernel
theorem dX7_fill_75 : decode cX7_fill 75 = .ok (.putfield 18, 3) := by decide +kernel
theorem dX7_fill_78 : decode cX7_fill 78 = .ok (.goto 13, 3) := by decide +kernel
theorem dX7_fill_81 : decode cX7_fill 81 = .ok (.aload_n 0, 1) := by decide +kernel
theorem dX7_fill_82 : decode cX7_fill 82 = .ok (.dup, 1) := by decide +kernel
theorem dX7_fill_83 : decode cX7_fill 83 = .ok (.getfield 15, 3) := by decide +kernel
theorem dX7_fill_86 : decode cX7_fill 86 = .ok (.iload_n 3, 1) := by decide +kernel
theorem dX7_fill_87 : decode cX7_fill 87 = .ok (.iadd, 1) := by decide +kernel
theorem dX7_fill_88 : decode cX7_fill 88 = .ok (.putfield 15, 3) := by decide +kernel
theorem dX7_fill_91 : decode cX7_fill 91 = .ok (.iload_n 3, 1) := by decide +kernel
theorem dX7_fill_92 : decode cX7_fill 92 = .ok (.ireturn, 1) := by decide +kernel
theorem dX7_cool_0 : decode cX7_cool 0 = .ok (.aload_n 0, 1) := by decide +kernel
theorem dX7_cool_1 : decode cX7_cool 1 = .ok (.bipush 20, 2) := by decide +kernel
theorem dX7_cool_3 : decode cX7_cool 3 = .ok (.aload_n 0, 1) := by decide +kernel
theorem dX7_cool_4 : decode cX7_cool 4 = .ok (.getfield 9, 3) := by decide +kernel
theorem dX7_cool_7 : decode cX7_cool 7 = .ok (.iload_n 1, 1) := by decide +kernel
theorem dX7_cool_8 : decode cX7_cool 8 = .ok (.iconst 2, 1) := by decide +kernel
theorem dX7_cool_9 : decode cX7_cool 9 = .ok (.idiv, 1) := by decide +kernel
theorem dX7_cool_10 : decode cX7_cool 10 = .ok (.isub, 1) := by decide +kernel
theorem dX7_cool_11 : decode cX7_cool 11 = .ok (.invokestatic 43, 3) := by decide +kernel
theorem dX7_cool_14 : decode cX7_cool 14 = .ok (.putfield 9, 3) := by decide +kernel
theorem dX7_cool_17 : decode cX7_cool 17 = .ok (.return_, 1) := by decide +kernel
set_option maxRecDepth 20000 in
theorem ggX8_init_X10_init : GoodIn wsX8_init wsX10_init := goodIn_r _ [13, 14, 2, 3, 15, 16, 17, 18, 19, 20, 21, 22, 31, 32, 33, 34, 35, 36] (by decide +kernel) (by decide +kernel)
set_option maxRecDepth 20000 in
theorem gX8_init_X10_init_n9 : GoodIn wsX8_init (wsX10_init) := ggX8_init_X10_init
set_option maxRecDepth 20000 in
theorem ggX8_init_X2_init : GoodIn wsX8_init wsX2_init := goodIn_r _ [24, 25, 2, 3, 19, 26, 17, 27, 28, 29, 30, 41, 42, 43, 44, 45, 46, 47] (by decide +kernel) (by decide +kernel)
set_option maxRecDepth 20000 in
theorem gX8_init_X2_init_n18 : GoodIn wsX8_init (wsX2_init) := ggX8_init_X2_init
theorem dX8_init_0 : decode cX8_init 0 = .ok (.aload_n 0, 1) := by decide +kernel
theorem dX8_init_1 : decode cX8_init 1 = .ok (.invokespecial 1, 3) := by decide +kernel
theorem dX8_init_4 : decode cX8_init 4 = .ok (.aload_n 0, 1) := by decide +kernel
theorem dX8_init_5 : decode cX8_init 5 = .ok (.new 7, 3) := by decide +kernel
theorem dX8_init_8 : decode cX8_init 8 = .ok (.dup, 1) := by decide +kernel
theorem dX8_init_9 : decode cX8_init 9 = .ok (.invokespecial 9, 3) := by decide +kernel
theorem dX8_init_12 : decode cX8_init 12 = .ok (.putfield 10, 3) := by decide +kernel
theorem dX8_init_15 : decode cX8_init 15 = .ok (.aload_n 0, 1) := by decide +kernel
theorem dX8_init_16 : decode cX8_init 16 = .ok (.new 16, 3) := by decide +kernel
theorem dX8_init_19 : decode cX8_init 19 = .ok (.dup, 1) := by decide +kernel
theorem dX8_init_20 : decode cX8_init 20 = .ok (.invokespecial 18, 3) := by decide +kernel
theorem dX8_init_23 : decode cX8_init 23 = .ok (.putfield 19, 3) := by decide +kernel
theorem dX8_init_26 : decode cX8_init 26 = .ok (.return_, 1) := by decide +kernel
set_option maxRecDepth 20000 in
theorem ggX8_readBook_X2_init : GoodIn wsX8_readBook wsX2_init := goodIn_r _ [12, 13, 14, 15, 16, 17, 18, 19, 20, 21, 22, 239, 240, 241, 242, 243, 244, 245] (by decide +kernel) (by decide +kernel)
set_option maxRecDepth 20000 in
theorem gX8_readBook_X2_init_n18 : GoodIn wsX8_readBook (wsX2_init) := ggX8_readBook_X2_init
set_option maxRecDepth 20000 in
theorem ggX8_readBook_X10_split : GoodIn wsX8_readBook wsX10_split := goodIn_r _ [27, 28, 29, 30, 31, 32, 33, 26, 34, 35, 36, 37, 38, 39, 40, 41, 42, 43, 44, 45, 46, 47, 48, 49, 50, 51, 52, 53, 54, 55, 56, 57, 58, 59, 60, 61, 62, 63, 64, 65, 66, 67, 68, 69, 70, 71, 72, 73, 74, 75, 76, 77, 78, 79, 80, 81, 82, 83, 84, 85, 86, 87, 88, 89, 250, 251, 252, 253, 254, 255, 256, 257] (by decide +kernel) (by decide +kernel)
set_option maxRecDepth 20000 in
theorem gX8_readBook_X10_split : GoodIn wsX8_readBook (wsV RX8 27 RX10 yX10_split wsX10_split) := goodIn_app (goodIn_of _ (by decide +kernel)) ggX8_readBook_X10_split
set_option maxRecDepth 20000 in
theorem ggX8_readBook_X8_readPan : GoodIn wsX8_readBook wsX8_readPan := goodIn_r _ [94, 6, 7, 4, 95, 96, 97, 98, 99, 100, 26, 101, 89, 85, 86, 87, 88, 31, 28, 82, 30, 102, 103, 104, 93, 105, 106, 107, 108, 109, 110, 84, 111, 112, 113, 114, 115, 116, 3, 117, 118, 119, 120, 121, 5, 10, 122, 123, 124, 125, 126, 17, 19, 246, 247, 248, 249, 239, 240, 241, 242, 243, 244, 245, 250, 251, 252, 253, 254, 255] (by decide +kernel) (by decide +kernel)
set_option maxRecDepth 20000 in
theorem gX8_readBook_X8_readPan : GoodIn wsX8_readBook (wsV RX8 40 RX8 yX8_readPan wsX8_readPan) := goodIn_app (goodIn_of _ (by decide +kernel)) ggX8_readBook_X8_readPan
set_option maxRecDepth 20000 in
theorem ggX8_readBook_X10_take : GoodIn wsX8_readBook wsX10_take := goodIn_r _ [101, 89, 85, 86, 87, 26, 88, 31, 28, 82, 30, 250, 251, 252, 253, 254, 255] (by decide +kernel) (by decide +kernel)
set_option maxRecDepth 20000 in
theorem gX8_readBook_X10_take : GoodIn wsX8_readBook (wsV RX8 46 RX10 yX10_take wsX10_take) := goodIn_app (goodIn_of _ (by decide +kernel)) ggX8_readBook_X10_take
set_option maxRecDepth 20000 in
theorem ggX8_readBook_X8_readNewName : GoodIn wsX8_readBook wsX8_readNewName := goodIn_r _ [105, 6, 106, 107, 108, 109, 26, 110, 31, 84, 111, 112, 113, 93, 114, 4, 115, 116, 3, 117, 118, 119, 120, 121, 5, 10, 98, 99, 100, 101, 89, 85, 86, 87, 88, 28, 82, 30, 246, 247, 248, 249, 250, 251, 252, 253, 254, 255, 239, 240, 241, 242, 243, 244, 245] (by decide +kernel) (by decide +kernel)
set_option maxRecDepth 20000 in
theorem gX8_readBook_X8_readNewName : GoodIn wsX8_readBook (wsV RX8 53 RX8 yX8_readNewName wsX8_readNewName) := goodIn_app (goodIn_of _ (by decide +kernel)) ggX8_readBook_X8_readNewName
set_option maxRecDepth 20000 in
theorem ggX8_readBook_X8_readBlock : GoodIn wsX8_readBook wsX8_readBlock := goodIn_r _ [130, 6, 131, 132, 133, 86, 87, 26, 88, 31, 28, 82, 30, 89, 134, 135, 136, 60, 137, 138, 139, 140, 141, 142, 143, 144, 145, 146, 147, 148, 149, 93, 98, 99, 100, 101, 85, 150, 151, 152, 153, 154, 155, 156, 157, 158, 159, 160, 161, 97, 162, 163, 164, 165, 14, 15, 166, 167, 168, 169, 170, 171, 172, 4, 118, 119, 120, 121, 5, 10, 173, 174, 175, 176, 177, 178, 179, 180, 181, 182, 183, 184, 185, 186, 96, 187, 188, 189, 190, 191, 192, 107, 108, 109, 110, 84, 193, 194, 195, 196, 197, 198, 199, 200, 201, 202, 203, 204, 106, 115, 116, 3, 117, 205, 206, 207, 208, 209, 210, 211, 212, 213, 214, 215, 216, 217, 218, 219, 220, 221, 127, 128, 129, 222, 223, 224, 225, 226, 227, 228, 229, 230, 231, 232, 233, 258, 259, 260, 261, 262, 263, 264, 265, 266, 246, 247, 248, 249, 250, 251, 252, 253, 254, 255, 239, 240, 241, 242, 243, 244, 245, 267, 268, 269, 270, 271] (by decide +kernel) (by decide +kernel)
set_option maxRecDepth 20000 in
theorem gX8_readBook_X8_readBlock : GoodIn wsX8_readBook (wsV RX8 57 RX8 yX8_readBlock wsX8_readBlock) := goodIn_app (goodIn_of _ (by decide +kernel)) ggX8_readBook_X8_readBlock
set_option maxRecDepth 20000 in
theorem ggX8_readBook_X2_addRecipe : GoodIn wsX8_readBook wsX2_addRecipe := goodIn_r _ [237, 238, 20, 22, 239, 240, 241, 242, 243, 244, 245] (by decide +kernel) (by decide +kernel)
set_option maxRecDepth 20000 in
theorem gX8_readBook_X2_addRecipe : GoodIn wsX8_readBook (wsV RX8 61 RX2 yX2_addRecipe wsX2_addRecipe) := goodIn_app (goodIn_of _ (by decide +kernel)) ggX8_readBook_X2_addRecipe
theorem dX8_readBook_0 : decode cX8_readBook 0 = .ok (.aload_n 0, 1) := by decide +kernel
theorem dX8_readBook_1 : decode cX8_readBook 1 = .ok (.new 16, 3) := by decide +kernel
theorem dX8_readBook_4 : decode cX8_readBook 4 = .ok (.dup, 1) := by decide +kernel
theorem dX8_readBook_5 : decode cX8_readBook 5 = .ok (.invokespecial 18, 3) := by decide +kernel
theorem dX8_readBook_8 : decode cX8_readBook 8 = .ok (.putfield 19, 3) := by decide +kernel
theorem dX8_readBook_11 : decode cX8_readBook 11 = .ok (.aload_n 0, 1) := by decide +kernel
theorem dX8_readBook_12 : decode cX8_readBook 12 = .ok (.iconst 0, 1) := by decide +kernel
theorem dX8_readBook_13 : decode cX8_readBook 13 = .ok (.putfield 23, 3) := by decide +kernel
theorem dX8_readBook_16 : decode cX8_readBook 16 = .ok (.aload_n 0, 1) := by decide +kernel
theorem dX8_readBook_17 : decode cX8_readBook 17 = .ok (.getfield 10, 3) := by decide +kernel
theorem dX8_readBook_20 : decode cX8_readBook 20 = .ok (.aload_n 1, 1) := by decide +kernel
theorem dX8_readBook_21 : decode cX8_readBook 21 = .ok (.invokevirtual 27, 3) := by decide +kernel
theorem dX8_readBook_24 : decode cX8_readBook 24 = .ok (.iconst 0, 1) := by decide +kernel
theorem dX8_readBook_25 : decode cX8_readBook 25 = .ok (.istore_n 2, 1) := by decide +kernel
theorem dX8_readBook_26 : decode cX8_readBook 26 = .ok (.iload_n 2, 1) := by decide +kernel
theorem dX8_readBook_27 : decode cX8_readBook 27 = .ok (.sipush 400, 3) := by decide +kernel
theorem dX8_readBook_30 : decode cX8_readBook 30 = .ok (.if_icmp .ge 26, 3) := by decide +kernel
theorem dX8_readBook_33 : decode cX8_readBook 33 = .ok (.aload_n 0, 1) := by decide +kernel
theorem dX8_readBook_34 : decode cX8_readBook 34 = .ok (.getfield 10, 3) := by decide +kernel
theorem dX8_readBook_37 : decode cX8_readBook 37 = .ok (.getfield 31, 3) := by decide +kernel
theorem dX8_readBook_40 : decode cX8_readBook 40 = .ok (.getstatic 35, 3) := by decide +kernel
theorem dX8_readBook_43 : decode cX8_readBook 43 = .ok (.if_acmp .ne 13, 3) := by decide +kernel
theorem dX8_readBook_46 : decode cX8_readBook 46 = .ok (.aload_n 0, 1) := by decide +kernel
theorem dX8_readBook_47 : decode cX8_readBook 47 = .ok (.invokevirtual 40, 3) := by decide +kernel
theorem dX8_readBook_50 : decode cX8_readBook 50 = .ok (.iinc 2 1, 3) := by decide +kernel
theorem dX8_readBook_53 : decode cX8_readBook 53 = .ok (.goto (-27), 3) := by decide +kernel
theorem dX8_readBook_56 : decode cX8_readBook 56 = .ok (.iconst 0, 1) := by decide +kernel
theorem dX8_readBook_57 : decode cX8_readBook 57 = .ok (.istore_n 2, 1) := by decide +kernel
theorem dX8_readBook_58 : decode cX8_readBook 58 = .ok (.iload_n 2, 1) := by decide +kernel
theorem dX8_readBook_59 : decode cX8_readBook 59 = .ok (.sipush 400, 3) := by decide +kernel
theorem dX8_readBook_62 : decode cX8_readBook 62 = .ok (.if_icmp .ge 67, 3) := by decide +kernel
theorem dX8_readBook_65 : decode cX8_readBook 65 = .ok (.aload_n 0, 1) := by decide +kernel
theorem dX8_readBook_66 : decode cX8_readBook 66 = .ok (.getfield 10, 3) := by decide +kernel
theorem dX8_readBook_69 : decode cX8_readBook 69 = .ok (.getfield 31, 3) := by decide +kernel
theorem dX8_readBook_72 : decode cX8_readBook 72 = .ok (.getstatic 43, 3) := by decide +kernel
theorem dX8_readBook_75 : decode cX8_readBook 75 = .ok (.if_acmp .ne 54, 3) := by decide +kernel
theorem dX8_readBook_78 : decode cX8_readBook 78 = .ok (.aload_n 0, 1) := by decide +kernel
theorem dX8_readBook_79 : decode cX8_readBook 79 = .ok (.getfield 10, 3) := by decide +kernel
theorem dX8_readBook_82 : decode cX8_readBook 82 = .ok (.getstatic 43, 3) := by decide +kernel
theorem dX8_readBook_85 : decode cX8_readBook 85 = .ok (.invokevirtual 46, 3) := by decide +kernel
theorem dX8_readBook_88 : decode cX8_readBook 88 = .ok (.aload_n 0, 1) := by decide +kernel
theorem dX8_readBook_89 : decode cX8_readBook 89 = .ok (.aload_n 0, 1) := by decide +kernel
theorem dX8_readBook_90 : decode cX8_readBook 90 = .ok (.getfield 19, 3) := by decide +kernel
theorem dX8_readBook_93 : decode cX8_readBook 93 = .ok (.getfield 50, 3) := by decide +kernel
theorem dX8_readBook_96 : decode cX8_readBook 96 = .ok (.bipush 6, 2) := by decide +kernel
theorem dX8_readBook_98 : decode cX8_readBook 98 = .ok (.if_icmp .lt 7, 3) := by decide +kernel
theorem dX8_readBook_101 : decode cX8_readBook 101 = .ok (.iconst 1, 1) := by decide +kernel
theorem dX8_readBook_102 : decode cX8_readBook 102 = .ok (.goto 4, 3) := by decide +kernel
theorem dX8_readBook_105 : decode cX8_readBook 105 = .ok (.iconst 0, 1) := by decide +kernel
theorem dX8_readBook_106 : decode cX8_readBook 106 = .ok (.invokevirtual 53, 3) := by decide +kernel
theorem dX8_readBook_109 : decode cX8_readBook 109 = .ok (.lstore_n 3, 1) := by decide +kernel
theorem dX8_readBook_110 : decode cX8_readBook 110 = .ok (.aload_n 0, 1) := by decide +kernel
theorem dX8_readBook_111 : decode cX8_readBook 111 = .ok (.getfield 19, 3) := by decide +kernel
theorem dX8_readBook_114 : decode cX8_readBook 114 = .ok (.lload_n 3, 1) := by decide +kernel
theorem dX8_readBook_115 : decode cX8_readBook 115 = .ok (.aload_n 0, 1) := by decide +kernel
theorem dX8_readBook_116 : decode cX8_readBook 116 = .ok (.iconst 0, 1) := by decide +kernel
theorem dX8_readBook_117 : decode cX8_readBook 117 = .ok (.invokevirtual 57, 3) := by decide +kernel
theorem dX8_readBook_120 : decode cX8_readBook 120 = .ok (.invokevirtual 61, 3) := by decide +kernel
theorem dX8_readBook_123 : decode cX8_readBook 123 = .ok (.iinc 2 1, 3) := by decide +kernel
theorem dX8_readBook_126 : decode cX8_readBook 126 = .ok (.goto (-68), 3) := by decide +kernel
theorem dX8_readBook_129 : decode cX8_readBook 129 = .ok (.aload_n 0, 1) := by decide +kernel
theorem dX8_readBook_130 : decode cX8_readBook 130 = .ok (.getfield 10, 3) := by decide +kernel
theorem dX8_readBook_133 : decode cX8_readBook 133 = .ok (.getfield 31, 3) := by decide +kernel
theorem dX8_readBook_136 : decode cX8_readBook 136 = .ok (.getstatic 65, 3) := by decide +kernel
theorem dX8_readBook_139 : decode cX8_readBook 139 = .ok (.if_acmp .eq 19, 3) := by decide +kernel
theorem dX8_readBook_142 : decode cX8_readBook 142 = .ok (.aload_n 0, 1) := by decide +kernel
theorem dX8_readBook_143 : decode cX8_readBook 143 = .ok (.iconst 1, 1) := by decide +kernel
theorem dX8_readBook_144 : decode cX8_readBook 144 = .ok (.putfield 23, 3) := by decide +kernel
theorem dX8_readBook_147 : decode cX8_readBook 147 = .ok (.aload_n 0, 1) := by decide +kernel
theorem dX8_readBook_148 : decode cX8_readBook 148 = .ok (.aload_n 0, 1) := by decide +kernel
theorem dX8_readBook_149 : decode cX8_readBook 149 = .ok (.getfield 10, 3) := by decide +kernel
theorem dX8_readBook_152 : decode cX8_readBook 152 = .ok (.getfield 68, 3) := by decide +kernel
theorem dX8_readBook_155 : decode cX8_readBook 155 = .ok (.putfield 71, 3) := by decide +kernel
theorem dX8_readBook_158 : decode cX8_readBook 158 = .ok (.aload_n 0, 1) := by decide +kernel
theorem dX8_readBook_159 : decode cX8_readBook 159 = .ok (.getfield 23, 3) := by decide +kernel
theorem dX8_readBook_162 : decode cX8_readBook 162 = .ok (.ireturn, 1) := by decide +kernel
set_option maxRecDepth 20000 in
theorem ggX8_errorPosition_X10_positionOf : GoodIn wsX8_errorPosition wsX10_positionOf := goodIn_r _ [8, 9, 14, 15, 16, 17, 18, 19] (by decide +kernel) (by decide +kernel)
set_option maxRecDepth 20000 in
theorem gX8_errorPosition_X10_positionOf : GoodIn wsX8_errorPosition (wsV RX8 74 RX10 yX10_positionOf wsX10_positionOf) := goodIn_app (goodIn_of _ (by decide +kernel)) ggX8_errorPosition_X10_positionOf
theorem dX8_errorPosition_0 : decode cX8_errorPosition 0 = .ok (.aload_n 0, 1) := by decide +kernel
theorem dX8_errorPosition_1 : decode cX8_errorPosition 1 = .ok (.getfield 23, 3) := by decide +kernel
theorem dX8_errorPosition_4 : decode cX8_errorPosition 4 = .ok (.ifCond .ne 7, 3) := by decide +kernel
theorem dX8_errorPosition_7 : decode cX8_errorPosition 7 = .ok (.iconst (-1), 1) := by decide +kernel
theorem dX8_errorPosition_8 : decode cX8_errorPosition 8 = .ok (.goto 14, 3) := by decide +kernel
theorem dX8_errorPosition_11 : decode cX8_errorPosition 11 = .ok (.aload_n 0, 1) := by decide +kernel
theorem dX8_errorPosition_12 : decode cX8_errorPosition 12 = .ok (.getfield 10, 3) := by decide +kernel
theorem dX8_errorPosition_15 : decode cX8_errorPosition 15 = .ok (.aload_n 0, 1) := by decide +kernel
theorem dX8_errorPosition_16 : decode cX8_errorPosition 16 = .ok (.getfield 71, 3) := by decide +kernel
theorem dX8_errorPosition_19 : decode cX8_errorPosition 19 = .ok (.invokevirtual 74, 3) := by decide +kernel
theorem dX8_errorPosition_22 : decode cX8_errorPosition 22 = .ok (.ireturn, 1) := by decide +kernel
theorem dX8_complain_0 : decode cX8_complain 0 = .ok (.aload_n 0, 1) := by decide +kernel
theorem dX8_complain_1 : decode cX8_complain 1 = .ok (.getfield 23, 3) := by decide +kernel
theorem dX8_complain_4 : decode cX8_complain 4 = .ok (.ifCond .ne 19, 3) := by decide +kernel
theorem dX8_complain_7 : decode cX8_complain 7 = .ok (.aload_n 0, 1) := by decide +kernel
theorem dX8_complain_8 : decode cX8_complain 8 = .ok (.iload_n 1, 1) := by decide +kernel
theorem dX8_complain_9 : decode cX8_complain 9 = .ok (.putfield 23, 3) := by decide +kernel
theorem dX8_complain_12 : decode cX8_complain 12 = .ok (.aload_n 0, 1) := by decide +kernel
theorem dX8_complain_13 : decode cX8_complain 13 = .ok (.aload_n 0, 1) := by decide +kernel
theorem dX8_complain_14 : decode cX8_complain 14 = .ok (.getfield 10, 3) := by decide +kernel
theorem dX8_complain_17 : decode cX8_complain 17 = .ok (.getfield 68, 3) := by decide +kernel
theorem dX8_complain_20 : decode cX8_complain 20 = .ok (.putfield 71, 3) := by decide +kernel
theorem dX8_complain_23 : decode cX8_complain 23 = .ok (.return_, 1) := by decide +kernel
set_option maxRecDepth 20000 in
theorem ggX8_readPan_X10_take : GoodIn wsX8_readPan wsX10_take := goodIn_r _ [11, 12, 13, 14, 15, 10, 16, 17, 18, 19, 20, 64, 65, 66, 67, 68, 69] (by decide +kernel) (by decide +kernel)
set_option maxRecDepth 20000 in
theorem gX8_readPan_X10_take : GoodIn wsX8_readPan (wsV RX8 46 RX10 yX10_take wsX10_take) := goodIn_app (goodIn_of _ (by decide +kernel)) ggX8_readPan_X10_take
set_option maxRecDepth 20000 in
theorem ggX8_readPan_X8_readNewName : GoodIn wsX8_readPan wsX8_readNewName := goodIn_r _ [25, 1, 26, 27, 28, 29, 10, 30, 17, 31, 32, 33, 34, 24, 35, 3, 36, 37, 38, 39, 40, 41, 42, 43, 44, 45, 7, 8, 9, 11, 12, 13, 14, 15, 16, 18, 19, 20, 53, 54, 55, 56, 64, 65, 66, 67, 68, 69, 57, 58, 59, 60, 61, 62, 63] (by decide +kernel) (by decide +kernel)
set_option maxRecDepth 20000 in
theorem gX8_readPan_X8_readNewName : GoodIn wsX8_readPan (wsV RX8 53 RX8 yX8_readNewName wsX8_readNewName) := goodIn_app (goodIn_of _ (by decide +kernel)) ggX8_readPan_X8_readNewName
set_option maxRecDepth 20000 in
theorem ggX8_readPan_X10_worth : GoodIn wsX8_readPan wsX10_worth := goodIn_r _ [30, 17, 31, 64, 65, 66, 67, 68, 69] (by decide +kernel) (by decide +kernel)
set_option maxRecDepth 20000 in
theorem gX8_readPan_X10_worth : GoodIn wsX8_readPan (wsV RX8 84 RX10 yX10_worth wsX10_worth) := goodIn_app (goodIn_of _ (by decide +kernel)) ggX8_readPan_X10_worth
set_option maxRecDepth 20000 in
theorem ggX8_readPan_X8_complain : GoodIn wsX8_readPan wsX8_complain := goodIn_r _ [43, 44, 1, 45, 53, 54, 55, 56, 64, 65, 66, 67, 68, 69] (by decide +kernel) (by decide +kernel)
set_option maxRecDepth 20000 in
theorem gX8_readPan_X8_complain : GoodIn wsX8_readPan (wsV RX8 91 RX8 yX8_complain wsX8_complain) := goodIn_app (goodIn_of _ (by decide +kernel)) ggX8_readPan_X8_complain
set_option maxRecDepth 20000 in
theorem ggX8_readPan_X2_addPan : GoodIn wsX8_readPan wsX2_addPan := goodIn_r _ [49, 50, 51, 52, 57, 58, 59, 60, 61, 62, 63] (by decide +kernel) (by decide +kernel)
set_option maxRecDepth 20000 in
theorem gX8_readPan_X2_addPan : GoodIn wsX8_readPan (wsV RX8 98 RX2 yX2_addPan wsX2_addPan) := goodIn_app (goodIn_of _ (by decide +kernel)) ggX8_readPan_X2_addPan
theorem dX8_readPan_0 : decode cX8_readPan 0 = .ok (.aload_n 0, 1) := by decide +kernel
theorem dX8_readPan_1 : decode cX8_readPan 1 = .ok (.getfield 10, 3) := by decide +kernel
theorem dX8_readPan_4 : decode cX8_readPan 4 = .ok (.getstatic 35, 3) := by decide +kernel
theorem dX8_readPan_7 : decode cX8_readPan 7 = .ok (.invokevirtual 46, 3) := by decide +kernel
theorem dX8_readPan_10 : decode cX8_readPan 10 = .ok (.aload_n 0, 1) := by decide +kernel
theorem dX8_readPan_11 : decode cX8_readPan 11 = .ok (.aload_n 0, 1) := by decide +kernel
theorem dX8_readPan_12 : decode cX8_readPan 12 = .ok (.getfield 19, 3) := by decide +kernel
theorem dX8_readPan_15 : decode cX8_readPan 15 = .ok (.getfield 78, 3) := by decide +kernel
theorem dX8_readPan_18 : decode cX8_readPan 18 = .ok (.bipush 8, 2) := by decide +kernel
theorem dX8_readPan_20 : decode cX8_readPan 20 = .ok (.if_icmp .lt 7, 3) := by decide +kernel
theorem dX8_readPan_23 : decode cX8_readPan 23 = .ok (.iconst 1, 1) := by decide +kernel
theorem dX8_readPan_24 : decode cX8_readPan 24 = .ok (.goto 4, 3) := by decide +kernel
theorem dX8_readPan_27 : decode cX8_readPan 27 = .ok (.iconst 0, 1) := by decide +kernel
theorem dX8_readPan_28 : decode cX8_readPan 28 = .ok (.invokevirtual 53, 3) := by decide +kernel
theorem dX8_readPan_31 : decode cX8_readPan 31 = .ok (.lstore_n 1, 1) := by decide +kernel
theorem dX8_readPan_32 : decode cX8_readPan 32 = .ok (.aload_n 0, 1) := by decide +kernel
theorem dX8_readPan_33 : decode cX8_readPan 33 = .ok (.getfield 10, 3) := by decide +kernel
theorem dX8_readPan_36 : decode cX8_readPan 36 = .ok (.getstatic 81, 3) := by decide +kernel
theorem dX8_readPan_39 : decode cX8_readPan 39 = .ok (.invokevirtual 46, 3) := by decide +kernel
theorem dX8_readPan_42 : decode cX8_readPan 42 = .ok (.aload_n 0, 1) := by decide +kernel
theorem dX8_readPan_43 : decode cX8_readPan 43 = .ok (.getfield 10, 3) := by decide +kernel
theorem dX8_readPan_46 : decode cX8_readPan 46 = .ok (.invokevirtual 84, 3) := by decide +kernel
theorem dX8_readPan_49 : decode cX8_readPan 49 = .ok (.l2i, 1) := by decide +kernel
theorem dX8_readPan_50 : decode cX8_readPan 50 = .ok (.istore_n 3, 1) := by decide +kernel
theorem dX8_readPan_51 : decode cX8_readPan 51 = .ok (.aload_n 0, 1) := by decide +kernel
theorem dX8_readPan_52 : decode cX8_readPan 52 = .ok (.getfield 10, 3) := by decide +kernel
theorem dX8_readPan_55 : decode cX8_readPan 55 = .ok (.getfield 31, 3) := by decide +kernel
theorem dX8_readPan_58 : decode cX8_readPan 58 = .ok (.getstatic 88, 3) := by decide +kernel
theorem dX8_readPan_61 : decode cX8_readPan 61 = .ok (.if_acmp .ne 20, 3) := by decide +kernel
theorem dX8_readPan_64 : decode cX8_readPan 64 = .ok (.iload_n 3, 1) := by decide +kernel
theorem dX8_readPan_65 : decode cX8_readPan 65 = .ok (.iconst 1, 1) := by decide +kernel
theorem dX8_readPan_66 : decode cX8_readPan 66 = .ok (.if_icmp .lt 10, 3) := by decide +kernel
theorem dX8_readPan_69 : decode cX8_readPan 69 = .ok (.iload_n 3, 1) := by decide +kernel
theorem dX8_readPan_70 : decode cX8_readPan 70 = .ok (.sipush 200, 3) := by decide +kernel
theorem dX8_readPan_73 : decode cX8_readPan 73 = .ok (.if_icmp .le 8, 3) := by decide +kernel
theorem dX8_readPan_76 : decode cX8_readPan 76 = .ok (.aload_n 0, 1) := by decide +kernel
theorem dX8_readPan_77 : decode cX8_readPan 77 = .ok (.iconst 5, 1) := by decide +kernel
theorem dX8_readPan_78 : decode cX8_readPan 78 = .ok (.invokevirtual 91, 3) := by decide +kernel
theorem dX8_readPan_81 : decode cX8_readPan 81 = .ok (.aload_n 0, 1) := by decide +kernel
theorem dX8_readPan_82 : decode cX8_readPan 82 = .ok (.getfield 10, 3) := by decide +kernel
theorem dX8_readPan_85 : decode cX8_readPan 85 = .ok (.getstatic 88, 3) := by decide +kernel
theorem dX8_readPan_88 : decode cX8_readPan 88 = .ok (.invokevirtual 46, 3) := by decide +kernel
theorem dX8_readPan_91 : decode cX8_readPan 91 = .ok (.aload_n 0, 1) := by decide +kernel
theorem dX8_readPan_92 : decode cX8_readPan 92 = .ok (.getfield 10, 3) := by decide +kernel
theorem dX8_readPan_95 : decode cX8_readPan 95 = .ok (.getstatic 95, 3) := by decide +kernel
theorem dX8_readPan_98 : decode cX8_readPan 98 = .ok (.invokevirtual 46, 3) := by decide +kernel
theorem dX8_readPan_101 : decode cX8_readPan 101 = .ok (.aload_n 0, 1) := by decide +kernel
theorem dX8_readPan_102 : decode cX8_readPan 102 = .ok (.getfield 19, 3) := by decide +kernel
theorem dX8_readPan_105 : decode cX8_readPan 105 = .ok (.lload_n 1, 1) := by decide +kernel
theorem dX8_readPan_106 : decode cX8_readPan 106 = .ok (.iload_n 3, 1) := by decide +kernel
theorem dX8_readPan_107 : decode cX8_readPan 107 = .ok (.invokevirtual 98, 3) := by decide +kernel
theorem dX8_readPan_110 : decode cX8_readPan 110 = .ok (.return_, 1) := by decide +kernel
set_option maxRecDepth 20000 in
theorem ggX8_readNewName_X10_worth : GoodIn wsX8_readNewName wsX10_worth := goodIn_r _ [7, 8, 9, 42, 43, 44, 45, 46, 47] (by decide +kernel) (by decide +kernel)
set_option maxRecDepth 20000 in
theorem gX8_readNewName_X10_worth : GoodIn wsX8_readNewName (wsV RX8 84 RX10 yX10_worth wsX10_worth) := goodIn_app (goodIn_of _ (by decide +kernel)) ggX8_readNewName_X10_worth
set_option maxRecDepth 20000 in
theorem ggX8_readNewName_X8_isTaken : GoodIn wsX8_readNewName wsX8_isTaken := goodIn_r _ [14, 15, 16, 17, 18, 19, 38, 39, 40, 41, 48, 49, 50, 51, 52, 53, 54] (by decide +kernel) (by decide +kernel)
set_option maxRecDepth 20000 in
theorem gX8_readNewName_X8_isTaken : GoodIn wsX8_readNewName (wsV RX8 105 RX8 yX8_isTaken wsX8_isTaken) := goodIn_app (goodIn_of _ (by decide +kernel)) ggX8_readNewName_X8_isTaken
set_option maxRecDepth 20000 in
theorem ggX8_readNewName_X8_complain : GoodIn wsX8_readNewName wsX8_complain := goodIn_r _ [23, 24, 1, 25, 38, 39, 40, 41, 42, 43, 44, 45, 46, 47] (by decide +kernel) (by decide +kernel)
set_option maxRecDepth 20000 in
theorem gX8_readNewName_X8_complain : GoodIn wsX8_readNewName (wsV RX8 91 RX8 yX8_complain wsX8_complain) := goodIn_app (goodIn_of _ (by decide +kernel)) ggX8_readNewName_X8_complain
set_option maxRecDepth 20000 in
theorem ggX8_readNewName_X10_take : GoodIn wsX8_readNewName wsX10_take := goodIn_r _ [29, 30, 31, 32, 33, 6, 34, 8, 35, 36, 37, 42, 43, 44, 45, 46, 47] (by decide +kernel) (by decide +kernel)
set_option maxRecDepth 20000 in
theorem gX8_readNewName_X10_take : GoodIn wsX8_readNewName (wsV RX8 46 RX10 yX10_take wsX10_take) := goodIn_app (goodIn_of _ (by decide +kernel)) ggX8_readNewName_X10_take
theorem dX8_readNewName_0 : decode cX8_readNewName 0 = .ok (.aload_n 0, 1) := by decide +kernel
theorem dX8_readNewName_1 : decode cX8_readNewName 1 = .ok (.getfield 10, 3) := by decide +kernel
theorem dX8_readNewName_4 : decode cX8_readNewName 4 = .ok (.invokevirtual 84, 3) := by decide +kernel
theorem dX8_readNewName_7 : decode cX8_readNewName 7 = .ok (.lstore_n 2, 1) := by decide +kernel
theorem dX8_readNewName_8 : decode cX8_readNewName 8 = .ok (.aload_n 0, 1) := by decide +kernel
theorem dX8_readNewName_9 : decode cX8_readNewName 9 = .ok (.getfield 10, 3) := by decide +kernel
theorem dX8_readNewName_12 : decode cX8_readNewName 12 = .ok (.getfield 31, 3) := by decide +kernel
theorem dX8_readNewName_15 : decode cX8_readNewName 15 = .ok (.getstatic 102, 3) := by decide +kernel
theorem dX8_readNewName_18 : decode cX8_readNewName 18 = .ok (.if_acmp .ne 28, 3) := by decide +kernel
theorem dX8_readNewName_21 : decode cX8_readNewName 21 = .ok (.aload_n 0, 1) := by decide +kernel
theorem dX8_readNewName_22 : decode cX8_readNewName 22 = .ok (.lload_n 2, 1) := by decide +kernel
theorem dX8_readNewName_23 : decode cX8_readNewName 23 = .ok (.invokevirtual 105, 3) := by decide +kernel
theorem dX8_readNewName_26 : decode cX8_readNewName 26 = .ok (.ifCond .eq 11, 3) := by decide +kernel
theorem dX8_readNewName_29 : decode cX8_readNewName 29 = .ok (.aload_n 0, 1) := by decide +kernel
theorem dX8_readNewName_30 : decode cX8_readNewName 30 = .ok (.iconst 2, 1) := by decide +kernel
theorem dX8_readNewName_31 : decode cX8_readNewName 31 = .ok (.invokevirtual 91, 3) := by decide +kernel
theorem dX8_readNewName_34 : decode cX8_readNewName 34 = .ok (.goto 12, 3) := by decide +kernel
theorem dX8_readNewName_37 : decode cX8_readNewName 37 = .ok (.iload_n 1, 1) := by decide +kernel
theorem dX8_readNewName_38 : decode cX8_readNewName 38 = .ok (.ifCond .eq 8, 3) := by decide +kernel
theorem dX8_readNewName_41 : decode cX8_readNewName 41 = .ok (.aload_n 0, 1) := by decide +kernel
theorem dX8_readNewName_42 : decode cX8_readNewName 42 = .ok (.iconst 4, 1) := by decide +kernel
theorem dX8_readNewName_43 : decode cX8_readNewName 43 = .ok (.invokevirtual 91, 3) := by decide +kernel
theorem dX8_readNewName_46 : decode cX8_readNewName 46 = .ok (.aload_n 0, 1) := by decide +kernel
theorem dX8_readNewName_47 : decode cX8_readNewName 47 = .ok (.getfield 10, 3) := by decide +kernel
theorem dX8_readNewName_50 : decode cX8_readNewName 50 = .ok (.getstatic 102, 3) := by decide +kernel
theorem dX8_readNewName_53 : decode cX8_readNewName 53 = .ok (.invokevirtual 46, 3) := by decide +kernel
theorem dX8_readNewName_56 : decode cX8_readNewName 56 = .ok (.lload_n 2, 1) := by decide +kernel
theorem dX8_readNewName_57 : decode cX8_readNewName 57 = .ok (.lreturn, 1) := by decide +kernel
set_option maxRecDepth 20000 in
theorem ggX8_isTaken_X2_indexOf : GoodIn wsX8_isTaken wsX2_indexOf := goodIn_r _ [5] (by decide +kernel) (by decide +kernel)
set_option maxRecDepth 20000 in
theorem gX8_isTaken_X2_indexOf : GoodIn wsX8_isTaken (va_wsS RX8 113 yX2_indexOf wsX2_indexOf) := goodIn_app (goodIn_of _ (by decide +kernel)) ggX8_isTaken_X2_indexOf
theorem dX8_isTaken_0 : decode cX8_isTaken 0 = .ok (.lload_n 1, 1) := by decide +kernel
theorem dX8_isTaken_1 : decode cX8_isTaken 1 = .ok (.aload_n 0, 1) := by decide +kernel
theorem dX8_isTaken_2 : decode cX8_isTaken 2 = .ok (.getfield 19, 3) := by decide +kernel
theorem dX8_isTaken_5 : decode cX8_isTaken 5 = .ok (.getfield 109, 3) := by decide +kernel
theorem dX8_isTaken_8 : decode cX8_isTaken 8 = .ok (.aload_n 0, 1) := by decide +kernel
theorem dX8_isTaken_9 : decode cX8_isTaken 9 = .ok (.getfield 19, 3) := by decide +kernel
theorem dX8_isTaken_12 : decode cX8_isTaken 12 = .ok (.getfield 78, 3) := by decide +kernel
theorem dX8_isTaken_15 : decode cX8_isTaken 15 = .ok (.invokestatic 113, 3) := by decide +kernel
theorem dX8_isTaken_18 : decode cX8_isTaken 18 = .ok (.ifCond .ge 24, 3) := by decide +kernel
theorem dX8_isTaken_21 : decode cX8_isTaken 21 = .ok (.lload_n 1, 1) := by decide +kernel
theorem dX8_isTaken_22 : decode cX8_isTaken 22 = .ok (.aload_n 0, 1) := by decide +kernel
theorem dX8_isTaken_23 : decode cX8_isTaken 23 = .ok (.getfield 19, 3) := by decide +kernel
theorem dX8_isTaken_26 : decode cX8_isTaken 26 = .ok (.getfield 117, 3) := by decide +kernel
theorem dX8_isTaken_29 : decode cX8_isTaken 29 = .ok (.aload_n 0, 1) := by decide +kernel
theorem dX8_isTaken_30 : decode cX8_isTaken 30 = .ok (.getfield 19, 3) := by decide +kernel
theorem dX8_isTaken_33 : decode cX8_isTaken 33 = .ok (.getfield 50, 3) := by decide +kernel
theorem dX8_isTaken_36 : decode cX8_isTaken 36 = .ok (.invokestatic 113, 3) := by decide +kernel
theorem dX8_isTaken_39 : decode cX8_isTaken 39 = .ok (.ifCond .lt 7, 3) := by decide +kernel
theorem dX8_isTaken_42 : decode cX8_isTaken 42 = .ok (.iconst 1, 1) := by decide +kernel
theorem dX8_isTaken_43 : decode cX8_isTaken 43 = .ok (.goto 4, 3) := by decide +kernel
theorem dX8_isTaken_46 : decode cX8_isTaken 46 = .ok (.iconst 0, 1) := by decide +kernel
theorem dX8_isTaken_47 : decode cX8_isTaken 47 = .ok (.ireturn, 1) := by decide +kernel
set_option maxRecDepth 20000 in
theorem ggX8_readKnownName_X10_worth : GoodIn wsX8_readKnownName wsX10_worth := goodIn_r _ [8, 9, 10, 41, 42, 43, 44, 45, 46] (by decide +kernel) (by decide +kernel)
set_option maxRecDepth 20000 in
theorem gX8_readKnownName_X10_worth : GoodIn wsX8_readKnownName (wsV RX8 84 RX10 yX10_worth wsX10_worth) := goodIn_app (goodIn_of _ (by decide +kernel)) ggX8_readKnownName_X10_worth
set_option maxRecDepth 20000 in
theorem ggX8_readKnownName_X2_indexOf : GoodIn wsX8_readKnownName wsX2_indexOf := goodIn_r _ [14] (by decide +kernel) (by decide +kernel)
set_option maxRecDepth 20000 in
theorem gX8_readKnownName_X2_indexOf : GoodIn wsX8_readKnownName (va_wsS RX8 113 yX2_indexOf wsX2_indexOf) := goodIn_app (goodIn_of _ (by decide +kernel)) ggX8_readKnownName_X2_indexOf
set_option maxRecDepth 20000 in
theorem ggX8_readKnownName_X8_complain : GoodIn wsX8_readKnownName wsX8_complain := goodIn_r _ [19, 20, 1, 21, 30, 31, 32, 33, 41, 42, 43, 44, 45, 46] (by decide +kernel) (by decide +kernel)
set_option maxRecDepth 20000 in
theorem gX8_readKnownName_X8_complain : GoodIn wsX8_readKnownName (wsV RX8 91 RX8 yX8_complain wsX8_complain) := goodIn_app (goodIn_of _ (by decide +kernel)) ggX8_readKnownName_X8_complain
set_option maxRecDepth 20000 in
theorem ggX8_readKnownName_X10_step : GoodIn wsX8_readKnownName wsX10_step := goodIn_r _ [25, 9, 26, 27, 28, 29, 41, 42, 43, 44, 45, 46] (by decide +kernel) (by decide +kernel)
set_option maxRecDepth 20000 in
theorem gX8_readKnownName_X10_step : GoodIn wsX8_readKnownName (wsV RX8 120 RX10 yX10_step wsX10_step) := goodIn_app (goodIn_of _ (by decide +kernel)) ggX8_readKnownName_X10_step
theorem dX8_readKnownName_0 : decode cX8_readKnownName 0 = .ok (.iload_n 1, 1) := by decide +kernel
theorem dX8_readKnownName_1 : decode cX8_readKnownName 1 = .ok (.ifCond .eq 30, 3) := by decide +kernel
theorem dX8_readKnownName_4 : decode cX8_readKnownName 4 = .ok (.aload_n 0, 1) := by decide +kernel
theorem dX8_readKnownName_5 : decode cX8_readKnownName 5 = .ok (.getfield 10, 3) := by decide +kernel
theorem dX8_readKnownName_8 : decode cX8_readKnownName 8 = .ok (.invokevirtual 84, 3) := by decide +kernel
theorem dX8_readKnownName_11 : decode cX8_readKnownName 11 = .ok (.aload_n 0, 1) := by decide +kernel
theorem dX8_readKnownName_12 : decode cX8_readKnownName 12 = .ok (.getfield 19, 3) := by decide +kernel
theorem dX8_readKnownName_15 : decode cX8_readKnownName 15 = .ok (.getfield 117, 3) := by decide +kernel
theorem dX8_readKnownName_18 : decode cX8_readKnownName 18 = .ok (.aload_n 0, 1) := by decide +kernel
theorem dX8_readKnownName_19 : decode cX8_readKnownName 19 = .ok (.getfield 19, 3) := by decide +kernel
theorem dX8_readKnownName_22 : decode cX8_readKnownName 22 = .ok (.getfield 50, 3) := by decide +kernel
theorem dX8_readKnownName_25 : decode cX8_readKnownName 25 = .ok (.invokestatic 113, 3) := by decide +kernel
theorem dX8_readKnownName_28 : decode cX8_readKnownName 28 = .ok (.goto 27, 3) := by decide +kernel
theorem dX8_readKnownName_31 : decode cX8_readKnownName 31 = .ok (.aload_n 0, 1) := by decide +kernel
theorem dX8_readKnownName_32 : decode cX8_readKnownName 32 = .ok (.getfield 10, 3) := by decide +kernel
theorem dX8_readKnownName_35 : decode cX8_readKnownName 35 = .ok (.invokevirtual 84, 3) := by decide +kernel
theorem dX8_readKnownName_38 : decode cX8_readKnownName 38 = .ok (.aload_n 0, 1) := by decide +kernel
theorem dX8_readKnownName_39 : decode cX8_readKnownName 39 = .ok (.getfield 19, 3) := by decide +kernel
theorem dX8_readKnownName_42 : decode cX8_readKnownName 42 = .ok (.getfield 109, 3) := by decide +kernel
theorem dX8_readKnownName_45 : decode cX8_readKnownName 45 = .ok (.aload_n 0, 1) := by decide +kernel
theorem dX8_readKnownName_46 : decode cX8_readKnownName 46 = .ok (.getfield 19, 3) := by decide +kernel
theorem dX8_readKnownName_49 : decode cX8_readKnownName 49 = .ok (.getfield 78, 3) := by decide +kernel
theorem dX8_readKnownName_52 : decode cX8_readKnownName 52 = .ok (.invokestatic 113, 3) := by decide +kernel
theorem dX8_readKnownName_55 : decode cX8_readKnownName 55 = .ok (.istore_n 2, 1) := by decide +kernel
theorem dX8_readKnownName_56 : decode cX8_readKnownName 56 = .ok (.aload_n 0, 1) := by decide +kernel
theorem dX8_readKnownName_57 : decode cX8_readKnownName 57 = .ok (.getfield 10, 3) := by decide +kernel
theorem dX8_readKnownName_60 : decode cX8_readKnownName 60 = .ok (.getfield 31, 3) := by decide +kernel
theorem dX8_readKnownName_63 : decode cX8_readKnownName 63 = .ok (.getstatic 102, 3) := by decide +kernel
theorem dX8_readKnownName_66 : decode cX8_readKnownName 66 = .ok (.if_acmp .ne 12, 3) := by decide +kernel
theorem dX8_readKnownName_69 : decode cX8_readKnownName 69 = .ok (.iload_n 2, 1) := by decide +kernel
theorem dX8_readKnownName_70 : decode cX8_readKnownName 70 = .ok (.ifCond .ge 8, 3) := by decide +kernel
theorem dX8_readKnownName_73 : decode cX8_readKnownName 73 = .ok (.aload_n 0, 1) := by decide +kernel
theorem dX8_readKnownName_74 : decode cX8_readKnownName 74 = .ok (.iconst 3, 1) := by decide +kernel
theorem dX8_readKnownName_75 : decode cX8_readKnownName 75 = .ok (.invokevirtual 91, 3) := by decide +kernel
theorem dX8_readKnownName_78 : decode cX8_readKnownName 78 = .ok (.aload_n 0, 1) := by decide +kernel
theorem dX8_readKnownName_79 : decode cX8_readKnownName 79 = .ok (.getfield 10, 3) := by decide +kernel
theorem dX8_readKnownName_82 : decode cX8_readKnownName 82 = .ok (.aload_n 0, 1) := by decide +kernel
theorem dX8_readKnownName_83 : decode cX8_readKnownName 83 = .ok (.getfield 10, 3) := by decide +kernel
theorem dX8_readKnownName_86 : decode cX8_readKnownName 86 = .ok (.getfield 31, 3) := by decide +kernel
theorem dX8_readKnownName_89 : decode cX8_readKnownName 89 = .ok (.getstatic 102, 3) := by decide +kernel
theorem dX8_readKnownName_92 : decode cX8_readKnownName 92 = .ok (.if_acmp .ne 7, 3) := by decide +kernel
theorem dX8_readKnownName_95 : decode cX8_readKnownName 95 = .ok (.iconst 1, 1) := by decide +kernel
theorem dX8_readKnownName_96 : decode cX8_readKnownName 96 = .ok (.goto 4, 3) := by decide +kernel
theorem dX8_readKnownName_99 : decode cX8_readKnownName 99 = .ok (.iconst 0, 1) := by decide +kernel
theorem dX8_readKnownName_100 : decode cX8_readKnownName 100 = .ok (.invokevirtual 120, 3) := by decide +kernel
theorem dX8_readKnownName_103 : decode cX8_readKnownName 103 = .ok (.iload_n 2, 1) := by decide +kernel
theorem dX8_readKnownName_104 : decode cX8_readKnownName 104 = .ok (.ireturn, 1) := by decide +kernel
set_option maxRecDepth 20000 in
theorem ggX8_readBlock_X10_step : GoodIn wsX8_readBlock wsX10_step := goodIn_r _ [8, 9, 10, 11, 12, 13, 158, 159, 160, 161, 162, 163] (by decide +kernel) (by decide +kernel)
set_option maxRecDepth 20000 in
theorem gX8_readBlock_X10_step : GoodIn wsX8_readBlock (wsV RX8 120 RX10 yX10_step wsX10_step) := goodIn_app (goodIn_of _ (by decide +kernel)) ggX8_readBlock_X10_step
set_option maxRecDepth 20000 in
theorem ggX8_readBlock_X5_beginsAct : GoodIn wsX8_readBlock wsX5_beginsAct := goodIn_r _ [18, 19, 20, 21, 22, 23, 24, 25, 26, 27] (by decide +kernel) (by decide +kernel)
set_option maxRecDepth 20000 in
theorem gX8_readBlock_X5_beginsAct : GoodIn wsX8_readBlock (wsV RX8 127 RX5 yX5_beginsAct wsX5_beginsAct) := goodIn_app (goodIn_of _ (by decide +kernel)) ggX8_readBlock_X5_beginsAct
set_option maxRecDepth 20000 in
theorem ggX8_readBlock_X8_readAct : GoodIn wsX8_readBlock wsX8_readAct := goodIn_r _ [37, 38, 39, 40, 1, 41, 42, 43, 44, 45, 46, 47, 48, 49, 50, 51, 52, 53, 54, 55, 56, 57, 58, 59, 60, 61, 31, 62, 63, 64, 65, 66, 67, 68, 69, 4, 5, 6, 7, 8, 9, 10, 11, 12, 13, 70, 71, 72, 73, 74, 75, 76, 77, 78, 79, 80, 81, 82, 83, 84, 85, 2, 3, 86, 87, 88, 89, 90, 91, 92, 93, 94, 95, 32, 33, 34, 35, 36, 96, 97, 98, 17, 99, 100, 101, 20, 102, 103, 104, 105, 106, 107, 108, 109, 110, 111, 112, 113, 114, 115, 116, 117, 118, 119, 120, 121, 122, 123, 124, 125, 126, 127, 128, 129, 130, 131, 132, 133, 134, 135, 136, 137, 138, 139, 140, 141, 142, 143, 144, 0, 14, 15, 16, 18, 19, 21, 22, 23, 24, 25, 26, 27, 28, 29, 30, 145, 146, 147, 148, 149, 150, 151, 152, 153, 154, 155, 156, 157, 158, 159, 160, 161, 162, 163, 164, 165, 166, 167, 168, 169, 170, 171, 172, 173, 174, 175] (by decide +kernel) (by decide +kernel)
set_option maxRecDepth 20000 in
theorem gX8_readBlock_X8_readAct : GoodIn wsX8_readBlock (wsV RX8 131 RX8 yX8_readAct wsX8_readAct) := goodIn_app (goodIn_of _ (by decide +kernel)) ggX8_readBlock_X8_readAct
set_option maxRecDepth 20000 in
theorem ggX8_readBlock_X10_take : GoodIn wsX8_readBlock wsX10_take := goodIn_r _ [35, 13, 36, 5, 6, 7, 8, 9, 10, 11, 12, 158, 159, 160, 161, 162, 163] (by decide +kernel) (by decide +kernel)
set_option maxRecDepth 20000 in
theorem gX8_readBlock_X10_take : GoodIn wsX8_readBlock (wsV RX8 46 RX10 yX10_take wsX10_take) := goodIn_app (goodIn_of _ (by decide +kernel)) ggX8_readBlock_X10_take
theorem dX8_readBlock_0 : decode cX8_readBlock 0 = .ok (.aload_n 0, 1) := by decide +kernel
theorem dX8_readBlock_1 : decode cX8_readBlock 1 = .ok (.getfield 10, 3) := by decide +kernel
theorem dX8_readBlock_4 : decode cX8_readBlock 4 = .ok (.aload_n 0, 1) := by decide +kernel
theorem dX8_readBlock_5 : decode cX8_readBlock 5 = .ok (.getfield 10, 3) := by decide +kernel
theorem dX8_readBlock_8 : decode cX8_readBlock 8 = .ok (.getfield 31, 3) := by decide +kernel
theorem dX8_readBlock_11 : decode cX8_readBlock 11 = .ok (.getstatic 124, 3) := by decide +kernel
theorem dX8_readBlock_14 : decode cX8_readBlock 14 = .ok (.if_acmp .ne 12, 3) := by decide +kernel
theorem dX8_readBlock_17 : decode cX8_readBlock 17 = .ok (.iload_n 1, 1) := by decide +kernel
theorem dX8_readBlock_18 : decode cX8_readBlock 18 = .ok (.iconst 5, 1) := by decide +kernel
theorem dX8_readBlock_19 : decode cX8_readBlock 19 = .ok (.if_icmp .gt 7, 3) := by decide +kernel
theorem dX8_readBlock_22 : decode cX8_readBlock 22 = .ok (.iconst 1, 1) := by decide +kernel
theorem dX8_readBlock_23 : decode cX8_readBlock 23 = .ok (.goto 4, 3) := by decide +kernel
theorem dX8_readBlock_26 : decode cX8_readBlock 26 = .ok (.iconst 0, 1) := by decide +kernel
theorem dX8_readBlock_27 : decode cX8_readBlock 27 = .ok (.invokevirtual 120, 3) := by decide +kernel
theorem dX8_readBlock_30 : decode cX8_readBlock 30 = .ok (.aconst_null, 1) := by decide +kernel
theorem dX8_readBlock_31 : decode cX8_readBlock 31 = .ok (.astore_n 2, 1) := by decide +kernel
theorem dX8_readBlock_32 : decode cX8_readBlock 32 = .ok (.aconst_null, 1) := by decide +kernel
theorem dX8_readBlock_33 : decode cX8_readBlock 33 = .ok (.astore_n 3, 1) := by decide +kernel
theorem dX8_readBlock_34 : decode cX8_readBlock 34 = .ok (.iconst 0, 1) := by decide +kernel
theorem dX8_readBlock_35 : decode cX8_readBlock 35 = .ok (.istore 4, 2) := by decide +kernel
theorem dX8_readBlock_37 : decode cX8_readBlock 37 = .ok (.iload 4, 2) := by decide +kernel
theorem dX8_readBlock_39 : decode cX8_readBlock 39 = .ok (.sipush 400, 3) := by decide +kernel
theorem dX8_readBlock_42 : decode cX8_readBlock 42 = .ok (.if_icmp .ge 48, 3) := by decide +kernel
theorem dX8_readBlock_45 : decode cX8_readBlock 45 = .ok (.aload_n 0, 1) := by decide +kernel
theorem dX8_readBlock_46 : decode cX8_readBlock 46 = .ok (.getfield 10, 3) := by decide +kernel
theorem dX8_readBlock_49 : decode cX8_readBlock 49 = .ok (.getfield 31, 3) := by decide +kernel
theorem dX8_readBlock_52 : decode cX8_readBlock 52 = .ok (.invokevirtual 127, 3) := by decide +kernel
theorem dX8_readBlock_55 : decode cX8_readBlock 55 = .ok (.ifCond .eq 35, 3) := by decide +kernel
theorem dX8_readBlock_58 : decode cX8_readBlock 58 = .ok (.aload_n 0, 1) := by decide +kernel
theorem dX8_readBlock_59 : decode cX8_readBlock 59 = .ok (.iload_n 1, 1) := by decide +kernel
theorem dX8_readBlock_60 : decode cX8_readBlock 60 = .ok (.invokevirtual 131, 3) := by decide +kernel
theorem dX8_readBlock_63 : decode cX8_readBlock 63 = .ok (.astore 5, 2) := by decide +kernel
theorem dX8_readBlock_65 : decode cX8_readBlock 65 = .ok (.aload_n 3, 1) := by decide +kernel
theorem dX8_readBlock_66 : decode cX8_readBlock 66 = .ok (.ifnonnull 9, 3) := by decide +kernel
theorem dX8_readBlock_69 : decode cX8_readBlock 69 = .ok (.aload 5, 2) := by decide +kernel
theorem dX8_readBlock_71 : decode cX8_readBlock 71 = .ok (.astore_n 2, 1) := by decide +kernel
theorem dX8_readBlock_72 : decode cX8_readBlock 72 = .ok (.goto 9, 3) := by decide +kernel
theorem dX8_readBlock_75 : decode cX8_readBlock 75 = .ok (.aload_n 3, 1) := by decide +kernel
theorem dX8_readBlock_76 : decode cX8_readBlock 76 = .ok (.aload 5, 2) := by decide +kernel
theorem dX8_readBlock_78 : decode cX8_readBlock 78 = .ok (.putfield 134, 3) := by decide +kernel
theorem dX8_readBlock_81 : decode cX8_readBlock 81 = .ok (.aload 5, 2) := by decide +kernel
theorem dX8_readBlock_83 : decode cX8_readBlock 83 = .ok (.astore_n 3, 1) := by decide +kernel
theorem dX8_readBlock_84 : decode cX8_readBlock 84 = .ok (.iinc 4 1, 3) := by decide +kernel
theorem dX8_readBlock_87 : decode cX8_readBlock 87 = .ok (.goto (-50), 3) := by decide +kernel
theorem dX8_readBlock_90 : decode cX8_readBlock 90 = .ok (.aload_n 0, 1) := by decide +kernel
theorem dX8_readBlock_91 : decode cX8_readBlock 91 = .ok (.getfield 10, 3) := by decide +kernel
theorem dX8_readBlock_94 : decode cX8_readBlock 94 = .ok (.getstatic 140, 3) := by decide +kernel
theorem dX8_readBlock_97 : decode cX8_readBlock 97 = .ok (.invokevirtual 46, 3) := by decide +kernel
theorem dX8_readBlock_100 : decode cX8_readBlock 100 = .ok (.aload_n 2, 1) := by decide +kernel
theorem dX8_readBlock_101 : decode cX8_readBlock 101 = .ok (.areturn, 1) := by decide +kernel
set_option maxRecDepth 20000 in
theorem ggX8_countAct_X8_complain : GoodIn wsX8_countAct wsX8_complain := goodIn_r _ [6, 7, 8, 9, 10, 11, 12, 13, 21, 22, 23, 24, 25, 26] (by decide +kernel) (by decide +kernel)
set_option maxRecDepth 20000 in
theorem gX8_countAct_X8_complain : GoodIn wsX8_countAct (wsV RX8 91 RX8 yX8_complain wsX8_complain) := goodIn_app (goodIn_of _ (by decide +kernel)) ggX8_countAct_X8_complain
theorem dX8_countAct_0 : decode cX8_countAct 0 = .ok (.aload_n 0, 1) := by decide +kernel
theorem dX8_countAct_1 : decode cX8_countAct 1 = .ok (.getfield 19, 3) := by decide +kernel
theorem dX8_countAct_4 : decode cX8_countAct 4 = .ok (.dup, 1) := by decide +kernel
theorem dX8_countAct_5 : decode cX8_countAct 5 = .ok (.getfield 143, 3) := by decide +kernel
theorem dX8_countAct_8 : decode cX8_countAct 8 = .ok (.iconst 1, 1) := by decide +kernel
theorem dX8_countAct_9 : decode cX8_countAct 9 = .ok (.iadd, 1) := by decide +kernel
theorem dX8_countAct_10 : decode cX8_countAct 10 = .ok (.putfield 143, 3) := by decide +kernel
theorem dX8_countAct_13 : decode cX8_countAct 13 = .ok (.aload_n 0, 1) := by decide +kernel
theorem dX8_countAct_14 : decode cX8_countAct 14 = .ok (.getfield 19, 3) := by decide +kernel
theorem dX8_countAct_17 : decode cX8_countAct 17 = .ok (.getfield 143, 3) := by decide +kernel
theorem dX8_countAct_20 : decode cX8_countAct 20 = .ok (.bipush 80, 2) := by decide +kernel
theorem dX8_countAct_22 : decode cX8_countAct 22 = .ok (.if_icmp .le 8, 3) := by decide +kernel
theorem dX8_countAct_25 : decode cX8_countAct 25 = .ok (.aload_n 0, 1) := by decide +kernel
theorem dX8_countAct_26 : decode cX8_countAct 26 = .ok (.iconst 4, 1) := by decide +kernel
theorem dX8_countAct_27 : decode cX8_countAct 27 = .ok (.invokevirtual 91, 3) := by decide +kernel
theorem dX8_countAct_30 : decode cX8_countAct 30 = .ok (.return_, 1) := by decide +kernel
set_option maxRecDepth 20000 in
theorem ggX8_readAct_X1_init : GoodIn wsX8_readAct wsX1_init := goodIn_r _ [16, 17, 18, 19, 20, 21, 22, 145, 146, 147, 148, 149, 150, 151, 152, 153] (by decide +kernel) (by decide +kernel)
set_option maxRecDepth 20000 in
theorem gX8_readAct_X1_init : GoodIn wsX8_readAct (wsX1_init) := ggX8_readAct_X1_init
set_option maxRecDepth 20000 in
theorem ggX8_readAct_X8_countAct : GoodIn wsX8_readAct wsX8_countAct := goodIn_r _ [27, 28, 29, 30, 31, 26, 32, 33, 4, 34, 154, 155, 156, 157, 164, 165, 166, 167, 168, 169, 170, 158, 159, 160, 161, 162, 163] (by decide +kernel) (by decide +kernel)
set_option maxRecDepth 20000 in
theorem gX8_readAct_X8_countAct : GoodIn wsX8_readAct (wsV RX8 148 RX8 yX8_countAct wsX8_countAct) := goodIn_app (goodIn_of _ (by decide +kernel)) ggX8_readAct_X8_countAct
set_option maxRecDepth 20000 in
theorem ggX8_readAct_X10_step : GoodIn wsX8_readAct wsX10_step := goodIn_r _ [39, 40, 41, 42, 43, 44, 158, 159, 160, 161, 162, 163] (by decide +kernel) (by decide +kernel)
set_option maxRecDepth 20000 in
theorem gX8_readAct_X10_step : GoodIn wsX8_readAct (wsV RX8 120 RX10 yX10_step wsX10_step) := goodIn_app (goodIn_of _ (by decide +kernel)) ggX8_readAct_X10_step
set_option maxRecDepth 20000 in
theorem ggX8_readAct_Jx29ce0_ordinal_8abf5 : GoodIn wsX8_readAct wsJx29ce0_ordinal_8abf5 := goodIn_r _ [50, 51] (by decide +kernel) (by decide +kernel)
set_option maxRecDepth 20000 in
theorem gX8_readAct_Jx29ce0_ordinal_8abf5_u158X5 : GoodIn wsX8_readAct (va_wsU RX8 158 RX5 "java/lang/Enum" ⟨"HighRecipes$Kind", "ordinal", "()I"⟩ yJx29ce0_ordinal_8abf5 wsJx29ce0_ordinal_8abf5) := goodIn_app (goodIn_of _ (by decide +kernel)) ggX8_readAct_Jx29ce0_ordinal_8abf5
set_option maxRecDepth 20000 in
theorem ggX8_readAct_X8_readValue : GoodIn wsX8_readAct wsX8_readValue := goodIn_r _ [55, 56, 57, 58, 4, 59, 60, 61, 62, 63, 64, 65, 66, 18, 19, 67, 68, 69, 70, 38, 71, 40, 72, 73, 74, 75, 76, 44, 77, 36, 37, 39, 41, 42, 43, 78, 79, 80, 81, 82, 83, 84, 85, 86, 87, 35, 88, 89, 90, 26, 91, 28, 92, 93, 94, 95, 96, 29, 30, 31, 32, 33, 34, 52, 53, 54, 97, 98, 99, 100, 101, 102, 103, 104, 105, 106, 107, 108, 109, 110, 111, 112, 113, 171, 172, 173, 174, 175, 154, 155, 156, 157, 158, 159, 160, 161, 162, 163, 164, 165, 166, 167, 168, 169, 170] (by decide +kernel) (by decide +kernel)
set_option maxRecDepth 20000 in
theorem gX8_readAct_X8_readValue : GoodIn wsX8_readAct (wsV RX8 162 RX8 yX8_readValue wsX8_readValue) := goodIn_app (goodIn_of _ (by decide +kernel)) ggX8_readAct_X8_readValue
set_option maxRecDepth 20000 in
theorem ggX8_readAct_X8_readBlock : GoodIn wsX8_readAct wsX8_readBlock := goodIn_r _ [129, 4, 61, 62, 35, 36, 37, 38, 39, 40, 41, 42, 43, 44, 130, 131, 132, 81, 133, 134, 85, 135, 136, 137, 138, 139, 140, 141, 142, 143, 144, 26, 73, 74, 75, 76, 77, 0, 1, 2, 3, 5, 6, 7, 8, 9, 10, 11, 12, 13, 14, 15, 16, 17, 18, 19, 20, 21, 22, 23, 24, 25, 27, 28, 29, 30, 31, 32, 33, 34, 45, 46, 47, 48, 49, 50, 51, 52, 53, 54, 55, 56, 57, 58, 59, 60, 63, 64, 65, 66, 67, 68, 69, 70, 71, 72, 78, 79, 80, 82, 83, 84, 86, 87, 88, 89, 90, 91, 92, 93, 94, 95, 96, 97, 98, 99, 100, 101, 102, 103, 104, 105, 106, 107, 108, 109, 110, 111, 112, 113, 114, 115, 116, 117, 118, 119, 120, 121, 122, 123, 124, 125, 126, 127, 128, 145, 146, 147, 148, 149, 150, 151, 152, 153, 154, 155, 156, 157, 158, 159, 160, 161, 162, 163, 164, 165, 166, 167, 168, 169, 170, 171, 172, 173, 174, 175] (by decide +kernel) (by decide +kernel)
set_option maxRecDepth 20000 in
theorem gX8_readAct_X8_readBlock : GoodIn wsX8_readAct (wsV RX8 57 RX8 yX8_readBlock wsX8_readBlock) := goodIn_app (goodIn_of _ (by decide +kernel)) ggX8_readAct_X8_readBlock
set_option maxRecDepth 20000 in
theorem ggX8_readAct_X8_readCompares : GoodIn wsX8_readAct wsX8_readCompares := goodIn_r _ [120, 56, 57, 58, 4, 121, 52, 53, 54, 26, 55, 59, 60, 61, 62, 63, 64, 65, 66, 18, 19, 67, 68, 69, 70, 38, 71, 40, 72, 73, 74, 75, 76, 44, 77, 36, 37, 39, 41, 42, 43, 78, 79, 80, 81, 82, 83, 84, 85, 86, 87, 35, 88, 89, 90, 91, 28, 92, 93, 94, 95, 96, 29, 30, 31, 32, 33, 34, 97, 98, 99, 100, 101, 102, 103, 104, 105, 106, 107, 108, 109, 110, 111, 112, 113, 122, 123, 124, 125, 126, 127, 128, 171, 172, 173, 174, 175, 154, 155, 156, 157, 158, 159, 160, 161, 162, 163, 164, 165, 166, 167, 168, 169, 170] (by decide +kernel) (by decide +kernel)
set_option maxRecDepth 20000 in
theorem gX8_readAct_X8_readCompares : GoodIn wsX8_readAct (wsV RX8 173 RX8 yX8_readCompares wsX8_readCompares) := goodIn_app (goodIn_of _ (by decide +kernel)) ggX8_readAct_X8_readCompares
set_option maxRecDepth 20000 in
theorem ggX8_readAct_X10_take : GoodIn wsX8_readAct wsX10_take := goodIn_r _ [76, 44, 77, 36, 37, 38, 39, 40, 41, 42, 43, 158, 159, 160, 161, 162, 163] (by decide +kernel) (by decide +kernel)
set_option maxRecDepth 20000 in
theorem gX8_readAct_X10_take : GoodIn wsX8_readAct (wsV RX8 46 RX10 yX10_take wsX10_take) := goodIn_app (goodIn_of _ (by decide +kernel)) ggX8_readAct_X10_take
set_option maxRecDepth 20000 in
theorem ggX8_readAct_X8_readKnownName : GoodIn wsX8_readAct wsX8_readKnownName := goodIn_r _ [91, 4, 28, 92, 68, 69, 70, 38, 71, 40, 72, 93, 94, 95, 96, 29, 30, 31, 26, 32, 33, 34, 35, 36, 37, 39, 41, 42, 43, 44, 154, 155, 156, 157, 164, 165, 166, 167, 168, 169, 170, 158, 159, 160, 161, 162, 163] (by decide +kernel) (by decide +kernel)
set_option maxRecDepth 20000 in
theorem gX8_readAct_X8_readKnownName : GoodIn wsX8_readAct (wsV RX8 199 RX8 yX8_readKnownName wsX8_readKnownName) := goodIn_app (goodIn_of _ (by decide +kernel)) ggX8_readAct_X8_readKnownName
theorem dX8_readAct_0 : decode cX8_readAct 0 = .ok (.new 135, 3) := by decide +kernel
theorem dX8_readAct_3 : decode cX8_readAct 3 = .ok (.dup, 1) := by decide +kernel
theorem dX8_readAct_4 : decode cX8_readAct 4 = .ok (.aload_n 0, 1) := by decide +kernel
theorem dX8_readAct_5 : decode cX8_readAct 5 = .ok (.getfield 10, 3) := by decide +kernel
theorem dX8_readAct_8 : decode cX8_readAct 8 = .ok (.getfield 31, 3) := by decide +kernel
theorem dX8_readAct_11 : decode cX8_readAct 11 = .ok (.invokespecial 146, 3) := by decide +kernel
theorem dX8_readAct_14 : decode cX8_readAct 14 = .ok (.astore_n 2, 1) := by decide +kernel
theorem dX8_readAct_15 : decode cX8_readAct 15 = .ok (.aload_n 0, 1) := by decide +kernel
theorem dX8_readAct_16 : decode cX8_readAct 16 = .ok (.invokevirtual 148, 3) := by decide +kernel
theorem dX8_readAct_19 : decode cX8_readAct 19 = .ok (.aload_n 0, 1) := by decide +kernel
theorem dX8_readAct_20 : decode cX8_readAct 20 = .ok (.getfield 10, 3) := by decide +kernel
theorem dX8_readAct_23 : decode cX8_readAct 23 = .ok (.iconst 1, 1) := by decide +kernel
theorem dX8_readAct_24 : decode cX8_readAct 24 = .ok (.invokevirtual 120, 3) := by decide +kernel
theorem dX8_readAct_27 : decode cX8_readAct 27 = .ok (.getstatic 151, 3) := by decide +kernel
theorem dX8_readAct_30 : decode cX8_readAct 30 = .ok (.aload_n 2, 1) := by decide +kernel
theorem dX8_readAct_31 : decode cX8_readAct 31 = .ok (.getfield 157, 3) := by decide +kernel
theorem dX8_readAct_34 : decode cX8_readAct 34 = .ok (.invokevirtual 158, 3) := by decide +kernel
theorem dX8_readAct_37 : decode cX8_readAct 37 = .ok (.iaload, 1) := by decide +kernel
theorem dX8_readAct_38 : decode cX8_readAct 38 = .ok (.tableswitch 266 1 7 #[42, 64, 119, 195, 195, 242, 254], 42) := by decide +kernel
theorem dX8_readAct_80 : decode cX8_readAct 80 = .ok (.aload_n 2, 1) := by decide +kernel
theorem dX8_readAct_81 : decode cX8_readAct 81 = .ok (.aload_n 0, 1) := by decide +kernel
theorem dX8_readAct_82 : decode cX8_readAct 82 = .ok (.iconst 0, 1) := by decide +kernel
theorem dX8_readAct_83 : decode cX8_readAct 83 = .ok (.invokevirtual 162, 3) := by decide +kernel
theorem dX8_readAct_86 : decode cX8_readAct 86 = .ok (.putfield 166, 3) := by decide +kernel
theorem dX8_readAct_89 : decode cX8_readAct 89 = .ok (.aload_n 2, 1) := by decide +kernel
theorem dX8_readAct_90 : decode cX8_readAct 90 = .ok (.aload_n 0, 1) := by decide +kernel
theorem dX8_readAct_91 : decode cX8_readAct 91 = .ok (.iload_n 1, 1) := by decide +kernel
theorem dX8_readAct_92 : decode cX8_readAct 92 = .ok (.iconst 1, 1) := by decide +kernel
theorem dX8_readAct_93 : decode cX8_readAct 93 = .ok (.iadd, 1) := by decide +kernel
theorem dX8_readAct_94 : decode cX8_readAct 94 = .ok (.invokevirtual 57, 3) := by decide +kernel
theorem dX8_readAct_97 : decode cX8_readAct 97 = .ok (.putfield 170, 3) := by decide +kernel
theorem dX8_readAct_100 : decode cX8_readAct 100 = .ok (.aload_n 2, 1) := by decide +kernel
theorem dX8_readAct_101 : decode cX8_readAct 101 = .ok (.areturn, 1) := by decide +kernel
theorem dX8_readAct_102 : decode cX8_readAct 102 = .ok (.aload_n 2, 1) := by decide +kernel
theorem dX8_readAct_103 : decode cX8_readAct 103 = .ok (.aload_n 0, 1) := by decide +kernel
theorem dX8_readAct_104 : decode cX8_readAct 104 = .ok (.invokevirtual 173, 3) := by decide +kernel
theorem dX8_readAct_107 : decode cX8_readAct 107 = .ok (.putfield 177, 3) := by decide +kernel
theorem dX8_readAct_110 : decode cX8_readAct 110 = .ok (.aload_n 2, 1) := by decide +kernel
theorem dX8_readAct_111 : decode cX8_readAct 111 = .ok (.aload_n 0, 1) := by decide +kernel
theorem dX8_readAct_112 : decode cX8_readAct 112 = .ok (.iload_n 1, 1) := by decide +kernel
theorem dX8_readAct_113 : decode cX8_readAct 113 = .ok (.iconst 1, 1) := by decide +kernel
theorem dX8_readAct_114 : decode cX8_readAct 114 = .ok (.iadd, 1) := by decide +kernel
theorem dX8_readAct_115 : decode cX8_readAct 115 = .ok (.invokevirtual 57, 3) := by decide +kernel
theorem dX8_readAct_118 : decode cX8_readAct 118 = .ok (.putfield 170, 3) := by decide +kernel
theorem dX8_readAct_121 : decode cX8_readAct 121 = .ok (.aload_n 0, 1) := by decide +kernel
theorem dX8_readAct_122 : decode cX8_readAct 122 = .ok (.getfield 10, 3) := by decide +kernel
theorem dX8_readAct_125 : decode cX8_readAct 125 = .ok (.getfield 31, 3) := by decide +kernel
theorem dX8_readAct_128 : decode cX8_readAct 128 = .ok (.getstatic 180, 3) := by decide +kernel
theorem dX8_readAct_131 : decode cX8_readAct 131 = .ok (.if_acmp .ne 24, 3) := by decide +kernel
theorem dX8_readAct_134 : decode cX8_readAct 134 = .ok (.aload_n 0, 1) := by decide +kernel
theorem dX8_readAct_135 : decode cX8_readAct 135 = .ok (.getfield 10, 3) := by decide +kernel
theorem dX8_readAct_138 : decode cX8_readAct 138 = .ok (.getstatic 180, 3) := by decide +kernel
theorem dX8_readAct_141 : decode cX8_readAct 141 = .ok (.invokevirtual 46, 3) := by decide +kernel
theorem dX8_readAct_144 : decode cX8_readAct 144 = .ok (.aload_n 2, 1) := by decide +kernel
theorem dX8_readAct_145 : decode cX8_readAct 145 = .ok (.aload_n 0, 1) := by decide +kernel
theorem dX8_readAct_146 : decode cX8_readAct 146 = .ok (.iload_n 1, 1) := by decide +kernel
theorem dX8_readAct_147 : decode cX8_readAct 147 = .ok (.iconst 1, 1) := by decide +kernel
theorem dX8_readAct_148 : decode cX8_readAct 148 = .ok (.iadd, 1) := by decide +kernel
theorem dX8_readAct_149 : decode cX8_readAct 149 = .ok (.invokevirtual 57, 3) := by decide +kernel
theorem dX8_readAct_152 : decode cX8_readAct 152 = .ok (.putfield 183, 3) := by decide +kernel
theorem dX8_readAct_155 : decode cX8_readAct 155 = .ok (.aload_n 2, 1) := by decide +kernel
theorem dX8_readAct_156 : decode cX8_readAct 156 = .ok (.areturn, 1) := by decide +kernel
theorem dX8_readAct_157 : decode cX8_readAct 157 = .ok (.aload_n 2, 1) := by decide +kernel
theorem dX8_readAct_158 : decode cX8_readAct 158 = .ok (.aload_n 0, 1) := by decide +kernel
theorem dX8_readAct_159 : decode cX8_readAct 159 = .ok (.iconst 0, 1) := by decide +kernel
theorem dX8_readAct_160 : decode cX8_readAct 160 = .ok (.invokevirtual 162, 3) := by decide +kernel
theorem dX8_readAct_163 : decode cX8_readAct 163 = .ok (.putfield 166, 3) := by decide +kernel
theorem dX8_readAct_166 : decode cX8_readAct 166 = .ok (.aload_n 2, 1) := by decide +kernel
theorem dX8_readAct_167 : decode cX8_readAct 167 = .ok (.aload_n 0, 1) := by decide +kernel
theorem dX8_readAct_168 : decode cX8_readAct 168 = .ok (.getfield 10, 3) := by decide +kernel
theorem dX8_readAct_171 : decode cX8_readAct 171 = .ok (.getfield 31, 3) := by decide +kernel
theorem dX8_readAct_174 : decode cX8_readAct 174 = .ok (.getstatic 186, 3) := by decide +kernel
theorem dX8_readAct_177 : decode cX8_readAct 177 = .ok (.if_acmp .ne 7, 3) := by decide +kernel
theorem dX8_readAct_180 : decode cX8_readAct 180 = .ok (.iconst 1, 1) := by decide +kernel
theorem dX8_readAct_181 : decode cX8_readAct 181 = .ok (.goto 4, 3) := by decide +kernel
theorem dX8_readAct_184 : decode cX8_readAct 184 = .ok (.iconst 0, 1) := by decide +kernel
theorem dX8_readAct_185 : decode cX8_readAct 185 = .ok (.putfield 189, 3) := by decide +kernel
theorem dX8_readAct_188 : decode cX8_readAct 188 = .ok (.aload_n 0, 1) := by decide +kernel
theorem dX8_readAct_189 : decode cX8_readAct 189 = .ok (.getfield 10, 3) := by decide +kernel
theorem dX8_readAct_192 : decode cX8_readAct 192 = .ok (.aload_n 2, 1) := by decide +kernel
theorem dX8_readAct_193 : decode cX8_readAct 193 = .ok (.getfield 189, 3) := by decide +kernel
theorem dX8_readAct_196 : decode cX8_readAct 196 = .ok (.ifCond .eq 9, 3) := by decide +kernel
theorem dX8_readAct_199 : decode cX8_readAct 199 = .ok (.getstatic 186, 3) := by decide +kernel
theorem dX8_readAct_202 : decode cX8_readAct 202 = .ok (.goto 6, 3) := by decide +kernel
theorem dX8_readAct_205 : decode cX8_readAct 205 = .ok (.getstatic 193, 3) := by decide +kernel
theorem dX8_readAct_208 : decode cX8_readAct 208 = .ok (.invokevirtual 46, 3) := by decide +kernel
theorem dX8_readAct_211 : decode cX8_readAct 211 = .ok (.aload_n 0, 1) := by decide +kernel
theorem dX8_readAct_212 : decode cX8_readAct 212 = .ok (.getfield 10, 3) := by decide +kernel
theorem dX8_readAct_215 : decode cX8_readAct 215 = .ok (.getstatic 196, 3) := by decide +kernel
theorem dX8_readAct_218 : decode cX8_readAct 218 = .ok (.invokevirtual 46, 3) := by decide +kernel
theorem dX8_readAct_221 : decode cX8_readAct 221 = .ok (.aload_n 2, 1) := by decide +kernel
theorem dX8_readAct_222 : decode cX8_readAct 222 = .ok (.aload_n 0, 1) := by decide +kernel
theorem dX8_readAct_223 : decode cX8_readAct 223 = .ok (.iconst 0, 1) := by decide +kernel
theorem dX8_readAct_224 : decode cX8_readAct 224 = .ok (.invokevirtual 199, 3) := by decide +kernel
theorem dX8_readAct_227 : decode cX8_readAct 227 = .ok (.putfield 203, 3) := by decide +kernel
theorem dX8_readAct_230 : decode cX8_readAct 230 = .ok (.goto 83, 3) := by decide +kernel
theorem dX8_readAct_233 : decode cX8_readAct 233 = .ok (.aload_n 2, 1) := by decide +kernel
theorem dX8_readAct_234 : decode cX8_readAct 234 = .ok (.aload_n 0, 1) := by decide +kernel
theorem dX8_readAct_235 : decode cX8_readAct 235 = .ok (.iconst 0, 1) := by decide +kernel
theorem dX8_readAct_236 : decode cX8_readAct 236 = .ok (.invokevirtual 199, 3) := by decide +kernel
theorem dX8_readAct_239 : decode cX8_readAct 239 = .ok (.putfield 203, 3) := by decide +kernel
theorem dX8_readAct_242 : decode cX8_readAct 242 = .ok (.aload_n 0, 1) := by decide +kernel
theorem dX8_readAct_243 : decode cX8_readAct 243 = .ok (.getfield 10, 3) := by decide +kernel
theorem dX8_readAct_246 : decode cX8_readAct 246 = .ok (.aload_n 2, 1) := by decide +kernel
theorem dX8_readAct_247 : decode cX8_readAct 247 = .ok (.getfield 157, 3) := by decide +kernel
theorem dX8_readAct_250 : decode cX8_readAct 250 = .ok (.getstatic 206, 3) := by decide +kernel
theorem dX8_readAct_253 : decode cX8_readAct 253 = .ok (.if_acmp .ne 9, 3) := by decide +kernel
theorem dX8_readAct_256 : decode cX8_readAct 256 = .ok (.getstatic 209, 3) := by decide +kernel
theorem dX8_readAct_259 : decode cX8_readAct 259 = .ok (.goto 6, 3) := by decide +kernel
theorem dX8_readAct_262 : decode cX8_readAct 262 = .ok (.getstatic 212, 3) := by decide +kernel
theorem dX8_readAct_265 : decode cX8_readAct 265 = .ok (.invokevirtual 46, 3) := by decide +kernel
theorem dX8_readAct_268 : decode cX8_readAct 268 = .ok (.aload_n 2, 1) := by decide +kernel
theorem dX8_readAct_269 : decode cX8_readAct 269 = .ok (.aload_n 0, 1) := by decide +kernel
theorem dX8_readAct_270 : decode cX8_readAct 270 = .ok (.iconst 0, 1) := by decide +kernel
theorem dX8_readAct_271 : decode cX8_readAct 271 = .ok (.invokevirtual 162, 3) := by decide +kernel
theorem dX8_readAct_274 : decode cX8_readAct 274 = .ok (.putfield 166, 3) := by decide +kernel
theorem dX8_readAct_277 : decode cX8_readAct 277 = .ok (.goto 36, 3) := by decide +kernel
theorem dX8_readAct_280 : decode cX8_readAct 280 = .ok (.aload_n 2, 1) := by decide +kernel
theorem dX8_readAct_281 : decode cX8_readAct 281 = .ok (.aload_n 0, 1) := by decide +kernel
theorem dX8_readAct_282 : decode cX8_readAct 282 = .ok (.iconst 0, 1) := by decide +kernel
theorem dX8_readAct_283 : decode cX8_readAct 283 = .ok (.invokevirtual 199, 3) := by decide +kernel
theorem dX8_readAct_286 : decode cX8_readAct 286 = .ok (.putfield 203, 3) := by decide +kernel
theorem dX8_readAct_289 : decode cX8_readAct 289 = .ok (.goto 24, 3) := by decide +kernel
theorem dX8_readAct_292 : decode cX8_readAct 292 = .ok (.aload_n 2, 1) := by decide +kernel
theorem dX8_readAct_293 : decode cX8_readAct 293 = .ok (.aload_n 0, 1) := by decide +kernel
theorem dX8_readAct_294 : decode cX8_readAct 294 = .ok (.iconst 1, 1) := by decide +kernel
theorem dX8_readAct_295 : decode cX8_readAct 295 = .ok (.invokevirtual 199, 3) := by decide +kernel
theorem dX8_readAct_298 : decode cX8_readAct 298 = .ok (.putfield 215, 3) := by decide +kernel
theorem dX8_readAct_301 : decode cX8_readAct 301 = .ok (.goto 12, 3) := by decide +kernel
theorem dX8_readAct_304 : decode cX8_readAct 304 = .ok (.aload_n 2, 1) := by decide +kernel
theorem dX8_readAct_305 : decode cX8_readAct 305 = .ok (.aload_n 0, 1) := by decide +kernel
theorem dX8_readAct_306 : decode cX8_readAct 306 = .ok (.iconst 0, 1) := by decide +kernel
theorem dX8_readAct_307 : decode cX8_readAct 307 = .ok (.invokevirtual 162, 3) := by decide +kernel
theorem dX8_readAct_310 : decode cX8_readAct 310 = .ok (.putfield 166, 3) := by decide +kernel
theorem dX8_readAct_313 : decode cX8_readAct 313 = .ok (.aload_n 0, 1) := by decide +kernel
theorem dX8_readAct_314 : decode cX8_readAct 314 = .ok (.getfield 10, 3) := by decide +kernel
theorem dX8_readAct_317 : decode cX8_readAct 317 = .ok (.getstatic 95, 3) := by decide +kernel
theorem dX8_readAct_320 : decode cX8_readAct 320 = .ok (.invokevirtual 46, 3) := by decide +kernel
theorem dX8_readAct_323 : decode cX8_readAct 323 = .ok (.aload_n 2, 1) := by decide +kernel
theorem dX8_readAct_324 : decode cX8_readAct 324 = .ok (.areturn, 1) := by decide +kernel
set_option maxRecDepth 20000 in
theorem ggX8_readCompares_X8_readValue : GoodIn wsX8_readCompares wsX8_readValue := goodIn_r _ [10, 1, 2, 3, 4, 11, 12, 13, 14, 15, 16, 17, 18, 19, 20, 21, 22, 23, 24, 25, 26, 27, 28, 29, 30, 31, 32, 33, 34, 35, 36, 37, 38, 39, 40, 41, 42, 43, 44, 45, 46, 47, 48, 49, 50, 51, 52, 53, 54, 9, 55, 56, 57, 58, 59, 60, 61, 62, 63, 64, 65, 66, 67, 6, 7, 8, 68, 69, 70, 71, 72, 73, 74, 75, 76, 77, 78, 79, 80, 81, 82, 83, 84, 92, 93, 94, 95, 96, 97, 98, 99, 100, 101, 102, 103, 104, 105, 106, 107, 108, 109, 110, 111, 112, 113] (by decide +kernel) (by decide +kernel)
set_option maxRecDepth 20000 in
theorem gX8_readCompares_X8_readValue : GoodIn wsX8_readCompares (wsV RX8 162 RX8 yX8_readValue wsX8_readValue) := goodIn_app (goodIn_of _ (by decide +kernel)) ggX8_readCompares_X8_readValue
set_option maxRecDepth 20000 in
theorem ggX8_readCompares_X11_init : GoodIn wsX8_readCompares wsX11_init := goodIn_r _ [17, 18, 19, 20, 21, 92, 93, 94, 95, 96] (by decide +kernel) (by decide +kernel)
set_option maxRecDepth 20000 in
theorem gX8_readCompares_X11_init : GoodIn wsX8_readCompares (wsX11_init) := ggX8_readCompares_X11_init
set_option maxRecDepth 20000 in
theorem ggX8_readCompares_X5_isCompareSign : GoodIn wsX8_readCompares wsX5_isCompareSign := goodIn_r _ [88, 89, 90, 91] (by decide +kernel) (by decide +kernel)
set_option maxRecDepth 20000 in
theorem gX8_readCompares_X5_isCompareSign : GoodIn wsX8_readCompares (wsV RX8 221 RX5 yX5_isCompareSign wsX5_isCompareSign) := goodIn_app (goodIn_of _ (by decide +kernel)) ggX8_readCompares_X5_isCompareSign
set_option maxRecDepth 20000 in
theorem ggX8_readCompares_X10_step : GoodIn wsX8_readCompares wsX10_step := goodIn_r _ [37, 27, 38, 39, 40, 33, 101, 102, 103, 104, 105, 106] (by decide +kernel) (by decide +kernel)
set_option maxRecDepth 20000 in
theorem gX8_readCompares_X10_step : GoodIn wsX8_readCompares (wsV RX8 120 RX10 yX10_step wsX10_step) := goodIn_app (goodIn_of _ (by decide +kernel)) ggX8_readCompares_X10_step
set_option maxRecDepth 20000 in
theorem ggX8_readCompares_X10_take : GoodIn wsX8_readCompares wsX10_take := goodIn_r _ [32, 33, 34, 35, 36, 25, 37, 27, 38, 39, 40, 101, 102, 103, 104, 105, 106] (by decide +kernel) (by decide +kernel)
set_option maxRecDepth 20000 in
theorem gX8_readCompares_X10_take : GoodIn wsX8_readCompares (wsV RX8 46 RX10 yX10_take wsX10_take) := goodIn_app (goodIn_of _ (by decide +kernel)) ggX8_readCompares_X10_take
theorem dX8_readCompares_0 : decode cX8_readCompares 0 = .ok (.aconst_null, 1) := by decide +kernel
theorem dX8_readCompares_1 : decode cX8_readCompares 1 = .ok (.astore_n 1, 1) := by decide +kernel
theorem dX8_readCompares_2 : decode cX8_readCompares 2 = .ok (.iconst 1, 1) := by decide +kernel
theorem dX8_readCompares_3 : decode cX8_readCompares 3 = .ok (.istore_n 2, 1) := by decide +kernel
theorem dX8_readCompares_4 : decode cX8_readCompares 4 = .ok (.iconst 0, 1) := by decide +kernel
theorem dX8_readCompares_5 : decode cX8_readCompares 5 = .ok (.istore_n 3, 1) := by decide +kernel
theorem dX8_readCompares_6 : decode cX8_readCompares 6 = .ok (.iload_n 3, 1) := by decide +kernel
theorem dX8_readCompares_7 : decode cX8_readCompares 7 = .ok (.sipush 400, 3) := by decide +kernel
theorem dX8_readCompares_10 : decode cX8_readCompares 10 = .ok (.if_icmp .ge 112, 3) := by decide +kernel
theorem dX8_readCompares_13 : decode cX8_readCompares 13 = .ok (.iload_n 2, 1) := by decide +kernel
theorem dX8_readCompares_14 : decode cX8_readCompares 14 = .ok (.ifCond .eq 108, 3) := by decide +kernel
theorem dX8_readCompares_17 : decode cX8_readCompares 17 = .ok (.aload_n 0, 1) := by decide +kernel
theorem dX8_readCompares_18 : decode cX8_readCompares 18 = .ok (.iconst 0, 1) := by decide +kernel
theorem dX8_readCompares_19 : decode cX8_readCompares 19 = .ok (.invokevirtual 162, 3) := by decide +kernel
theorem dX8_readCompares_22 : decode cX8_readCompares 22 = .ok (.astore 4, 2) := by decide +kernel
theorem dX8_readCompares_24 : decode cX8_readCompares 24 = .ok (.new 218, 3) := by decide +kernel
theorem dX8_readCompares_27 : decode cX8_readCompares 27 = .ok (.dup, 1) := by decide +kernel
theorem dX8_readCompares_28 : decode cX8_readCompares 28 = .ok (.aload_n 0, 1) := by decide +kernel
theorem dX8_readCompares_29 : decode cX8_readCompares 29 = .ok (.getfield 10, 3) := by decide +kernel
theorem dX8_readCompares_32 : decode cX8_readCompares 32 = .ok (.getfield 31, 3) := by decide +kernel
theorem dX8_readCompares_35 : decode cX8_readCompares 35 = .ok (.invokespecial 220, 3) := by decide +kernel
theorem dX8_readCompares_38 : decode cX8_readCompares 38 = .ok (.astore 5, 2) := by decide +kernel
theorem dX8_readCompares_40 : decode cX8_readCompares 40 = .ok (.aload_n 0, 1) := by decide +kernel
theorem dX8_readCompares_41 : decode cX8_readCompares 41 = .ok (.getfield 10, 3) := by decide +kernel
theorem dX8_readCompares_44 : decode cX8_readCompares 44 = .ok (.aload_n 0, 1) := by decide +kernel
theorem dX8_readCompares_45 : decode cX8_readCompares 45 = .ok (.getfield 10, 3) := by decide +kernel
theorem dX8_readCompares_48 : decode cX8_readCompares 48 = .ok (.getfield 31, 3) := by decide +kernel
theorem dX8_readCompares_51 : decode cX8_readCompares 51 = .ok (.invokevirtual 221, 3) := by decide +kernel
theorem dX8_readCompares_54 : decode cX8_readCompares 54 = .ok (.invokevirtual 120, 3) := by decide +kernel
theorem dX8_readCompares_57 : decode cX8_readCompares 57 = .ok (.aload 5, 2) := by decide +kernel
theorem dX8_readCompares_59 : decode cX8_readCompares 59 = .ok (.aload 4, 2) := by decide +kernel
theorem dX8_readCompares_61 : decode cX8_readCompares 61 = .ok (.putfield 224, 3) := by decide +kernel
theorem dX8_readCompares_64 : decode cX8_readCompares 64 = .ok (.aload 5, 2) := by decide +kernel
theorem dX8_readCompares_66 : decode cX8_readCompares 66 = .ok (.aload_n 0, 1) := by decide +kernel
theorem dX8_readCompares_67 : decode cX8_readCompares 67 = .ok (.iconst 0, 1) := by decide +kernel
theorem dX8_readCompares_68 : decode cX8_readCompares 68 = .ok (.invokevirtual 162, 3) := by decide +kernel
theorem dX8_readCompares_71 : decode cX8_readCompares 71 = .ok (.putfield 227, 3) := by decide +kernel
theorem dX8_readCompares_74 : decode cX8_readCompares 74 = .ok (.aload 5, 2) := by decide +kernel
theorem dX8_readCompares_76 : decode cX8_readCompares 76 = .ok (.aload_n 1, 1) := by decide +kernel
theorem dX8_readCompares_77 : decode cX8_readCompares 77 = .ok (.putfield 230, 3) := by decide +kernel
theorem dX8_readCompares_80 : decode cX8_readCompares 80 = .ok (.aload 5, 2) := by decide +kernel
theorem dX8_readCompares_82 : decode cX8_readCompares 82 = .ok (.astore_n 1, 1) := by decide +kernel
theorem dX8_readCompares_83 : decode cX8_readCompares 83 = .ok (.aload_n 0, 1) := by decide +kernel
theorem dX8_readCompares_84 : decode cX8_readCompares 84 = .ok (.getfield 10, 3) := by decide +kernel
theorem dX8_readCompares_87 : decode cX8_readCompares 87 = .ok (.getfield 31, 3) := by decide +kernel
theorem dX8_readCompares_90 : decode cX8_readCompares 90 = .ok (.getstatic 233, 3) := by decide +kernel
theorem dX8_readCompares_93 : decode cX8_readCompares 93 = .ok (.if_acmp .ne 7, 3) := by decide +kernel
theorem dX8_readCompares_96 : decode cX8_readCompares 96 = .ok (.iconst 1, 1) := by decide +kernel
theorem dX8_readCompares_97 : decode cX8_readCompares 97 = .ok (.goto 4, 3) := by decide +kernel
theorem dX8_readCompares_100 : decode cX8_readCompares 100 = .ok (.iconst 0, 1) := by decide +kernel
theorem dX8_readCompares_101 : decode cX8_readCompares 101 = .ok (.istore_n 2, 1) := by decide +kernel
theorem dX8_readCompares_102 : decode cX8_readCompares 102 = .ok (.iload_n 2, 1) := by decide +kernel
theorem dX8_readCompares_103 : decode cX8_readCompares 103 = .ok (.ifCond .eq 13, 3) := by decide +kernel
theorem dX8_readCompares_106 : decode cX8_readCompares 106 = .ok (.aload_n 0, 1) := by decide +kernel
theorem dX8_readCompares_107 : decode cX8_readCompares 107 = .ok (.getfield 10, 3) := by decide +kernel
theorem dX8_readCompares_110 : decode cX8_readCompares 110 = .ok (.getstatic 233, 3) := by decide +kernel
theorem dX8_readCompares_113 : decode cX8_readCompares 113 = .ok (.invokevirtual 46, 3) := by decide +kernel
theorem dX8_readCompares_116 : decode cX8_readCompares 116 = .ok (.iinc 3 1, 3) := by decide +kernel
theorem dX8_readCompares_119 : decode cX8_readCompares 119 = .ok (.goto (-113), 3) := by decide +kernel
theorem dX8_readCompares_122 : decode cX8_readCompares 122 = .ok (.aload_n 1, 1) := by decide +kernel
theorem dX8_readCompares_123 : decode cX8_readCompares 123 = .ok (.areturn, 1) := by decide +kernel
set_option maxRecDepth 20000 in
theorem ggX8_readValue_X11_init : GoodIn wsX8_readValue wsX11_init := goodIn_r _ [11, 12, 13, 14, 15, 83, 84, 85, 86, 87] (by decide +kernel) (by decide +kernel)
set_option maxRecDepth 20000 in
theorem gX8_readValue_X11_init : GoodIn wsX8_readValue (wsX11_init) := ggX8_readValue_X11_init
set_option maxRecDepth 20000 in
theorem ggX8_readValue_X10_worth : GoodIn wsX8_readValue wsX10_worth := goodIn_r _ [20, 21, 22, 92, 93, 94, 95, 96, 97] (by decide +kernel) (by decide +kernel)
set_option maxRecDepth 20000 in
theorem gX8_readValue_X10_worth : GoodIn wsX8_readValue (wsV RX8 84 RX10 yX10_worth wsX10_worth) := goodIn_app (goodIn_of _ (by decide +kernel)) ggX8_readValue_X10_worth
set_option maxRecDepth 20000 in
theorem ggX8_readValue_X10_take : GoodIn wsX8_readValue wsX10_take := goodIn_r _ [26, 27, 28, 29, 30, 19, 31, 21, 32, 33, 34, 92, 93, 94, 95, 96, 97] (by decide +kernel) (by decide +kernel)
set_option maxRecDepth 20000 in
theorem gX8_readValue_X10_take : GoodIn wsX8_readValue (wsV RX8 46 RX10 yX10_take wsX10_take) := goodIn_app (goodIn_of _ (by decide +kernel)) ggX8_readValue_X10_take
set_option maxRecDepth 20000 in
theorem ggX8_readValue_X5_isContent : GoodIn wsX8_readValue wsX5_isContent := goodIn_r _ [39, 40, 41, 42, 43, 44] (by decide +kernel) (by decide +kernel)
set_option maxRecDepth 20000 in
theorem gX8_readValue_X5_isContent : GoodIn wsX8_readValue (wsV RX8 240 RX5 yX5_isContent wsX5_isContent) := goodIn_app (goodIn_of _ (by decide +kernel)) ggX8_readValue_X5_isContent
set_option maxRecDepth 20000 in
theorem ggX8_readValue_X10_step : GoodIn wsX8_readValue wsX10_step := goodIn_r _ [31, 21, 32, 33, 34, 27, 92, 93, 94, 95, 96, 97] (by decide +kernel) (by decide +kernel)
set_option maxRecDepth 20000 in
theorem gX8_readValue_X10_step : GoodIn wsX8_readValue (wsV RX8 120 RX10 yX10_step wsX10_step) := goodIn_app (goodIn_of _ (by decide +kernel)) ggX8_readValue_X10_step
set_option maxRecDepth 20000 in
theorem ggX8_readValue_X8_readKnownName : GoodIn wsX8_readValue wsX8_readKnownName := goodIn_r _ [50, 4, 51, 52, 16, 17, 18, 19, 20, 21, 22, 53, 54, 55, 56, 57, 58, 59, 49, 60, 61, 62, 45, 29, 30, 31, 32, 33, 34, 27, 88, 89, 90, 91, 98, 99, 100, 101, 102, 103, 104, 92, 93, 94, 95, 96, 97] (by decide +kernel) (by decide +kernel)
set_option maxRecDepth 20000 in
theorem gX8_readValue_X8_readKnownName : GoodIn wsX8_readValue (wsV RX8 199 RX8 yX8_readKnownName wsX8_readKnownName) := goodIn_app (goodIn_of _ (by decide +kernel)) ggX8_readValue_X8_readKnownName
set_option maxRecDepth 20000 in
theorem ggX8_readValue_X8_readValue : GoodIn wsX8_readValue wsX8_readValue := goodIn_r _ [0, 1, 2, 3, 4, 5, 6, 7, 8, 9, 10, 11, 12, 13, 14, 15, 16, 17, 18, 19, 20, 21, 22, 23, 24, 25, 26, 27, 28, 29, 30, 31, 32, 33, 34, 35, 36, 37, 38, 39, 40, 41, 42, 43, 44, 45, 46, 47, 48, 49, 50, 51, 52, 53, 54, 55, 56, 57, 58, 59, 60, 61, 62, 63, 64, 65, 66, 67, 68, 69, 70, 71, 72, 73, 74, 75, 76, 77, 78, 79, 80, 81, 82, 83, 84, 85, 86, 87, 88, 89, 90, 91, 92, 93, 94, 95, 96, 97, 98, 99, 100, 101, 102, 103, 104] (by decide +kernel) (by decide +kernel)
set_option maxRecDepth 20000 in
theorem gX8_readValue_X8_readValue : GoodIn wsX8_readValue (wsV RX8 162 RX8 yX8_readValue wsX8_readValue) := goodIn_app (goodIn_of _ (by decide +kernel)) ggX8_readValue_X8_readValue
set_option maxRecDepth 20000 in
theorem ggX8_readValue_X5_isValueSign : GoodIn wsX8_readValue wsX5_isValueSign := goodIn_r _ [69, 70, 71, 72, 73] (by decide +kernel) (by decide +kernel)
set_option maxRecDepth 20000 in
theorem gX8_readValue_X5_isValueSign : GoodIn wsX8_readValue (wsV RX8 246 RX5 yX5_isValueSign wsX5_isValueSign) := goodIn_app (goodIn_of _ (by decide +kernel)) ggX8_readValue_X5_isValueSign
set_option maxRecDepth 20000 in
theorem ggX8_readValue_X5_isMeasure : GoodIn wsX8_readValue wsX5_isMeasure := goodIn_r _ [77, 78, 79, 80, 81, 82] (by decide +kernel) (by decide +kernel)
set_option maxRecDepth 20000 in
theorem gX8_readValue_X5_isMeasure : GoodIn wsX8_readValue (wsV RX8 249 RX5 yX5_isMeasure wsX5_isMeasure) := goodIn_app (goodIn_of _ (by decide +kernel)) ggX8_readValue_X5_isMeasure
theorem dX8_readValue_0 : decode cX8_readValue 0 = .ok (.new 218, 3) := by decide +kernel
theorem dX8_readValue_3 : decode cX8_readValue 3 = .ok (.dup, 1) := by decide +kernel
theorem dX8_readValue_4 : decode cX8_readValue 4 = .ok (.aload_n 0, 1) := by decide +kernel
theorem dX8_readValue_5 : decode cX8_readValue 5 = .ok (.getfield 10, 3) := by decide +kernel
theorem dX8_readValue_8 : decode cX8_readValue 8 = .ok (.getfield 31, 3) := by decide +kernel
theorem dX8_readValue_11 : decode cX8_readValue 11 = .ok (.invokespecial 220, 3) := by decide +kernel
theorem dX8_readValue_14 : decode cX8_readValue 14 = .ok (.astore_n 2, 1) := by decide +kernel
theorem dX8_readValue_15 : decode cX8_readValue 15 = .ok (.aload_n 2, 1) := by decide +kernel
theorem dX8_readValue_16 : decode cX8_readValue 16 = .ok (.getfield 236, 3) := by decide +kernel
theorem dX8_readValue_19 : decode cX8_readValue 19 = .ok (.getstatic 88, 3) := by decide +kernel
theorem dX8_readValue_22 : decode cX8_readValue 22 = .ok (.if_acmp .ne 28, 3) := by decide +kernel
theorem dX8_readValue_25 : decode cX8_readValue 25 = .ok (.aload_n 2, 1) := by decide +kernel
theorem dX8_readValue_26 : decode cX8_readValue 26 = .ok (.aload_n 0, 1) := by decide +kernel
theorem dX8_readValue_27 : decode cX8_readValue 27 = .ok (.getfield 10, 3) := by decide +kernel
theorem dX8_readValue_30 : decode cX8_readValue 30 = .ok (.invokevirtual 84, 3) := by decide +kernel
theorem dX8_readValue_33 : decode cX8_readValue 33 = .ok (.l2i, 1) := by decide +kernel
theorem dX8_readValue_34 : decode cX8_readValue 34 = .ok (.putfield 237, 3) := by decide +kernel
theorem dX8_readValue_37 : decode cX8_readValue 37 = .ok (.aload_n 0, 1) := by decide +kernel
theorem dX8_readValue_38 : decode cX8_readValue 38 = .ok (.getfield 10, 3) := by decide +kernel
theorem dX8_readValue_41 : decode cX8_readValue 41 = .ok (.getstatic 88, 3) := by decide +kernel
theorem dX8_readValue_44 : decode cX8_readValue 44 = .ok (.invokevirtual 46, 3) := by decide +kernel
theorem dX8_readValue_47 : decode cX8_readValue 47 = .ok (.goto 145, 3) := by decide +kernel
theorem dX8_readValue_50 : decode cX8_readValue 50 = .ok (.aload_n 2, 1) := by decide +kernel
theorem dX8_readValue_51 : decode cX8_readValue 51 = .ok (.getfield 236, 3) := by decide +kernel
theorem dX8_readValue_54 : decode cX8_readValue 54 = .ok (.invokevirtual 240, 3) := by decide +kernel
