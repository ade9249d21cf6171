/-! what stands at the law's start: constants, their arrays, texts -/
/-- a premise by its place among the premises -/
def at8 : Nat → Nat → Cond → Option Cond
  | 0, _, _ => none
  | k + 1, n, T => if n = 1 then some T else match T with
    | .and x y => at8 k (n / 2) (if n % 2 = 1 then y else x)
    | _ => none
theorem and_b {args : Array Value} {s : State} {x y : Cond} (h : (Cond.and x y).before args s = true) : x.before args s = true ∧ y.before args s = true := by
  rw [Cond.before_and, Bool.and_eq_true] at h
  exact h
theorem at8_b {args : Array Value} {s : State} : ∀ (k n : Nat) (T c : Cond), at8 k n T = some c → T.before args s = true → c.before args s = true
  | 0, _, _, _, h, _ => by cases h
  | k + 1, n, T, c, h, hb => by
    unfold at8 at h
    split at h
    · cases h; exact hb
    · split at h
      · next x y _ =>
        refine at8_b k _ _ c h ?_
        obtain ⟨h1, h2⟩ := and_b hb
        split
        · exact h2
        · exact h1
      · cases h
abbrev e_o (i : Nat) : String × Nat × String := q_own.getD i ("", 0, "")
abbrev e_s (i : Nat) : Term := .string (e_o i).1 (e_o i).2.1
def e_kx : List Nat := [3624, 1192, 3688, 3560, 3768, 1144, 2580, 2584, 3860, 3864, 1428, 1432, 2648, 3928, 2520, 1080, 2872, 1252, 3556, 3012, 3620, 1188, 2980, 3684, 4088, 2936, 3832, 1256, 2756, 2984, 3600, 1168, 2960, 1284, 2692, 3972, 1348, 2760, 3016, 3584, 2768]
def e_ko : List Nat := [1320, 2728, 1384, 3048, 1464, 2680, 3604, 3608, 1172, 1176, 2964, 2968, 3672, 1240, 3544, 2616, 3896, 2788, 3044, 4036, 1316, 2724, 4004, 1380, 1028, 3960, 2552, 2792, 3780, 4008, 1296, 2704, 3984, 2820, 3716, 1092, 2884, 3784, 4040, 1280, 3792]
def e_ks : List Nat := [3880, 1448, 3944, 1048, 4024, 1400, 2836, 2840, 3732, 3736, 1108, 1112, 2904, 3800, 4056, 1336, 2744, 2532, 1044, 2596, 3876, 1444, 2660, 3940, 3588, 2808, 3064, 2536, 3524, 2664, 3856, 1424, 2640, 1156, 2948, 3652, 1220, 3528, 2600, 3840, 3536]
def e_kw : List Nat := [2856, 3752, 2920, 4072, 3000, 3704, 1300, 1304, 2708, 2712, 3988, 3992, 1368, 2776, 3032, 3640, 1208, 3812, 4068, 1060, 2852, 3748, 1124, 2916, 2564, 1272, 3576, 3816, 2500, 1128, 2832, 3728, 1104, 3844, 1412, 2628, 3908, 2504, 1064, 2816, 2512]
def e_ka : List Nat := [1328, 2864, 3888, 1200, 2736, 3760, 1456, 2992, 4016, 1136, 2672, 3696, 1392, 2928, 3952, 1264, 2800, 3824, 2544, 3568, 3056, 4080, 1032, 2568, 3592, 1288, 2824, 3848, 1160, 2696, 3720, 1416, 2952, 3976, 1096, 2632, 3656, 1352, 2888, 3912, 1224]
def e_kz : List Nat := [3968, 1088, 2624, 3648, 1344, 2880, 3904, 1216, 2752, 3776, 2496, 3520, 3008, 4032, 1056, 2592, 3616, 1312, 2848, 3872, 1184, 2720, 3744, 1440, 2976, 4000, 1120, 2656, 3680, 1376, 2912, 3936, 1248, 2784, 3808, 2528, 3552, 3040, 4064, 1040, 2576]
def e_sx : List Nat := [3886, 2670, 1262, 2846, 1438, 2526, 2622, 3006, 3710, 3582, 1281, 3713, 4033, 3873, 3809, 2577, 2961, 1233, 3633, 4017, 3953, 3593, 3977, 3913, 2601, 4009, 2537, 1305, 1113, 3801, 2617, 1209, 3781, 3685, 2581, 1109, 3541, 1461, 1269, 3597, 2957, 1229, 2605, 1453, 3693, 2797, 4077, 2845, 1437, 3677]
def e_sc : List Nat := [1198, 3694, 2798, 3870, 2974, 3550, 3646, 4030, 1406, 3070, 2817, 1409, 1057, 1185, 2529, 3601, 3985, 2769, 1329, 1137, 1265, 1289, 1097, 1225, 3625, 1129, 3561, 2841, 2649, 2521, 3641, 2745, 2501, 1381, 3605, 2645, 3029, 2997, 2805, 1293, 3981, 2765, 3629, 2989, 1389, 3821, 1053, 3869, 2973, 1373]
def e_sa : List Nat := [2734, 1390, 3822, 1182, 3998, 3038, 1342, 1150, 2942, 4094, 3841, 2945, 2593, 2721, 3553, 1297, 1105, 3793, 2865, 2673, 2801, 2825, 2633, 2761, 1321, 2665, 3049, 3865, 3673, 3545, 1337, 3769, 3525, 2917, 1301, 3669, 4053, 4021, 3829, 2829, 1101, 3789, 1325, 4013, 2925, 2541, 2589, 1181, 3997, 2909]
def e_sl : List Nat := [3758, 2926, 2542, 2718, 1118, 4062, 2878, 2686, 3966, 1025, 1153, 3969, 3617, 3745, 3041, 2833, 2641, 2513, 3889, 3697, 3825, 3849, 3657, 3785, 2857, 3689, 4073, 1177, 1369, 3033, 2873, 1465, 3013, 3941, 2837, 1365, 1077, 1141, 2549, 3853, 2637, 2509, 2861, 1133, 3949, 3565, 3613, 2717, 1117, 3933]
def e_d1 : List Nat := [2900, 3924, 1236, 2772, 3796, 2516, 3540, 3028, 4052, 1076, 2612, 3636, 1332, 2868, 3892, 1204, 2740, 3764, 1460, 2996, 4020, 1140, 2676, 3700, 1396, 2932, 3956, 1268, 2804, 3828, 2548, 3572, 3060, 4084, 1036, 2572, 3596, 1292, 2828, 3852, 1164, 2700, 3724, 1420, 2956, 3980, 1100, 2636, 3660, 1356, 2892, 3916, 1228, 2764, 3788, 2508, 3532, 3020, 4044, 1068, 2604, 3628, 1324, 2860, 3884, 1196, 2732, 3756, 1452, 2988, 4012, 1132, 2668, 3692, 1388, 2924, 3948, 1260, 2796, 3820, 2540, 3564, 3052, 4076, 1052, 2588, 3612, 1308, 2844, 3868, 1180, 2716, 3740, 1436, 2972, 3996, 1116, 2652, 3676, 1372]
def e_d10 : List Nat := [2780, 3804, 2524, 3548, 3036, 4060, 1084, 2620, 3644, 1340, 2876, 3900, 1212, 2748, 3772, 1468, 3004, 4028, 1148, 2684, 3708, 1404, 2940, 3964, 1276, 2812, 3836, 2556, 3580, 3068, 4092, 1026, 2562, 3586, 1282, 2818, 3842, 1154, 2690, 3714, 1410, 2946, 3970, 1090, 2626, 3650, 1346, 2882, 3906, 1218, 2754, 3778, 2498, 3522, 3010, 4034, 1058, 2594, 3618, 1314, 2850, 3874, 1186, 2722, 3746, 1442, 2978, 4002, 1122, 2658, 3682, 1378, 2914, 3938, 1250, 2786, 3810, 2530, 3554, 3042, 4066, 1042, 2578, 3602, 1298, 2834, 3858, 1170, 2706, 3730, 1426, 2962, 3986, 1106, 2642, 3666, 1362, 2898, 3922, 1234]
def e_t0 : List Nat := [3538, 3026, 4050, 1074, 2610]
def e_t1 : List Nat := [3890, 1202, 2738, 3762, 1458]
def e_t2 : List Nat := [2674, 3698, 1394, 2930]
def e_t3 : List Nat := [3826, 2546, 3570]
def e_sb : List (List Nat) := [[1454, 2990, 4014, 1134], [3950], [3566, 3054, 4078, 1054, 2590, 3614, 1310], [3742], [2654, 3678, 1374, 2910, 3934, 1246, 2782, 3806], [1086], [3902, 1214, 2750, 3774, 1470], [], [1278, 2814, 3838, 2558], [2561], [2689], [1089, 2625, 3649, 1345, 2881, 3905, 1217, 2753, 3777, 2497, 3521, 3009], [1313], [1441, 2977, 4001, 1121, 2657, 3681, 1377, 2913, 3937, 1249, 2785], [4065, 1041], [3857, 1169, 2705, 3729, 1425], [3665, 1361, 2897, 3921], [3537, 3025, 4049, 1073, 2609], [1201, 2737, 3761, 1457, 2993], [1393, 2929], [2545, 3569, 3057, 4081, 1033, 2569], [1161, 2697, 3721, 1417, 2953], [1353, 2889], [2505, 3529, 3017, 4041, 1065], [3881, 1193, 2729, 3753, 1449, 2985], [1385, 2921, 3945, 1257, 2793, 3817], [1049, 2585, 3609], [2713, 3737, 1433, 2969, 3993], [2905, 3929, 1241, 2777], [4057], [3897], [3001, 4025, 1145, 2681, 3705, 1401, 2937, 3961, 1273, 2809, 3833, 2553, 3577, 3065, 4089, 1029, 2565, 3589, 1285, 2821, 3845, 1157, 2693, 3717, 1413, 2949, 3973, 1093, 2629, 3653, 1349, 2885, 3909, 1221, 2757], [4037, 1061, 2597, 3621, 1317, 2853, 3877, 1189, 2725, 3749, 1445, 2981, 4005, 1125, 2661], [1253, 2789, 3813, 2533, 3557, 3045, 4069, 1045], [3861, 1173, 2709, 3733, 1429, 2965, 3989], [2901, 3925, 1237, 2773, 3797, 2517], [2613, 3637, 1333, 2869, 3893, 1205, 2741, 3765], [2677, 3701, 1397, 2933, 3957], [3573, 3061, 4085, 1037, 2573], [1165, 2701, 3725, 1421], [3661, 1357, 2893, 3917], [3533, 3021, 4045, 1069], [3885, 1197, 2733, 3757], [2669], [1261], [3053], [1309], [3741], [2653], [1245]]
theorem e_kx_ok : ∀ i, i < 41 → at8 12 (e_kx.getD i 0) narrow_1 = some (.exactly (.static "HighRecipes$Kind" (q_nm.getD i "") "LHighRecipes$Kind;") "HighRecipes$Kind") := by decide +kernel
theorem e_ko_ok : ∀ i, i < 41 → at8 12 (e_ko.getD i 0) narrow_1 = some (.eq (.field (.static "HighRecipes$Kind" (q_nm.getD i "") "LHighRecipes$Kind;") "java/lang/Enum" "ordinal" "I") (.int (q_ord.getD i 0))) := by decide +kernel
theorem e_ks_ok : ∀ i, i < 41 → at8 12 (e_ks.getD i 0) narrow_1 = some (.eq (.field (.static "HighRecipes$Kind" (q_nm.getD i "") "LHighRecipes$Kind;") "HighRecipes$Kind" "sign" "I") (.int (q_sig.getD i 0))) := by decide +kernel
theorem e_kw_ok : ∀ i, i < 41 → at8 12 (e_kw.getD i 0) narrow_1 = some (.eq (.field (.static "HighRecipes$Kind" (q_nm.getD i "") "LHighRecipes$Kind;") "HighRecipes$Kind" "word" "J") (.long (q_wrd.getD i 0))) := by decide +kernel
theorem e_ka_ok : ∀ i, i < 41 → at8 12 (e_ka.getD i 0) narrow_1 = some (.eq (.elem (.static "HighRecipes$Kind" "ALL" "[LHighRecipes$Kind;") (.int (Int32.ofNat i))) (.static "HighRecipes$Kind" (q_nm.getD i "") "LHighRecipes$Kind;")) := by decide +kernel
theorem e_kz_ok : ∀ i, i < 41 → at8 12 (e_kz.getD i 0) narrow_1 = some (.eq (.elem (.static "HighRecipes$1" "$SwitchMap$HighRecipes$Kind" "[I") (.int (Int32.ofNat i))) (.int (q_sw.getD i 0))) := by decide +kernel
theorem e_t0_ok : ∀ i, i < 5 → at8 12 (e_t0.getD i 0) narrow_1 = some (.eq (.elem (.static "HighRecipesLaw" "MEASURES" "[Ljava/lang/String;") (.int (Int32.ofNat i))) (e_s (33 + i))) := by decide +kernel
theorem e_t1_ok : ∀ i, i < 5 → at8 12 (e_t1.getD i 0) narrow_1 = some (.eq (.elem (.static "HighRecipesLaw" "CONTENTS" "[Ljava/lang/String;") (.int (Int32.ofNat i))) (e_s (38 + i))) := by decide +kernel
theorem e_t2_ok : ∀ i, i < 4 → at8 12 (e_t2.getD i 0) narrow_1 = some (.eq (.elem (.static "HighRecipesLaw" "SIGNS" "[Ljava/lang/String;") (.int (Int32.ofNat i))) (e_s (43 + i))) := by decide +kernel
theorem e_t3_ok : ∀ i, i < 3 → at8 12 (e_t3.getD i 0) narrow_1 = some (.eq (.elem (.static "HighRecipesLaw$Act" "COMPARES" "[Ljava/lang/String;") (.int (Int32.ofNat i))) (e_s (47 + i))) := by decide +kernel
theorem e_d1_ok : ∀ i, i < 100 → at8 12 (e_d1.getD i 0) narrow_1 = some (.eq (.elem (.static "java/lang/Integer" "DigitOnes" "[B") (.int (Int32.ofNat i))) (.int (q_d1 i))) := by decide +kernel
theorem e_d10_ok : ∀ i, i < 100 → at8 12 (e_d10.getD i 0) narrow_1 = some (.eq (.elem (.static "java/lang/Integer" "DigitTens" "[B") (.int (Int32.ofNat i))) (.int (q_d10 i))) := by decide +kernel
theorem e_sx_ok : ∀ i, i < 50 → at8 12 (e_sx.getD i 0) narrow_1 = some (.exactly (e_s i) "java/lang/String") := by decide +kernel
theorem e_sc_ok : ∀ i, i < 50 → at8 12 (e_sc.getD i 0) narrow_1 = some (.eq (.field (e_s i) "java/lang/String" "coder" "B") (.int 0)) := by decide +kernel
theorem e_sa_ok : ∀ i, i < 50 → at8 12 (e_sa.getD i 0) narrow_1 = some (.arrayOf (.field (e_s i) "java/lang/String" "value" "[B") .byte) := by decide +kernel
theorem e_sl_ok : ∀ i, i < 50 → at8 12 (e_sl.getD i 0) narrow_1 = some (.eq (.length (.field (e_s i) "java/lang/String" "value" "[B")) (.int (Int32.ofNat (q_len.getD i 0)))) := by decide +kernel
theorem e_sb_ok : ∀ i, i < 50 → ∀ j, j < q_len.getD i 0 → at8 12 ((e_sb.getD i []).getD j 0) narrow_1 = some (.eq (.elem (.field (e_s i) "java/lang/String" "value" "[B") (.int (Int32.ofNat j))) (.int ((q_byt.getD i []).getD j 0))) := by decide +kernel
theorem e_sr_ok : ∀ i, i < 50 → Cond.stringRef (e_o i).1 (e_o i).2.1 (e_o i).2.2 ∈ lw_tbl := by decide +kernel
theorem e_kl_ok : ∀ i, i < 41 → Cond.laysStatic "HighRecipes$Kind" (q_nm.getD i "") "LHighRecipes$Kind;" ∈ lw_tbl := by decide +kernel
theorem e_len : ∀ i, i < 50 → q_len.getD i 0 < 2 ^ 31 := by decide +kernel
theorem e_or : ∀ i, i < 41 → ∀ j, j < 41 → q_ord.getD i 0 = q_ord.getD j 0 → i = j := by decide +kernel
theorem e_fn_ok : ∀ q ∈ q_fn, Cond.fieldLinkNest q.1 q.2.1 q.2.2.1 q.2.2.2.1 q.2.2.2.2.1 q.2.2.2.2.2 ∈ lw_tbl := by decide +kernel
theorem e_mn_ok : ∀ q ∈ q_mn, Cond.methodLinkNest q.1 q.2.1 q.2.2.1 q.2.2.2 ∈ lw_tbl := by decide +kernel
theorem e_dc_ok : ∀ q ∈ q_dc, Cond.declares q ∈ lw_tbl := by decide +kernel
theorem e_ca_ok : ∀ q ∈ q_ca, Cond.castable q.1 q.2 ∈ lw_tbl := by decide +kernel
theorem e_ao_ok : ∀ q ∈ q_ao, Cond.arrayOver (.object q) ∈ lw_tbl := by decide +kernel
theorem va_Tcg {ty : FieldType} {t N : Nat} {f f' : Nat → Value} {A : Nat → Prop} {U : State} {H : Heap} (h : va_T ty t N f A U H) (e : ∀ j, j < N → f' j = f j) : va_T ty t N f' A U H := by
  obtain ⟨cell, h1, h2, h3, h4, h5, h6, h7⟩ := h
  exact ⟨cell, h1, h2, h3, h4, h5, fun j hj => (h6 j hj).trans (congrArg some (e j hj).symm), h7⟩
/-- one field, one cell: one value -/
theorem va_OF.one {o n d : String} {v w : Value} {t : Nat} {A : Nat → Prop} {U : State} {H : Heap} (h1 : va_OF o n d v t A U H) (h2 : va_OF o n d w t A U H) : v = w := by
  obtain ⟨cf, k, i, f, cell, a1, -, a3, -, a5, -⟩ := h1
  obtain ⟨cf', k', i', f', cell', b1, -, b3, -, b5, -⟩ := h2
  have e1 := a1.symm.trans b1
  have e3 := a3.symm.trans b3
  simp only [Option.some.injEq, Prod.mk.injEq] at e1 e3
  obtain ⟨-, -, -, e1⟩ := e1
  subst e1 e3
  exact Option.some.inj (a5.symm.trans b5)
theorem va_T.one {ty : FieldType} {t N M : Nat} {f g : Nat → Value} {A : Nat → Prop} {U : State} {H : Heap} (hN : N < 2 ^ 31) (hM : M < 2 ^ 31) (h1 : va_T ty t N f A U H) (h2 : va_T ty t M g A U H) : N = M ∧ ∀ j, j < N → f j = g j := by
  obtain ⟨cell, a1, -, -, a4, a5, a6, -⟩ := h1
  obtain ⟨cell', b1, -, -, b4, b5, b6, -⟩ := h2
  have e := Option.some.inj (a1.symm.trans b1)
  subst e
  have e2 : Int32.ofNat N = Int32.ofNat M := a5.symm.trans b5
  have e3 : N = M := (nI_eq (a := N) (b := M) hN hM).1 e2
  subst e3
  exact ⟨rfl, fun j hj => Option.some.inj ((a6 j hj).symm.trans (b6 j hj))⟩
theorem exact_ref {args : Array Value} {s : State} {t : Term} {C : String} (h : (Cond.exactly t C).before args s = true) : ∃ a : Nat, t.eval args s none [] s = some (.ref a) := by
  obtain ⟨a, c, cell, k, q1, -⟩ := Cond.exactly_spec h
  exact ⟨a, q1⟩
/-- an array class, by its word -/
theorem arr_prim {args : Array Value} {s : State} {ty : FieldType} (hno : ∀ C, ty ≠ .object C) (h : (Cond.arrayClass ty).before args s = true) : ∃ cA : ClassId, ArrOfT s cA ty ∧ va_RA s cA ty := by
  obtain ⟨c, k, comp, h1, h2, h3⟩ := Cond.arrayClass_spec h
  refine ⟨c, fun n z => ⟨fun k h => (by cases h), k, h2, comp, h3⟩, ?_⟩
  cases ty with
  | object C => exact absurd rfl (hno C)
  | _ => exact h1
theorem arr_obj {args : Array Value} {s : State} {C : String} (h : (Cond.arrayOver (.object C)).before args s = true) : ∃ cA : ClassId, ArrOfT s cA (.object C) ∧ va_RA s cA (.object C) := by
  obtain ⟨comp, c, k, f1, f2, f3, f4, f5⟩ := Cond.arrayOver_spec h
  exact ⟨c, fun n z => ⟨fun k h => (by cases h), k, f3, comp, f4⟩, ⟨k, comp, f3, f4, f1, f5⟩⟩
theorem arr_arr {args : Array Value} {s : State} {t : FieldType} (h : (Cond.arrayOver (.array t)).before args s = true) : ∃ cA : ClassId, ArrOfT s cA (.array t) ∧ va_RA s cA (.array t) := by
  obtain ⟨comp, c, k, h1, h2, h3, h4, h5⟩ := arrayOverA_spec h
  exact ⟨c, fun n z => ⟨fun k h => (by cases h), k, h3, comp, h4⟩, h5⟩
/-- the script, as a row that nobody writes -/
theorem scr_T {b L : Nat} {xs : Nat → Int32} {s : State} {A : Nat → Prop} (hX : va_X b L xs s s.heap) (hA : ∀ a : Nat, a < s.heap.size → ¬ A a) : va_T .int b L (fun j => .int (xs j)) A s s.heap := by
  obtain ⟨scr, h1, h2, h3, h4, h5⟩ := hX
  exact ⟨scr, h1, h2, h3, Nat.le_of_eq h4.symm, by rw [h4], h5, hA b (Array.getElem?_eq_some_iff.mp h1).1⟩
theorem start_K {b : Addr} {s : State} (hts : ∀ w ∈ lw_tbl, w.before #[Value.ref b] s = true) : ∃ (D : va_G), ∀ (k : Nat) (q : vw_C), vwCl[k]? = some q → u_Kn s q.1 q.2.1 q.2.2 (D.1 k) (D.2 k) := by
  obtain ⟨c0, n0, h0⟩ := u_known (C := RJ0) (T := TJ0) (N := 4) (n := 4) hts inJ0 (hts (.instantiable RJ0 4) (by decide +kernel))
  obtain ⟨c1, n1, h1⟩ := u_known (C := RJ4) (T := TJ4) (N := 4) (n := 4) hts inJ4 (hts (.instantiable RJ4 4) (by decide +kernel))
  obtain ⟨c2, n2, h2⟩ := u_known (C := RX1) (T := TX1) (N := 9) (n := 9) hts inX1 (hts (.instantiable RX1 9) (by decide +kernel))
  obtain ⟨c3, n3, h3⟩ := u_known (C := RX2) (T := TX2) (N := 7) (n := 7) hts inX2 (hts (.instantiable RX2 7) (by decide +kernel))
  obtain ⟨c4, n4, h4⟩ := u_known (C := RX3) (T := TX3) (N := 3) (n := 3) hts inX3 (hts (.instantiable RX3 3) (by decide +kernel))
  obtain ⟨c5, n5, h5⟩ := u_known (C := RX4) (T := TX4) (N := 2) (n := 2) hts inX4 (hts (.instantiable RX4 2) (by decide +kernel))
  obtain ⟨c6, n6, h6⟩ := u_known (C := RX6) (T := TX6) (N := 9) (n := 9) hts inX6 (hts (.instantiable RX6 9) (by decide +kernel))
  obtain ⟨c7, n7, h7⟩ := u_known (C := RX7) (T := TX7) (N := 5) (n := 5) hts inX7 (hts (.instantiable RX7 5) (by decide +kernel))
  obtain ⟨c8, n8, h8⟩ := u_known (C := RX8) (T := TX8) (N := 4) (n := 4) hts inX8 (hts (.instantiable RX8 4) (by decide +kernel))
  obtain ⟨c9, n9, h9⟩ := u_known (C := RX9) (T := TX9) (N := 2) (n := 2) hts inX9 (hts (.instantiable RX9 2) (by decide +kernel))
  obtain ⟨c10, n10, h10⟩ := u_known (C := RX10) (T := TX10) (N := 6) (n := 6) hts inX10 (hts (.instantiable RX10 6) (by decide +kernel))
  obtain ⟨c11, n11, h11⟩ := u_known (C := RX11) (T := TX11) (N := 5) (n := 5) hts inX11 (hts (.instantiable RX11 5) (by decide +kernel))
  obtain ⟨c12, n12, h12⟩ := u_known (C := RX12) (T := TX12) (N := 7) (n := 7) hts inX12 (hts (.instantiable RX12 7) (by decide +kernel))
  obtain ⟨c13, n13, h13⟩ := u_known (C := RX13) (T := TX13) (N := 8) (n := 8) hts inX13 (hts (.instantiable RX13 8) (by decide +kernel))
  obtain ⟨c14, n14, h14⟩ := u_known (C := RX14) (T := TX14) (N := 1) (n := 1) hts inX14 (hts (.instantiable RX14 1) (by decide +kernel))
  obtain ⟨c15, n15, h15⟩ := u_known (C := RX15) (T := TX15) (N := 12) (n := 12) hts inX15 (hts (.instantiable RX15 12) (by decide +kernel))
  obtain ⟨c16, n16, h16⟩ := u_known (C := RX16) (T := TX16) (N := 4) (n := 4) hts inX16 (hts (.instantiable RX16 4) (by decide +kernel))
  refine ⟨(fun k => if k = 0 then c0 else if k = 1 then c1 else if k = 2 then c2 else if k = 3 then c3 else if k = 4 then c4 else if k = 5 then c5 else if k = 6 then c6 else if k = 7 then c7 else if k = 8 then c8 else if k = 9 then c9 else if k = 10 then c10 else if k = 11 then c11 else if k = 12 then c12 else if k = 13 then c13 else if k = 14 then c14 else if k = 15 then c15 else c16, fun k => if k = 0 then n0 else if k = 1 then n1 else if k = 2 then n2 else if k = 3 then n3 else if k = 4 then n4 else if k = 5 then n5 else if k = 6 then n6 else if k = 7 then n7 else if k = 8 then n8 else if k = 9 then n9 else if k = 10 then n10 else if k = 11 then n11 else if k = 12 then n12 else if k = 13 then n13 else if k = 14 then n14 else if k = 15 then n15 else n16), ?_⟩
  intro k q hq
  match k, hq with
  | 0, hq => cases hq; exact h0
  | 1, hq => cases hq; exact h1
  | 2, hq => cases hq; exact h2
  | 3, hq => cases hq; exact h3
  | 4, hq => cases hq; exact h4
  | 5, hq => cases hq; exact h5
  | 6, hq => cases hq; exact h6
  | 7, hq => cases hq; exact h7
  | 8, hq => cases hq; exact h8
  | 9, hq => cases hq; exact h9
  | 10, hq => cases hq; exact h10
  | 11, hq => cases hq; exact h11
  | 12, hq => cases hq; exact h12
  | 13, hq => cases hq; exact h13
  | 14, hq => cases hq; exact h14
  | 15, hq => cases hq; exact h15
  | 16, hq => cases hq; exact h16
  | k + 17, hq => simp [vwCl] at hq

set_option maxHeartbeats 2000000 in
theorem start_kind {b : Addr} {s : State} (hts : ∀ w ∈ lw_tbl, w.before #[Value.ref b] s = true) (hn : narrow_1.before #[Value.ref b] s = true) {A : Nat → Prop} (hA : ∀ a : Nat, a < s.heap.size → ¬ A a) : ∃ ad : Nat → Nat, va_En "HighRecipes$Kind" "LHighRecipes$Kind;" q_nm [("java/lang/Enum", "ordinal", "I", q_ord), ("HighRecipes$Kind", "sign", "I", q_sig)] ad A s s.heap ∧ va_Ef 41 "HighRecipes$Kind" "word" "J" (fun i => .long (q_wrd.getD i 0)) ad A s s.heap ∧ ∀ i, i < 41 → (Term.static "HighRecipes$Kind" (q_nm.getD i "") "LHighRecipes$Kind;").eval #[Value.ref b] s none [] s = some (.ref (ad i)) := by
  have N := fun (i : Nat) (c : Cond) (h : at8 12 i narrow_1 = some c) => at8_b 12 i narrow_1 c h hn
  have hini : (Cond.initialized "HighRecipes$Kind").before #[Value.ref b] s = true := hts _ (by decide +kernel)
  have h0 : ∀ i : Nat, ∃ t : Nat, i < 41 → (Term.static "HighRecipes$Kind" (q_nm.getD i "") "LHighRecipes$Kind;").eval #[Value.ref b] s none [] s = some (.ref t) ∧ va_Z "HighRecipes$Kind" (q_nm.getD i "") "LHighRecipes$Kind;" (.ref t) A s s.heap ∧ va_O "HighRecipes$Kind" t A s s.heap ∧ va_OF "java/lang/Enum" "ordinal" "I" (.int (q_ord.getD i 0)) t A s s.heap ∧ va_OF "HighRecipes$Kind" "sign" "I" (.int (q_sig.getD i 0)) t A s s.heap := by
    intro i
    by_cases hi : i < 41
    · obtain ⟨ad, he, hv⟩ := va_Enof2 (args := #[Value.ref b]) (s := s) (E := "HighRecipes$Kind") (d := "LHighRecipes$Kind;") (nm := [q_nm.getD i ""]) (F := [("java/lang/Enum", "ordinal", "I", [q_ord.getD i 0]), ("HighRecipes$Kind", "sign", "I", [q_sig.getD i 0])]) (A := A)
        (fun j hj => by obtain rfl : j = 0 := by simpa using hj
                        exact hts _ (e_kl_ok i hi)) hini
        (fun j hj => by obtain rfl : j = 0 := by simpa using hj
                        exact N _ _ (e_kx_ok i hi))
        (fun q hq j hj => by
          obtain rfl : j = 0 := by simpa using hj
          rcases List.mem_cons.mp hq with rfl | hq
          · exact N _ _ (e_ko_ok i hi)
          · rw [List.mem_singleton.mp hq]
            exact N _ _ (e_ks_ok i hi))
        (fun j k hj hk hjk => by
          obtain rfl : j = 0 := by simpa using hj
          obtain rfl : k = 0 := by simpa using hk
          exact absurd rfl hjk) hA
      have z := he.1 0 Nat.zero_lt_one
      exact ⟨ad 0, fun _ => ⟨hv 0 Nat.zero_lt_one, z.1, z.2.1, z.2.2 _ List.mem_cons_self, z.2.2 _ (List.mem_cons_of_mem _ List.mem_cons_self)⟩⟩
    · exact ⟨0, fun h => absurd h hi⟩
  obtain ⟨ad, had⟩ := Classical.axiomOfChoice h0
  refine ⟨ad, ⟨fun i hi => ⟨(had i hi).2.1, (had i hi).2.2.1, fun q hq => ?_⟩, fun i j hi hj e => ?_⟩, ?_, fun i hi => (had i hi).1⟩
  · rcases List.mem_cons.mp hq with rfl | hq
    · exact (had i hi).2.2.2.1
    · rw [List.mem_singleton.mp hq]
      exact (had i hi).2.2.2.2
  · have a1 := (had i hi).2.2.2.1
    rw [e] at a1
    have a2 := va_OF.one a1 (had j hj).2.2.2.1
    exact e_or i hi j hj (by injection a2)
  · exact va_Efof (args := #[Value.ref b]) (s := s) (N := 41) (E := "HighRecipes$Kind") (d0 := "LHighRecipes$Kind;") (nm := q_nm) (v := fun i => .long (q_wrd.getD i 0)) (tm := fun i => .long (q_wrd.getD i 0)) (fun i hi => (had i hi).1) (fun i hi => N _ _ (e_kw_ok i hi)) (fun i hi => rfl) hA
set_option maxHeartbeats 2000000 in
theorem start_text {b : Addr} {s : State} (hn : narrow_1.before #[Value.ref b] s = true) {A : Nat → Prop} (hA : ∀ a : Nat, a < s.heap.size → ¬ A a) : ∃ adK adV : Nat → Nat, (∀ i, i < 50 → va_O "java/lang/String" (adK i) A s s.heap ∧ va_OF "java/lang/String" "coder" "B" (.int 0) (adK i) A s s.heap ∧ va_OF "java/lang/String" "value" "[B" (.ref (adV i)) (adK i) A s s.heap ∧ va_T .byte (adV i) (q_len.getD i 0) (fun j => .int ((q_byt.getD i []).getD j 0)) A s s.heap) ∧ ∀ i, i < 50 → (e_s i).eval #[Value.ref b] s none [] s = some (.ref (adK i)) := by
  have N := fun (i : Nat) (c : Cond) (h : at8 12 i narrow_1 = some c) => at8_b 12 i narrow_1 c h hn
  have h0 : ∀ i : Nat, ∃ q : Nat × Nat, i < 50 → (e_s i).eval #[Value.ref b] s none [] s = some (.ref q.1) ∧ va_O "java/lang/String" q.1 A s s.heap ∧ va_OF "java/lang/String" "coder" "B" (.int 0) q.1 A s s.heap ∧ va_OF "java/lang/String" "value" "[B" (.ref q.2) q.1 A s s.heap ∧ va_T .byte q.2 (q_len.getD i 0) (fun j => .int ((q_byt.getD i []).getD j 0)) A s s.heap := by
    intro i
    by_cases hi : i < 50
    · obtain ⟨adK, adV, he, hv⟩ := vk_Sof (args := #[Value.ref b]) (s := s) (N := 1) (tm := fun _ => e_s i) (len := [q_len.getD i 0]) (byt := [q_byt.getD i []]) (A := A)
        (fun j hj => by obtain rfl : j = 0 := by omega
                        exact e_len i hi)
        (fun j hj => N _ _ (e_sx_ok i hi)) (fun j hj => N _ _ (e_sc_ok i hi)) (fun j hj => N _ _ (e_sa_ok i hi))
        (fun j hj => by obtain rfl : j = 0 := by omega
                        exact N _ _ (e_sl_ok i hi))
        (fun j hj k hk => by obtain rfl : j = 0 := by omega
                             exact N _ _ (e_sb_ok i hi k hk))
        (fun j k hj hk hjk => absurd (by omega) hjk) hA
      have z := he.1 0 Nat.zero_lt_one
      exact ⟨(adK 0, adV 0), fun _ => ⟨hv 0 Nat.zero_lt_one, z.1, z.2.1, z.2.2.1, z.2.2.2⟩⟩
    · exact ⟨(0, 0), fun h => absurd h hi⟩
  obtain ⟨ad, had⟩ := Classical.axiomOfChoice h0
  exact ⟨fun i => (ad i).1, fun i => (ad i).2, fun i hi => (had i hi).2, fun i hi => (had i hi).1⟩

set_option maxHeartbeats 4000000 in
/-- the constants' addresses, and all that the class and the law take as given -/
theorem start_A {b L : Nat} {xs : Nat → Int32} {s : State} (hL : L ≤ 260) (hX : va_X b L xs s s.heap) (hts : ∀ w ∈ lw_tbl, w.before #[Value.ref b] s = true) (hn : narrow_1.before #[Value.ref b] s = true) : ∃ E : q_E, E.2.2.1 = s.heap.size ∧ E.2.2.2 108 = b ∧ q_A E s := by
  have N := fun (i : Nat) (c : Cond) (h : at8 12 i narrow_1 = some c) => at8_b 12 i narrow_1 c h hn
  have hA : ∀ a : Nat, a < s.heap.size → ¬ (fun q : Nat => s.heap.size ≤ q) a := fun a h => Nat.not_le.mpr h
  obtain ⟨D, hD⟩ := start_K hts
  obtain ⟨a0, g0, r0⟩ := arr_prim (ty := .int) (fun _ h => by cases h) (hts (.arrayClass .int) (by decide +kernel))
  obtain ⟨a1, g1, r1⟩ := arr_prim (ty := .long) (fun _ h => by cases h) (hts (.arrayClass .long) (by decide +kernel))
  obtain ⟨a2, g2, r2⟩ := arr_prim (ty := .byte) (fun _ h => by cases h) (hts (.arrayClass .byte) (by decide +kernel))
  obtain ⟨a3, g3, r3⟩ := arr_obj (hts (.arrayOver (.object "HighRecipes$Act")) (by decide +kernel))
  obtain ⟨a4, g4, r4⟩ := arr_obj (hts (.arrayOver (.object "HighRecipes$Pan")) (by decide +kernel))
  obtain ⟨a5, g5, r5⟩ := arr_obj (hts (.arrayOver (.object "HighRecipes$Kind")) (by decide +kernel))
  obtain ⟨a6, g6, r6⟩ := arr_obj (hts (.arrayOver (.object "HighRecipesLaw$Act")) (by decide +kernel))
  obtain ⟨a7, g7, r7⟩ := arr_obj (hts (.arrayOver (.object "HighRecipesLaw$Node")) (by decide +kernel))
  have w8 := hts (.arrayOver (.array .int)) (by decide +kernel)
  have w9 := hts (.arrayOver (.array (.object "HighRecipesLaw$Act"))) (by decide +kernel)
  obtain ⟨a8, g8, r8⟩ := arr_arr w8
  obtain ⟨a9, g9, r9⟩ := arr_arr w9
  obtain ⟨ad, hE, hF, hev⟩ := start_kind hts hn hA
  obtain ⟨aK, aV, hS, hsv⟩ := start_text hn hA
  obtain ⟨t0, e0, hT0⟩ := va_Tof (args := #[Value.ref b]) (s := s) (tm := .static "HighRecipes$Kind" "ALL" "[LHighRecipes$Kind;") (ty := .object "HighRecipes$Kind") (N := 41) (f := fun j => .ref (ad j)) (by decide) (N 1072 _ (by decide +kernel)) (va_eqt (N 2608 _ (by decide +kernel))) (fun j hj => va_eqv (N _ _ (e_ka_ok j hj)) (hev j hj)) hA
  obtain ⟨t1, e1, hT1⟩ := va_Tof (args := #[Value.ref b]) (s := s) (tm := .static "HighRecipes$1" "$SwitchMap$HighRecipes$Kind" "[I") (ty := .int) (N := 41) (f := fun j => .int (q_sw.getD j 0)) (by decide) (N 1408 _ (by decide +kernel)) (va_eqt (N 2944 _ (by decide +kernel))) (fun j hj => va_eqt (N _ _ (e_kz_ok j hj))) hA
  obtain ⟨u0, v0, hU0⟩ := va_Tof (args := #[Value.ref b]) (s := s) (tm := .static "HighRecipesLaw" "MEASURES" "[Ljava/lang/String;") (ty := .object "java/lang/String") (N := 5) (f := fun j => .ref (aK (33 + j))) (by decide) (N 3794 _ (by decide +kernel)) (va_eqt (N 2514 _ (by decide +kernel))) (fun j hj => va_eqv (N _ _ (e_t0_ok j hj)) (hsv (33 + j) (by omega))) hA
  obtain ⟨u1, v1, hU1⟩ := va_Tof (args := #[Value.ref b]) (s := s) (tm := .static "HighRecipesLaw" "CONTENTS" "[Ljava/lang/String;") (ty := .object "java/lang/String") (N := 5) (f := fun j => .ref (aK (38 + j))) (by decide) (N 1330 _ (by decide +kernel)) (va_eqt (N 2866 _ (by decide +kernel))) (fun j hj => va_eqv (N _ _ (e_t1_ok j hj)) (hsv (38 + j) (by omega))) hA
  obtain ⟨u2, v2, hU2⟩ := va_Tof (args := #[Value.ref b]) (s := s) (tm := .static "HighRecipesLaw" "SIGNS" "[Ljava/lang/String;") (ty := .object "java/lang/String") (N := 4) (f := fun j => .ref (aK (43 + j))) (by decide) (N 4018 _ (by decide +kernel)) (va_eqt (N 1138 _ (by decide +kernel))) (fun j hj => va_eqv (N _ _ (e_t2_ok j hj)) (hsv (43 + j) (by omega))) hA
  obtain ⟨u3, v3, hU3⟩ := va_Tof (args := #[Value.ref b]) (s := s) (tm := .static "HighRecipesLaw$Act" "COMPARES" "[Ljava/lang/String;") (ty := .object "java/lang/String") (N := 3) (f := fun j => .ref (aK (47 + j))) (by decide) (N 1266 _ (by decide +kernel)) (va_eqt (N 2802 _ (by decide +kernel))) (fun j hj => va_eqv (N _ _ (e_t3_ok j hj)) (hsv (47 + j) (by omega))) hA
  obtain ⟨d1, dv1, hDg1⟩ := va_Tof (args := #[Value.ref b]) (s := s) (tm := .static "java/lang/Integer" "DigitOnes" "[B") (ty := .byte) (N := 100) (f := fun j => .int (q_d1 j)) (by decide) (N 3668 _ (by decide +kernel)) (va_eqt (N 1364 _ (by decide +kernel))) (fun j hj => va_eqt (N _ _ (e_d1_ok j hj))) hA
  obtain ⟨d10, dv10, hDg10⟩ := va_Tof (args := #[Value.ref b]) (s := s) (tm := .static "java/lang/Integer" "DigitTens" "[B") (ty := .byte) (N := 100) (f := fun j => .int (q_d10 j)) (by decide) (N 3932 _ (by decide +kernel)) (va_eqt (N 1244 _ (by decide +kernel))) (fun j hj => va_eqt (N _ _ (e_d10_ok j hj))) hA
  obtain ⟨s0, x0⟩ := exact_ref (N 1038 (.exactly (.string "HighRecipes" 54) "java/lang/String") (by decide +kernel))
  obtain ⟨s1, x1⟩ := exact_ref (N 3622 (.exactly (.string "HighRecipes" 222) "java/lang/String") (by decide +kernel))
  obtain ⟨s2, x2⟩ := exact_ref (N 1286 (.exactly (.string "HighRecipes" 230) "java/lang/String") (by decide +kernel))
  obtain ⟨s3, x3⟩ := exact_ref (N 1366 (.exactly (.string "HighRecipes" 227) "java/lang/String") (by decide +kernel))
  obtain ⟨F, hFd⟩ : ∃ F : Nat → Nat, F = (fun k => if k < 41 then ad k else if k = 100 then t0 else if k = 101 then t1 else if k = 102 then u0 else if k = 103 then u1 else if k = 104 then u2 else if k = 105 then u3 else if k = 106 then d1 else if k = 107 then d10 else if k = 108 then b else if k = 109 then L else if k < 250 then aK (k - 200) else if k < 350 then aV (k - 300) else if k = 400 then s0 else if k = 401 then s1 else if k = 402 then s2 else s3) := ⟨_, rfl⟩
  have f1 : ∀ i, i < 41 → F i = ad i := fun i hi => by rw [hFd]; exact if_pos hi
  have f2 : ∀ i, i < 50 → F (200 + i) = aK i := fun i hi => by
    rw [hFd]
    show (if 200 + i < 41 then _ else _) = _
    rw [if_neg (by omega), if_neg (by omega), if_neg (by omega), if_neg (by omega), if_neg (by omega), if_neg (by omega), if_neg (by omega), if_neg (by omega), if_neg (by omega), if_neg (by omega), if_neg (by omega), if_pos (by omega), show 200 + i - 200 = i by omega]
  have f3 : ∀ i, i < 50 → F (300 + i) = aV i := fun i hi => by
    rw [hFd]
    show (if 300 + i < 41 then _ else _) = _
    rw [if_neg (by omega), if_neg (by omega), if_neg (by omega), if_neg (by omega), if_neg (by omega), if_neg (by omega), if_neg (by omega), if_neg (by omega), if_neg (by omega), if_neg (by omega), if_neg (by omega), if_neg (by omega), if_pos (by omega), show 300 + i - 300 = i by omega]
  have f100 : F 100 = t0 := by rw [hFd]; rfl
  have f101 : F 101 = t1 := by rw [hFd]; rfl
  have f102 : F 102 = u0 := by rw [hFd]; rfl
  have f103 : F 103 = u1 := by rw [hFd]; rfl
  have f104 : F 104 = u2 := by rw [hFd]; rfl
  have f105 : F 105 = u3 := by rw [hFd]; rfl
  have f106 : F 106 = d1 := by rw [hFd]; rfl
  have f107 : F 107 = d10 := by rw [hFd]; rfl
  have f108 : F 108 = b := by rw [hFd]; rfl
  have f109 : F 109 = L := by rw [hFd]; rfl
  have f400 : F 400 = s0 := by rw [hFd]; rfl
  have f401 : F 401 = s1 := by rw [hFd]; rfl
  have f402 : F 402 = s2 := by rw [hFd]; rfl
  have f403 : F 403 = s3 := by rw [hFd]; rfl
  refine ⟨(D, fun k => if k = 0 then a0 else if k = 1 then a1 else if k = 2 then a2 else if k = 3 then a3 else if k = 4 then a4 else if k = 5 then a5 else if k = 6 then a6 else if k = 7 then a7 else if k = 8 then a8 else a9, s.heap.size, F), rfl, f108, ⟨hD, ?_⟩, Nat.le_refl _, ?_, ?_⟩
  · intro k q hq
    match k, hq with
    | 0, hq => cases hq; exact ⟨g0, r0⟩
    | 1, hq => cases hq; exact ⟨g1, r1⟩
    | 2, hq => cases hq; exact ⟨g2, r2⟩
    | 3, hq => cases hq; exact ⟨g3, r3⟩
    | 4, hq => cases hq; exact ⟨g4, r4⟩
    | 5, hq => cases hq; exact ⟨g5, r5⟩
    | 6, hq => cases hq; exact ⟨g6, r6⟩
    | 7, hq => cases hq; exact ⟨g7, r7⟩
    | 8, hq => cases hq; exact ⟨g8, r8⟩
    | 9, hq => cases hq; exact ⟨g9, r9⟩
    | k + 10, hq => simp [q_tys] at hq
  · refine ⟨⟨fun i hi => ?_, fun i j hi hj e => ?_⟩, fun i hi => ?_, ⟨?_, ?_⟩, ⟨?_, ?_⟩, ⟨⟨?_, ?_⟩, ⟨?_, ?_⟩, ⟨?_, ?_⟩, ⟨?_, ?_⟩⟩, ⟨fun i hi => ?_, trivial⟩, ⟨?_, ?_⟩, ?_, ?_, ⟨?_, ?_⟩, ⟨?_, ?_⟩, ?_, xs, ?_⟩
    · show va_Z _ _ _ (.ref (F i)) _ _ _ ∧ va_O _ (F i) _ _ _ ∧ ∀ q : String × String × String × List Int32, q ∈ _ → va_OF q.1 q.2.1 q.2.2.1 (.int (q.2.2.2.getD i 0)) (F i) _ _ _
      rw [f1 i hi]
      exact hE.1 i hi
    · have e : F i = F j := e
      rw [f1 i hi, f1 j hj] at e
      exact hE.2 i j hi hj e
    · show va_OF _ _ _ _ (F i) _ _ _
      rw [f1 i hi]
      exact hF i hi
    · show va_Z _ _ _ (.ref (F 100)) _ _ _
      rw [f100]
      exact va_Zref (hts _ (by decide +kernel)) (hts _ (by decide +kernel)) e0 hA
    · show va_T _ (F 100) _ (fun j => .ref (F j)) _ _ _
      rw [f100]
      exact va_Tcg hT0 (fun j hj => by rw [f1 j hj])
    · show va_Z _ _ _ (.ref (F 101)) _ _ _
      rw [f101]
      exact va_Zref (hts _ (by decide +kernel)) (hts _ (by decide +kernel)) e1 hA
    · show va_T _ (F 101) _ _ _ _ _
      rw [f101]
      exact hT1
    · show va_Z _ _ _ (.ref (F 102)) _ _ _
      rw [f102]
      exact va_Zref (hts _ (by decide +kernel)) (hts _ (by decide +kernel)) v0 hA
    · show va_T _ (F 102) _ (fun j => .ref (F (200 + (33 + j)))) _ _ _
      rw [f102]
      exact va_Tcg hU0 (fun j hj => by rw [f2 (33 + j) (by omega)])
    · show va_Z _ _ _ (.ref (F 103)) _ _ _
      rw [f103]
      exact va_Zref (hts _ (by decide +kernel)) (hts _ (by decide +kernel)) v1 hA
    · show va_T _ (F 103) _ (fun j => .ref (F (200 + (38 + j)))) _ _ _
      rw [f103]
      exact va_Tcg hU1 (fun j hj => by rw [f2 (38 + j) (by omega)])
    · show va_Z _ _ _ (.ref (F 104)) _ _ _
      rw [f104]
      exact va_Zref (hts _ (by decide +kernel)) (hts _ (by decide +kernel)) v2 hA
    · show va_T _ (F 104) _ (fun j => .ref (F (200 + (43 + j)))) _ _ _
      rw [f104]
      exact va_Tcg hU2 (fun j hj => by rw [f2 (43 + j) (by omega)])
    · show va_Z _ _ _ (.ref (F 105)) _ _ _
      rw [f105]
      exact va_Zref (hts _ (by decide +kernel)) (hts _ (by decide +kernel)) v3 hA
    · show va_T _ (F 105) _ (fun j => .ref (F (200 + (47 + j)))) _ _ _
      rw [f105]
      exact va_Tcg hU3 (fun j hj => by rw [f2 (47 + j) (by omega)])
    · show va_O _ (F (200 + i)) _ _ _ ∧ va_OF _ _ _ _ (F (200 + i)) _ _ _ ∧ va_OF _ _ _ (.ref (F (300 + i))) (F (200 + i)) _ _ _ ∧ va_T _ (F (300 + i)) _ _ _ _ _
      rw [f2 i hi, f3 i hi]
      exact hS i hi
    · exact vx_Zqof (hts _ (by decide +kernel)) (hts _ (by decide +kernel)) (N 1152 _ (by decide +kernel)) hA
    · exact vx_Zqof (hts _ (by decide +kernel)) (hts _ (by decide +kernel)) (N 2688 _ (by decide +kernel)) hA
    · exact va_Zof (hts _ (by decide +kernel)) (hts _ (by decide +kernel)) (va_eqt (N 3664 _ (by decide +kernel))) hA
    · exact va_Zqof (hts _ (by decide +kernel)) (hts _ (by decide +kernel)) (N 1360 _ (by decide +kernel)) hA
    · show va_Z _ _ _ (.ref (F 106)) _ _ _
      rw [f106]
      exact va_Zref (hts _ (by decide +kernel)) (hts _ (by decide +kernel)) dv1 hA
    · show va_T _ (F 106) _ _ _ _ _
      rw [f106]
      exact hDg1
    · show va_Z _ _ _ (.ref (F 107)) _ _ _
      rw [f107]
      exact va_Zref (hts _ (by decide +kernel)) (hts _ (by decide +kernel)) dv10 hA
    · show va_T _ (F 107) _ _ _ _ _
      rw [f107]
      exact hDg10
    · show F 109 ≤ 260
      rw [f109]
      exact hL
    · show va_T _ (F 108) (F 109) _ _ _ _
      rw [f108, f109]
      exact scr_T hX hA
  · refine ⟨fun q hq => va_Nw.of rfl (hts _ (e_fn_ok q hq)), fun q hq => va_Nw.of rfl (hts _ (e_mn_ok q hq)), fun q hq => va_Nw.of rfl (hts _ (e_dc_ok q hq)), fun q hq => va_Nw.of rfl (hts _ (e_ca_ok q hq)), fun q hq => va_AO.of (hts _ (e_ao_ok q hq)), ?_, ?_, ?_, ?_, fun i hi => ?_, va_AA.of w8, va_AA.of w9⟩
    · show vk_R _ _ _ (F 400) _
      rw [f400]
      exact vk_R.of (hts _ (by decide +kernel)) x0
    · show vk_R _ _ _ (F 401) _
      rw [f401]
      exact vk_R.of (hts _ (by decide +kernel)) x1
    · show vk_R _ _ _ (F 402) _
      rw [f402]
      exact vk_R.of (hts _ (by decide +kernel)) x2
    · show vk_R _ _ _ (F 403) _
      rw [f403]
      exact vk_R.of (hts _ (by decide +kernel)) x3
    · show vk_R _ _ _ (F (200 + i)) _
      rw [f2 i hi]
      exact vk_R.of (hts _ (e_sr_ok i hi)) (hsv i hi)
