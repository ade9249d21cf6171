/-! what stands at the law's start: constants, their arrays, texts -/
/-- a premise by its place among the premises -/
def at8 : Nat → Nat → Cond → Option Cond
  | 0, _, _ => none
  | k + 1, n, T => if n = 1 then some T else match T with
    | .and x y => at8 k (n / 2) (if n % 2 = 1 then y else x)
    | _ => none
theorem and_b {args : Array Value} {s : State} {x y : Cond} (h : (Cond.and x y).before args s = true) : x.before args s = true ∧ y.before args s = true := by
  rw [Cond.before_and, Bool.and_eq_true] at h
  exact h
theorem at8_b {args : Array Value} {s : State} : ∀ (k n : Nat) (T c : Cond), at8 k n T = some c → T.before args s = true → c.before args s = true
  | 0, _, _, _, h, _ => by cases h
  | k + 1, n, T, c, h, hb => by
    unfold at8 at h
    split at h
    · cases h; exact hb
    · split at h
      · next x y _ =>
        refine at8_b k _ _ c h ?_
        obtain ⟨h1, h2⟩ := and_b hb
        split
        · exact h2
        · exact h1
      · cases h

def e_kx : List Nat := [1384, 2024, 1368, 696, 1308, 1948, 1994, 1400, 682, 2040, 1386, 1412, 1860, 548, 1444, 1892, 532, 650, 1354, 610, 1506, 1810, 594, 1490, 1980, 732, 1340, 2008, 1826, 664, 1842, 626, 1522, 764, 770, 578, 1474, 1992, 680, 640, 1344]
def e_ko : List Nat := [1896, 536, 1880, 1464, 1820, 604, 554, 1912, 1450, 516, 1898, 1924, 708, 1316, 1956, 740, 1300, 1418, 1866, 1378, 2018, 658, 1362, 2002, 636, 1500, 1852, 568, 674, 1432, 690, 1394, 2034, 1532, 642, 1346, 1986, 552, 1448, 1408, 1856]
def e_ks : List Nat := [1512, 1816, 1496, 632, 1436, 1884, 1834, 1528, 618, 644, 1514, 1348, 1988, 676, 1380, 2020, 660, 586, 1482, 738, 1298, 1938, 722, 1330, 1916, 572, 1468, 1848, 1954, 600, 1970, 754, 778, 514, 1922, 706, 1314, 1832, 616, 576, 1472]
def e_kw : List Nat := [744, 1304, 728, 1976, 668, 1372, 1322, 760, 1962, 772, 746, 580, 1476, 1828, 612, 1508, 1812, 1930, 714, 1890, 530, 1426, 1874, 562, 1404, 2012, 700, 1336, 1442, 1944, 1458, 1906, 522, 2044, 1410, 1858, 546, 1320, 1960, 1920, 704]
def e_ka : List Nat := [1440, 1952, 608, 1376, 1888, 736, 1504, 2016, 528, 784, 656, 1424, 1936, 592, 1360, 1872, 720, 1488, 2000, 560, 1328, 1840, 688, 1456, 1968, 624, 1392, 1904, 752, 1520, 2032, 520, 776, 648, 1416, 1928, 584, 1352, 1864, 712, 1480]
def e_kz : List Nat := [1364, 1876, 724, 1492, 2004, 564, 1332, 1844, 692, 1460, 1972, 628, 1396, 1908, 756, 1524, 2036, 524, 780, 652, 1420, 1932, 588, 1356, 1868, 716, 1484, 1996, 556, 1324, 1836, 684, 1452, 1964, 620, 1388, 1900, 748, 1516, 2028, 540]
def e_kd : List Nat := [1434, 1946, 602, 1370, 1882, 730, 1498, 2010, 570, 1338, 1850, 698, 1466, 1978, 634, 1402, 1914, 762, 1530, 2042, 518, 774, 646, 1414, 1926, 582, 1350]
def e_sx : List Nat := [1869, 685, 541, 1501, 637, 1411, 547, 1891, 1427, 1491, 627, 779, 1995, 1387, 667, 2011, 1915, 647, 1479, 615, 599, 1975, 1423, 1455, 1311, 1375, 703]
def e_sc : List Nat := [717, 1453, 1309, 2013, 1405, 1923, 1315, 739, 1939, 2003, 1395, 651, 555, 1899, 1435, 571, 763, 1415, 1991, 1383, 1367, 631, 1935, 1967, 1823, 1887, 1471]
def e_sa : List Nat := [1485, 1965, 1821, 573, 1917, 579, 1827, 1507, 595, 563, 1907, 1419, 1323, 747, 1947, 1339, 1531, 1927, 551, 1895, 1879, 1399, 591, 623, 671, 735, 1983]
def e_sl : List Nat := [1997, 621, 669, 1341, 765, 1347, 675, 2019, 1363, 1331, 755, 1931, 1835, 1515, 603, 1851, 2043, 583, 1319, 743, 727, 1911, 1359, 1391, 1439, 1503, 639]
def e_sb : List (List Nat) := [[557, 1325, 1837], [1389, 1901, 749, 1517, 2029], [1437, 1949, 605, 1373, 1885, 733], [1853, 701, 1469, 1981], [1533, 2045, 515, 771, 643], [1859, 707, 1475, 1987], [1443, 1955, 611, 1379], [531, 1299, 1811, 659], [1875, 723], [1843, 691, 1459, 1971], [1523, 2035, 523], [587, 1355, 1867, 715, 1483], [683, 1451, 1963, 619], [2027, 539, 1307, 1819], [1371, 1883, 731, 1499], [699, 1467, 1979, 635, 1403], [519, 775], [1351, 1863, 711], [1831, 679, 1447, 1959], [1511, 2023, 535, 1303, 1815, 663, 1431, 1943], [1495, 2007, 567, 1335, 1847, 695, 1463], [759, 1527, 2039, 527, 783, 655], [1871, 719, 1487, 1999, 559, 1327, 1839, 687], [1903, 751, 1519, 2031, 543], [1951, 607], [2015, 575, 1343, 1855], [1407, 1919, 767, 1535]]
theorem e_kx_ok : ∀ i, i < 41 → at8 12 (e_kx.getD i 0) narrow_1 = some (.exactly (.static "HighRecipes$Kind" (q_nm.getD i "") "LHighRecipes$Kind;") "HighRecipes$Kind") := by decide +kernel
theorem e_ko_ok : ∀ i, i < 41 → at8 12 (e_ko.getD i 0) narrow_1 = some (.eq (.field (.static "HighRecipes$Kind" (q_nm.getD i "") "LHighRecipes$Kind;") "java/lang/Enum" "ordinal" "I") (.int (q_ord.getD i 0))) := by decide +kernel
theorem e_ks_ok : ∀ i, i < 41 → at8 12 (e_ks.getD i 0) narrow_1 = some (.eq (.field (.static "HighRecipes$Kind" (q_nm.getD i "") "LHighRecipes$Kind;") "HighRecipes$Kind" "sign" "I") (.int (q_sig.getD i 0))) := by decide +kernel
theorem e_kw_ok : ∀ i, i < 41 → at8 12 (e_kw.getD i 0) narrow_1 = some (.eq (.field (.static "HighRecipes$Kind" (q_nm.getD i "") "LHighRecipes$Kind;") "HighRecipes$Kind" "word" "J") (.long (q_wrd.getD i 0))) := by decide +kernel
theorem e_ka_ok : ∀ i, i < 41 → at8 12 (e_ka.getD i 0) narrow_1 = some (.eq (.elem (.static "HighRecipes$Kind" "ALL" "[LHighRecipes$Kind;") (.int (Int32.ofNat i))) (.static "HighRecipes$Kind" (q_nm.getD i "") "LHighRecipes$Kind;")) := by decide +kernel
theorem e_kz_ok : ∀ i, i < 41 → at8 12 (e_kz.getD i 0) narrow_1 = some (.eq (.elem (.static "HighRecipes$1" "$SwitchMap$HighRecipes$Kind" "[I") (.int (Int32.ofNat i))) (.int (q_sw.getD i 0))) := by decide +kernel
theorem e_kd_ok : ∀ i, i < 27 → at8 12 (e_kd.getD i 0) narrow_1 = some (.eq (.elem (.static "HighRecipesModel" "WORDS" "[Ljava/lang/String;") (.int (Int32.ofNat i))) (.string "HighRecipesModel" (q_txn.getD i 0))) := by decide +kernel
theorem e_sx_ok : ∀ i, i < 27 → at8 12 (e_sx.getD i 0) narrow_1 = some (.exactly (.string "HighRecipesModel" (q_txn.getD i 0)) "java/lang/String") := by decide +kernel
theorem e_sc_ok : ∀ i, i < 27 → at8 12 (e_sc.getD i 0) narrow_1 = some (.eq (.field (.string "HighRecipesModel" (q_txn.getD i 0)) "java/lang/String" "coder" "B") (.int 0)) := by decide +kernel
theorem e_sa_ok : ∀ i, i < 27 → at8 12 (e_sa.getD i 0) narrow_1 = some (.arrayOf (.field (.string "HighRecipesModel" (q_txn.getD i 0)) "java/lang/String" "value" "[B") .byte) := by decide +kernel
theorem e_sl_ok : ∀ i, i < 27 → at8 12 (e_sl.getD i 0) narrow_1 = some (.eq (.length (.field (.string "HighRecipesModel" (q_txn.getD i 0)) "java/lang/String" "value" "[B")) (.int (Int32.ofNat (q_len.getD i 0)))) := by decide +kernel
theorem e_sb_ok : ∀ i, i < 27 → ∀ j, j < q_len.getD i 0 → at8 12 ((e_sb.getD i []).getD j 0) narrow_1 = some (.eq (.elem (.field (.string "HighRecipesModel" (q_txn.getD i 0)) "java/lang/String" "value" "[B") (.int (Int32.ofNat j))) (.int ((q_byt.getD i []).getD j 0))) := by decide +kernel
theorem e_kl_ok : ∀ i, i < 41 → Cond.laysStatic "HighRecipes$Kind" (q_nm.getD i "") "LHighRecipes$Kind;" ∈ lw_tbl := by decide +kernel
theorem e_len : ∀ i, i < 27 → q_len.getD i 0 < 2 ^ 31 := by decide +kernel
theorem e_ne : ∀ i, i < 27 → ∀ j, j < 27 → q_len.getD i 0 = q_len.getD j 0 → (∀ k, k < q_len.getD i 0 → (q_byt.getD i []).getD k 0 = (q_byt.getD j []).getD k 0) → i = j := by decide +kernel
theorem e_or : ∀ i, i < 41 → ∀ j, j < 41 → q_ord.getD i 0 = q_ord.getD j 0 → i = j := by decide +kernel
theorem e_fn_ok : ∀ q ∈ q_fn, Cond.fieldLinkNest q.1 q.2.1 q.2.2.1 q.2.2.2.1 q.2.2.2.2.1 q.2.2.2.2.2 ∈ lw_tbl := by decide +kernel
theorem e_mn_ok : ∀ q ∈ q_mn, Cond.methodLinkNest q.1 q.2.1 q.2.2.1 q.2.2.2 ∈ lw_tbl := by decide +kernel
theorem e_dc_ok : ∀ q ∈ q_dc, Cond.declares q ∈ lw_tbl := by decide +kernel
theorem e_ca_ok : ∀ q ∈ q_ca, Cond.castable q.1 q.2 ∈ lw_tbl := by decide +kernel
theorem e_ao_ok : ∀ q ∈ q_ao, Cond.arrayOver (.object q) ∈ lw_tbl := by decide +kernel
theorem va_Tcg {ty : FieldType} {t N : Nat} {f f' : Nat → Value} {A : Nat → Prop} {U : State} {H : Heap} (h : va_T ty t N f A U H) (e : ∀ j, j < N → f' j = f j) : va_T ty t N f' A U H := by
  obtain ⟨cell, h1, h2, h3, h4, h5, h6, h7⟩ := h
  exact ⟨cell, h1, h2, h3, h4, h5, fun j hj => (h6 j hj).trans (congrArg some (e j hj).symm), h7⟩
/-- one field, one cell: one value -/
theorem va_OF.one {o n d : String} {v w : Value} {t : Nat} {A : Nat → Prop} {U : State} {H : Heap} (h1 : va_OF o n d v t A U H) (h2 : va_OF o n d w t A U H) : v = w := by
  obtain ⟨cf, k, i, f, cell, a1, -, a3, -, a5, -⟩ := h1
  obtain ⟨cf', k', i', f', cell', b1, -, b3, -, b5, -⟩ := h2
  have e1 := a1.symm.trans b1
  have e3 := a3.symm.trans b3
  simp only [Option.some.injEq, Prod.mk.injEq] at e1 e3
  obtain ⟨-, -, -, e1⟩ := e1
  subst e1 e3
  exact Option.some.inj (a5.symm.trans b5)
theorem va_T.one {ty : FieldType} {t N M : Nat} {f g : Nat → Value} {A : Nat → Prop} {U : State} {H : Heap} (hN : N < 2 ^ 31) (hM : M < 2 ^ 31) (h1 : va_T ty t N f A U H) (h2 : va_T ty t M g A U H) : N = M ∧ ∀ j, j < N → f j = g j := by
  obtain ⟨cell, a1, -, -, a4, a5, a6, -⟩ := h1
  obtain ⟨cell', b1, -, -, b4, b5, b6, -⟩ := h2
  have e := Option.some.inj (a1.symm.trans b1)
  subst e
  have e2 : Int32.ofNat N = Int32.ofNat M := a5.symm.trans b5
  have e3 : N = M := (nI_eq (a := N) (b := M) hN hM).1 e2
  subst e3
  exact ⟨rfl, fun j hj => Option.some.inj ((a6 j hj).symm.trans (b6 j hj))⟩
theorem exact_ref {args : Array Value} {s : State} {t : Term} {C : String} (h : (Cond.exactly t C).before args s = true) : ∃ a : Nat, t.eval args s none [] s = some (.ref a) := by
  obtain ⟨a, c, cell, k, q1, -⟩ := Cond.exactly_spec h
  exact ⟨a, q1⟩
/-- an array class, by its word -/
theorem arr_prim {args : Array Value} {s : State} {ty : FieldType} (hno : ∀ C, ty ≠ .object C) (h : (Cond.arrayClass ty).before args s = true) : ∃ cA : ClassId, ArrOfT s cA ty ∧ va_RA s cA ty := by
  obtain ⟨c, k, comp, h1, h2, h3⟩ := Cond.arrayClass_spec h
  refine ⟨c, fun n z => ⟨fun k h => (by cases h), k, h2, comp, h3⟩, ?_⟩
  cases ty with
  | object C => exact absurd rfl (hno C)
  | _ => exact h1
theorem arr_obj {args : Array Value} {s : State} {C : String} (h : (Cond.arrayOver (.object C)).before args s = true) : ∃ cA : ClassId, ArrOfT s cA (.object C) ∧ va_RA s cA (.object C) := by
  obtain ⟨comp, c, k, f1, f2, f3, f4, f5⟩ := Cond.arrayOver_spec h
  exact ⟨c, fun n z => ⟨fun k h => (by cases h), k, f3, comp, f4⟩, ⟨k, comp, f3, f4, f1, f5⟩⟩

theorem start_K {b : Addr} {s : State} (hts : ∀ w ∈ lw_tbl, w.before #[Value.ref b] s = true) : ∃ (D : va_G), ∀ (k : Nat) (q : vw_C), vwCl[k]? = some q → u_Kn s q.1 q.2.1 q.2.2 (D.1 k) (D.2 k) := by
  obtain ⟨c0, n0, h0⟩ := u_known (C := RX1) (T := TX1) (N := 9) (n := 9) hts lawx_wsX10 (hts (.instantiable RX1 9) (by decide +kernel))
  obtain ⟨c1, n1, h1⟩ := u_known (C := RX2) (T := TX2) (N := 7) (n := 7) hts lawx_wsX20 (hts (.instantiable RX2 7) (by decide +kernel))
  obtain ⟨c2, n2, h2⟩ := u_known (C := RX3) (T := TX3) (N := 3) (n := 3) hts lawx_wsX30 (hts (.instantiable RX3 3) (by decide +kernel))
  obtain ⟨c3, n3, h3⟩ := u_known (C := RX4) (T := TX4) (N := 2) (n := 2) hts lawx_wsX40 (hts (.instantiable RX4 2) (by decide +kernel))
  obtain ⟨c4, n4, h4⟩ := u_known (C := RX6) (T := TX6) (N := 9) (n := 9) hts lawx_wsX60 (hts (.instantiable RX6 9) (by decide +kernel))
  obtain ⟨c5, n5, h5⟩ := u_known (C := RX7) (T := TX7) (N := 5) (n := 5) hts lawx_wsX70 (hts (.instantiable RX7 5) (by decide +kernel))
  obtain ⟨c6, n6, h6⟩ := u_known (C := RX8) (T := TX8) (N := 4) (n := 4) hts lawx_wsX80 (hts (.instantiable RX8 4) (by decide +kernel))
  obtain ⟨c7, n7, h7⟩ := u_known (C := RX9) (T := TX9) (N := 2) (n := 2) hts lawx_wsX90 (hts (.instantiable RX9 2) (by decide +kernel))
  obtain ⟨c8, n8, h8⟩ := u_known (C := RX10) (T := TX10) (N := 6) (n := 6) hts lawx_wsX100 (hts (.instantiable RX10 6) (by decide +kernel))
  obtain ⟨c9, n9, h9⟩ := u_known (C := RX11) (T := TX11) (N := 5) (n := 5) hts lawx_wsX110 (hts (.instantiable RX11 5) (by decide +kernel))
  obtain ⟨c10, n10, h10⟩ := u_known (C := RX12) (T := TX12) (N := 7) (n := 7) hts lawx_wsX120 (hts (.instantiable RX12 7) (by decide +kernel))
  obtain ⟨c11, n11, h11⟩ := u_known (C := RX13) (T := TX13) (N := 21) (n := 21) hts lawx_wsX130 (hts (.instantiable RX13 21) (by decide +kernel))
  obtain ⟨c12, n12, h12⟩ := u_known (C := RX14) (T := TX14) (N := 23) (n := 23) hts lawx_wsX140 (hts (.instantiable RX14 23) (by decide +kernel))
  refine ⟨(fun k => if k = 0 then c0 else if k = 1 then c1 else if k = 2 then c2 else if k = 3 then c3 else if k = 4 then c4 else if k = 5 then c5 else if k = 6 then c6 else if k = 7 then c7 else if k = 8 then c8 else if k = 9 then c9 else if k = 10 then c10 else if k = 11 then c11 else c12, fun k => if k = 0 then n0 else if k = 1 then n1 else if k = 2 then n2 else if k = 3 then n3 else if k = 4 then n4 else if k = 5 then n5 else if k = 6 then n6 else if k = 7 then n7 else if k = 8 then n8 else if k = 9 then n9 else if k = 10 then n10 else if k = 11 then n11 else n12), ?_⟩
  intro k q hq
  match k, hq with
  | 0, hq => cases hq; exact h0
  | 1, hq => cases hq; exact h1
  | 2, hq => cases hq; exact h2
  | 3, hq => cases hq; exact h3
  | 4, hq => cases hq; exact h4
  | 5, hq => cases hq; exact h5
  | 6, hq => cases hq; exact h6
  | 7, hq => cases hq; exact h7
  | 8, hq => cases hq; exact h8
  | 9, hq => cases hq; exact h9
  | 10, hq => cases hq; exact h10
  | 11, hq => cases hq; exact h11
  | 12, hq => cases hq; exact h12
  | k + 13, hq => simp [vwCl] at hq

set_option maxHeartbeats 2000000 in
theorem start_kind {b : Addr} {s : State} (hts : ∀ w ∈ lw_tbl, w.before #[Value.ref b] s = true) (hn : narrow_1.before #[Value.ref b] s = true) {A : Nat → Prop} (hA : ∀ a : Nat, a < s.heap.size → ¬ A a) : ∃ ad : Nat → Nat, va_En "HighRecipes$Kind" "LHighRecipes$Kind;" q_nm [("java/lang/Enum", "ordinal", "I", q_ord), ("HighRecipes$Kind", "sign", "I", q_sig)] ad A s s.heap ∧ va_Ef 41 "HighRecipes$Kind" "word" "J" (fun i => .long (q_wrd.getD i 0)) ad A s s.heap ∧ ∀ i, i < 41 → (Term.static "HighRecipes$Kind" (q_nm.getD i "") "LHighRecipes$Kind;").eval #[Value.ref b] s none [] s = some (.ref (ad i)) := by
  have N := fun (i : Nat) (c : Cond) (h : at8 12 i narrow_1 = some c) => at8_b 12 i narrow_1 c h hn
  have hini : (Cond.initialized "HighRecipes$Kind").before #[Value.ref b] s = true := hts _ (by decide +kernel)
  have h0 : ∀ i : Nat, ∃ t : Nat, i < 41 → (Term.static "HighRecipes$Kind" (q_nm.getD i "") "LHighRecipes$Kind;").eval #[Value.ref b] s none [] s = some (.ref t) ∧ va_Z "HighRecipes$Kind" (q_nm.getD i "") "LHighRecipes$Kind;" (.ref t) A s s.heap ∧ va_O "HighRecipes$Kind" t A s s.heap ∧ va_OF "java/lang/Enum" "ordinal" "I" (.int (q_ord.getD i 0)) t A s s.heap ∧ va_OF "HighRecipes$Kind" "sign" "I" (.int (q_sig.getD i 0)) t A s s.heap := by
    intro i
    by_cases hi : i < 41
    · obtain ⟨ad, he, hv⟩ := va_Enof2 (args := #[Value.ref b]) (s := s) (E := "HighRecipes$Kind") (d := "LHighRecipes$Kind;") (nm := [q_nm.getD i ""]) (F := [("java/lang/Enum", "ordinal", "I", [q_ord.getD i 0]), ("HighRecipes$Kind", "sign", "I", [q_sig.getD i 0])]) (A := A)
        (fun j hj => by obtain rfl : j = 0 := by simpa using hj
                        exact hts _ (e_kl_ok i hi)) hini
        (fun j hj => by obtain rfl : j = 0 := by simpa using hj
                        exact N _ _ (e_kx_ok i hi))
        (fun q hq j hj => by
          obtain rfl : j = 0 := by simpa using hj
          rcases List.mem_cons.mp hq with rfl | hq
          · exact N _ _ (e_ko_ok i hi)
          · rw [List.mem_singleton.mp hq]
            exact N _ _ (e_ks_ok i hi))
        (fun j k hj hk hjk => by
          obtain rfl : j = 0 := by simpa using hj
          obtain rfl : k = 0 := by simpa using hk
          exact absurd rfl hjk) hA
      have z := he.1 0 Nat.zero_lt_one
      exact ⟨ad 0, fun _ => ⟨hv 0 Nat.zero_lt_one, z.1, z.2.1, z.2.2 _ List.mem_cons_self, z.2.2 _ (List.mem_cons_of_mem _ List.mem_cons_self)⟩⟩
    · exact ⟨0, fun h => absurd h hi⟩
  obtain ⟨ad, had⟩ := Classical.axiomOfChoice h0
  refine ⟨ad, ⟨fun i hi => ⟨(had i hi).2.1, (had i hi).2.2.1, fun q hq => ?_⟩, fun i j hi hj e => ?_⟩, ?_, fun i hi => (had i hi).1⟩
  · rcases List.mem_cons.mp hq with rfl | hq
    · exact (had i hi).2.2.2.1
    · rw [List.mem_singleton.mp hq]
      exact (had i hi).2.2.2.2
  · have a1 := (had i hi).2.2.2.1
    rw [e] at a1
    have a2 := va_OF.one a1 (had j hj).2.2.2.1
    exact e_or i hi j hj (by injection a2)
  · exact va_Efof (args := #[Value.ref b]) (s := s) (N := 41) (E := "HighRecipes$Kind") (d0 := "LHighRecipes$Kind;") (nm := q_nm) (v := fun i => .long (q_wrd.getD i 0)) (tm := fun i => .long (q_wrd.getD i 0)) (fun i hi => (had i hi).1) (fun i hi => N _ _ (e_kw_ok i hi)) (fun i hi => rfl) hA


set_option maxHeartbeats 2000000 in
theorem start_text {b : Addr} {s : State} (hn : narrow_1.before #[Value.ref b] s = true) {A : Nat → Prop} (hA : ∀ a : Nat, a < s.heap.size → ¬ A a) : ∃ adK adV : Nat → Nat, vk_S 27 q_len q_byt adK adV A s s.heap ∧ ∀ i, i < 27 → (Term.string "HighRecipesModel" (q_txn.getD i 0)).eval #[Value.ref b] s none [] s = some (.ref (adK i)) := by
  have N := fun (i : Nat) (c : Cond) (h : at8 12 i narrow_1 = some c) => at8_b 12 i narrow_1 c h hn
  have h0 : ∀ i : Nat, ∃ q : Nat × Nat, i < 27 → (Term.string "HighRecipesModel" (q_txn.getD i 0)).eval #[Value.ref b] s none [] s = some (.ref q.1) ∧ va_O "java/lang/String" q.1 A s s.heap ∧ va_OF "java/lang/String" "coder" "B" (.int 0) q.1 A s s.heap ∧ va_OF "java/lang/String" "value" "[B" (.ref q.2) q.1 A s s.heap ∧ va_T .byte q.2 (q_len.getD i 0) (fun j => .int ((q_byt.getD i []).getD j 0)) A s s.heap := by
    intro i
    by_cases hi : i < 27
    · obtain ⟨adK, adV, he, hv⟩ := vk_Sof (args := #[Value.ref b]) (s := s) (N := 1) (tm := fun _ => .string "HighRecipesModel" (q_txn.getD i 0)) (len := [q_len.getD i 0]) (byt := [q_byt.getD i []]) (A := A)
        (fun j hj => by obtain rfl : j = 0 := by omega
                        exact e_len i hi)
        (fun j hj => N _ _ (e_sx_ok i hi)) (fun j hj => N _ _ (e_sc_ok i hi)) (fun j hj => N _ _ (e_sa_ok i hi))
        (fun j hj => by obtain rfl : j = 0 := by omega
                        exact N _ _ (e_sl_ok i hi))
        (fun j hj k hk => by obtain rfl : j = 0 := by omega
                             exact N _ _ (e_sb_ok i hi k hk))
        (fun j k hj hk hjk => absurd (by omega) hjk) hA
      have z := he.1 0 Nat.zero_lt_one
      exact ⟨(adK 0, adV 0), fun _ => ⟨hv 0 Nat.zero_lt_one, z.1, z.2.1, z.2.2.1, z.2.2.2⟩⟩
    · exact ⟨(0, 0), fun h => absurd h hi⟩
  obtain ⟨ad, had⟩ := Classical.axiomOfChoice h0
  refine ⟨fun i => (ad i).1, fun i => (ad i).2, ⟨fun i hi => (had i hi).2, fun i j hi hj e => ?_⟩, fun i hi => (had i hi).1⟩
  have a1 := (had i hi).2.2.2.1
  have e : (ad i).1 = (ad j).1 := e
  rw [e] at a1
  have a2 := va_OF.one a1 (had j hj).2.2.2.1
  have a3 : (ad i).2 = (ad j).2 := by injection a2
  have b1 := (had i hi).2.2.2.2
  rw [a3] at b1
  obtain ⟨c1, c2⟩ := va_T.one (e_len i hi) (e_len j hj) b1 (had j hj).2.2.2.2
  exact e_ne i hi j hj c1 (fun k hk => by have := c2 k hk; injection this)


set_option maxHeartbeats 4000000 in
/-- the constants' addresses, and all that the class and the reference take as given -/
theorem start_A {b : Addr} {s : State} (hts : ∀ w ∈ lw_tbl, w.before #[Value.ref b] s = true) (hn : narrow_1.before #[Value.ref b] s = true) : ∃ E : q_E, E.2.2.1 = s.heap.size ∧ q_A E s ∧ va_Nc "java/lang/IllegalArgumentException" "java/lang/IndexOutOfBoundsException" s := by
  have N := fun (i : Nat) (c : Cond) (h : at8 12 i narrow_1 = some c) => at8_b 12 i narrow_1 c h hn
  have hA : ∀ a : Nat, a < s.heap.size → ¬ (fun q : Nat => s.heap.size ≤ q) a := fun a h => Nat.not_le.mpr h
  obtain ⟨D, hD⟩ := start_K hts
  obtain ⟨a0, g0, r0⟩ := arr_prim (ty := .int) (fun _ h => by cases h) (hts (.arrayClass .int) (by decide +kernel))
  obtain ⟨a1, g1, r1⟩ := arr_prim (ty := .long) (fun _ h => by cases h) (hts (.arrayClass .long) (by decide +kernel))
  obtain ⟨a2, g2, r2⟩ := arr_prim (ty := .byte) (fun _ h => by cases h) (hts (.arrayClass .byte) (by decide +kernel))
  obtain ⟨a3, g3, r3⟩ := arr_obj (hts (.arrayOver (.object "HighRecipes$Act")) (by decide +kernel))
  obtain ⟨a4, g4, r4⟩ := arr_obj (hts (.arrayOver (.object "HighRecipes$Pan")) (by decide +kernel))
  obtain ⟨a5, g5, r5⟩ := arr_obj (hts (.arrayOver (.object "HighRecipes$Kind")) (by decide +kernel))
  obtain ⟨ad, hE, hF, hev⟩ := start_kind hts hn hA
  obtain ⟨aK, aV, hS, hsv⟩ := start_text hn hA
  obtain ⟨t0, e0, hT0⟩ := va_Tof (args := #[Value.ref b]) (s := s) (tm := .static "HighRecipes$Kind" "ALL" "[LHighRecipes$Kind;") (ty := .object "HighRecipes$Kind") (N := 41) (f := fun j => .ref (ad j)) (by decide) (N 1312 _ (by decide +kernel)) (va_eqt (N 1824 _ (by decide +kernel))) (fun j hj => va_eqv (N _ _ (e_ka_ok j hj)) (hev j hj)) hA
  obtain ⟨t1, e1, hT1⟩ := va_Tof (args := #[Value.ref b]) (s := s) (tm := .static "HighRecipes$1" "$SwitchMap$HighRecipes$Kind" "[I") (ty := .int) (N := 41) (f := fun j => .int (q_sw.getD j 0)) (by decide) (N 1940 _ (by decide +kernel)) (va_eqt (N 596 _ (by decide +kernel))) (fun j hj => va_eqt (N _ _ (e_kz_ok j hj))) hA
  obtain ⟨t2, e2, hT2⟩ := va_Tof (args := #[Value.ref b]) (s := s) (tm := .static "HighRecipesModel" "WORDS" "[Ljava/lang/String;") (ty := .object "java/lang/String") (N := 27) (f := fun j => .ref (aK j)) (by decide) (N 1818 _ (by decide +kernel)) (va_eqt (N 666 _ (by decide +kernel))) (fun j hj => va_eqv (N _ _ (e_kd_ok j hj)) (hsv j hj)) hA
  obtain ⟨s0, v0⟩ := exact_ref (N 737 (.exactly (.string "HighRecipes" 54) "java/lang/String") (by decide +kernel))
  obtain ⟨s1, v1⟩ := exact_ref (N 1929 (.exactly (.string "HighRecipes" 222) "java/lang/String") (by decide +kernel))
  obtain ⟨s2, v2⟩ := exact_ref (N 1401 (.exactly (.string "HighRecipes" 230) "java/lang/String") (by decide +kernel))
  obtain ⟨s3, v3⟩ := exact_ref (N 1893 (.exactly (.string "HighRecipes" 227) "java/lang/String") (by decide +kernel))
  obtain ⟨F, hFd⟩ : ∃ F : Nat → Nat, F = (fun k => if k < 41 then ad k else if k = 100 then t0 else if k = 101 then t1 else if k = 102 then t2 else if k < 227 then aK (k - 200) else if k < 327 then aV (k - 300) else if k = 400 then s0 else if k = 401 then s1 else if k = 402 then s2 else s3) := ⟨_, rfl⟩
  have f1 : ∀ i, i < 41 → F i = ad i := fun i hi => by rw [hFd]; exact if_pos hi
  have f2 : ∀ i, i < 27 → F (200 + i) = aK i := fun i hi => by
    rw [hFd]
    show (if 200 + i < 41 then _ else _) = _
    rw [if_neg (by omega), if_neg (by omega), if_neg (by omega), if_neg (by omega), if_pos (by omega), show 200 + i - 200 = i by omega]
  have f3 : ∀ i, i < 27 → F (300 + i) = aV i := fun i hi => by
    rw [hFd]
    show (if 300 + i < 41 then _ else _) = _
    rw [if_neg (by omega), if_neg (by omega), if_neg (by omega), if_neg (by omega), if_neg (by omega), if_pos (by omega), show 300 + i - 300 = i by omega]
  have f100 : F 100 = t0 := by rw [hFd]; rfl
  have f101 : F 101 = t1 := by rw [hFd]; rfl
  have f102 : F 102 = t2 := by rw [hFd]; rfl
  have f400 : F 400 = s0 := by rw [hFd]; rfl
  have f401 : F 401 = s1 := by rw [hFd]; rfl
  have f402 : F 402 = s2 := by rw [hFd]; rfl
  have f403 : F 403 = s3 := by rw [hFd]; rfl
  have hini : ∀ C, Cond.initialized C ∈ lw_tbl → (Cond.initialized C).before #[Value.ref b] s = true := fun C h => hts _ h
  refine ⟨(D, fun k => if k = 0 then a0 else if k = 1 then a1 else if k = 2 then a2 else if k = 3 then a3 else if k = 4 then a4 else a5, s.heap.size, F), rfl, ⟨⟨hD, ?_⟩, Nat.le_refl _, ?_, ?_⟩, va_Nc.of (N 1998 _ (by decide +kernel))⟩
  · intro k q hq
    match k, hq with
    | 0, hq => cases hq; exact ⟨g0, r0⟩
    | 1, hq => cases hq; exact ⟨g1, r1⟩
    | 2, hq => cases hq; exact ⟨g2, r2⟩
    | 3, hq => cases hq; exact ⟨g3, r3⟩
    | 4, hq => cases hq; exact ⟨g4, r4⟩
    | 5, hq => cases hq; exact ⟨g5, r5⟩
    | k + 6, hq => simp [q_tys] at hq
  · refine ⟨⟨fun i hi => ?_, fun i j hi hj e => ?_⟩, fun i hi => ?_, ⟨?_, ?_⟩, ⟨?_, ?_⟩, ⟨?_, ?_⟩, ⟨fun i hi => ?_, fun i j hi hj e => ?_⟩, ⟨?_, ?_⟩, ?_, ?_⟩
    · show va_Z _ _ _ (.ref (F i)) _ _ _ ∧ va_O _ (F i) _ _ _ ∧ ∀ q : String × String × String × List Int32, q ∈ _ → va_OF q.1 q.2.1 q.2.2.1 (.int (q.2.2.2.getD i 0)) (F i) _ _ _
      rw [f1 i hi]
      exact hE.1 i hi
    · have e : F i = F j := e
      rw [f1 i hi, f1 j hj] at e
      exact hE.2 i j hi hj e
    · show va_OF _ _ _ _ (F i) _ _ _
      rw [f1 i hi]
      exact hF i hi
    · show va_Z _ _ _ (.ref (F 100)) _ _ _
      rw [f100]
      exact va_Zref (hts _ (by decide +kernel)) (hts _ (by decide +kernel)) e0 hA
    · show va_T _ (F 100) _ (fun j => .ref (F j)) _ _ _
      rw [f100]
      exact va_Tcg hT0 (fun j hj => by rw [f1 j hj])
    · show va_Z _ _ _ (.ref (F 101)) _ _ _
      rw [f101]
      exact va_Zref (hts _ (by decide +kernel)) (hts _ (by decide +kernel)) e1 hA
    · show va_T _ (F 101) _ _ _ _ _
      rw [f101]
      exact hT1
    · show va_Z _ _ _ (.ref (F 102)) _ _ _
      rw [f102]
      exact va_Zref (hts _ (by decide +kernel)) (hts _ (by decide +kernel)) e2 hA
    · show va_T _ (F 102) _ (fun j => .ref (F (200 + j))) _ _ _
      rw [f102]
      exact va_Tcg hT2 (fun j hj => by rw [f2 j hj])
    · show va_O _ (F (200 + i)) _ _ _ ∧ va_OF _ _ _ _ (F (200 + i)) _ _ _ ∧ va_OF _ _ _ (.ref (F (300 + i))) (F (200 + i)) _ _ _ ∧ va_T _ (F (300 + i)) _ _ _ _ _
      rw [f2 i hi, f3 i hi]
      exact hS.1 i hi
    · have e : F (200 + i) = F (200 + j) := e
      rw [f2 i hi, f2 j hj] at e
      exact hS.2 i j hi hj e
    · exact vx_Zqof (hts _ (by decide +kernel)) (hts _ (by decide +kernel)) (N 2026 _ (by decide +kernel)) hA
    · exact vx_Zqof (hts _ (by decide +kernel)) (hts _ (by decide +kernel)) (N 538 _ (by decide +kernel)) hA
    · exact va_Zof (hts _ (by decide +kernel)) (hts _ (by decide +kernel)) (va_eqt (N 1862 _ (by decide +kernel))) hA
    · exact va_Zqof (hts _ (by decide +kernel)) (hts _ (by decide +kernel)) (N 710 _ (by decide +kernel)) hA
  · refine ⟨fun q hq => va_Nw.of rfl (hts _ (e_fn_ok q hq)), fun q hq => va_Nw.of rfl (hts _ (e_mn_ok q hq)), fun q hq => va_Nw.of rfl (hts _ (e_dc_ok q hq)), fun q hq => va_Nw.of rfl (hts _ (e_ca_ok q hq)), fun q hq => va_AO.of (hts _ (e_ao_ok q hq)), ?_, ?_, ?_, ?_⟩
    · show vk_R _ _ _ (F 400) _
      rw [f400]
      exact vk_R.of (hts _ (by decide +kernel)) v0
    · show vk_R _ _ _ (F 401) _
      rw [f401]
      exact vk_R.of (hts _ (by decide +kernel)) v1
    · show vk_R _ _ _ (F 402) _
      rw [f402]
      exact vk_R.of (hts _ (by decide +kernel)) v2
    · show vk_R _ _ _ (F 403) _
      rw [f403]
      exact vk_R.of (hts _ (by decide +kernel)) v3
