/-! the law's loop -/
theorem law_small : ∀ L : Nat, L < 6 → ∀ i : Nat, i < 6 → nI L - 6 < nI i := by decide +kernel
theorem law_go {L i : Nat} (hL : L ≤ 3072) (hi : i ≤ L) (h : ¬ nI i > nI L - 6) : i + 6 ≤ L := by
  refine Nat.le_of_not_lt fun h9 => h ?_
  show nI L - 6 < nI i
  by_cases h6 : L < 6
  · exact law_small L h6 i (by omega)
  · rw [show (6 : Int32) = nI 6 from rfl, pk_sub (show 6 ≤ L by omega)]
    exact nI_lt (by omega) (by omega)
theorem law_key (x : Int32) : (x.toInt < 0 ∨ 41 < x.toInt) ∨ ∃ k, k < 42 ∧ x = nI k := by
  by_cases h1 : x.toInt < 0
  · exact Or.inl (Or.inl h1)
  · by_cases h2 : 41 < x.toInt
    · exact Or.inl (Or.inr h2)
    · refine Or.inr ⟨x.toInt.toNat, by omega, ?_⟩
      rw [← Int32.toInt_inj, nI_toInt (by omega)]
      omega
theorem law_head {p : Program} {l : Launch} {e : Env} {s : State} {m : MethodId} {below : List Frame} {meth : Method} {c : Code} {E : q_E} {b L a : Nat} {xs : Nat → Int32} {Q : State → Prop} (X : LX p l s m c E b L a xs) {i : Nat} (hi : i ≤ L) {H : Heap} {locs : List Loc} {ls : Array Slot} {cells slots : Nat} (hS : va_S (q_ge E) s.heap H locs) (hl : lv_has ls 9 [(4, .int (nI i)), (3, .ref (a + 99)), (2, .ref (a + 55)), (1, .ref a), (0, .ref b)])
    (kg : i + 6 ≤ L → W p l e room_1 s m #[Value.ref b] below meth c H locs cells slots Q (F0 m 33 ls [])) (ke : W p l e room_1 s m #[Value.ref b] below meth c H locs cells slots Q (F0 m 2105 ls [])) : W p l e room_1 s m #[Value.ref b] below meth c H locs cells slots Q (F0 m 23 ls []) := by
  obtain ⟨hx, hb, hml, hown, hts, hX, hbl, hbA, hA, hNc, hst, hL⟩ := X
  refine lv_iload hx hb dL_law_23 (lv_at hl 0 rfl) ?_
  refine lv_aload_n hx hb dL_law_25 rfl (lv_at hl 4 rfl) ?_
  refine va_slen hx hb hX hbl hbA hS dL_law_26 ?_
  refine lv_bipush (v := 6) hx hb dL_law_27 (by decide) ?_
  refine lv_isub hx hb dL_law_29 ?_
  exact lv_icmp_gt (tgt := 2105) hx hb dL_law_30 (by decide) (fun _ => ke) (fun h => kg (law_go hL hi h))
set_option maxHeartbeats 4000000 in
set_option maxRecDepth 100000 in
theorem law_body {p : Program} {l : Launch} {e : Env} {s : State} {m : MethodId} {below : List Frame} {meth : Method} {c : Code} {E : q_E} {b L a : Nat} {xs : Nat → Int32} {Q : State → Prop} (X : LX p l s m c E b L a xs) {i : Nat} (hi : i + 6 ≤ L) {f : q_H} {n BB : Nat} {H : Heap} {locs : List Loc} {ls : Array Slot} {cells slots : Nat} (hB : BB ≤ 2 ^ 29) (hJ : JJ E a BB f n) (hW : q_W E f n H) (hS : va_S (q_ge E) s.heap H locs) (hl : lv_has ls 9 [(4, .int (nI i)), (3, .ref (a + 99)), (2, .ref (a + 55)), (1, .ref a), (0, .ref b)]) (hc : cells + 430 ≤ 601024) (hsl : slots + 3900 ≤ 7293034)
    (kk : ∀ (f1 : q_H) (n1 : Nat) (H1 : Heap) (locs1 : List Loc) (ls1 : Array Slot), JJ E a (BB + 100) f1 n1 → q_W E f1 n1 H1 → va_S (q_ge E) s.heap H1 locs1 → lv_has ls1 9 [(4, .int (nI (i + 6))), (3, .ref (a + 99)), (2, .ref (a + 55)), (1, .ref a), (0, .ref b)] → W p l e room_1 s m #[Value.ref b] below meth c H1 locs1 (cells + 430) (slots + 3900) Q (F0 m 23 ls1 [])) :
    W p l e room_1 s m #[Value.ref b] below meth c H locs cells slots Q (F0 m 33 ls []) := by
  have X9 := X
  obtain ⟨hx, hb, hml, hown, hts, hX, hbl, hbA, hA, hNc, hst, hL⟩ := X9
  have k2 : ∀ (f1 : q_H) (n1 : Nat) (H1 : Heap) (locs1 : List Loc) (ls1 : Array Slot), JJ E a (BB + 100) f1 n1 → q_W E f1 n1 H1 → va_S (q_ge E) s.heap H1 locs1 → lv_has ls1 9 [(4, .int (nI i)), (3, .ref (a + 99)), (2, .ref (a + 55)), (1, .ref a), (0, .ref b)] → W p l e room_1 s m #[Value.ref b] below meth c H1 locs1 (cells + 430) (slots + 3900) Q (F0 m 2099 ls1 []) := by
    intro f1 n1 H1 locs1 ls1 hJ1 hW1 hS1 hl1
    refine lv_iinc (v := nI (i + 6)) (lv' := [(4, .int (nI (i + 6))), (3, .ref (a + 99)), (2, .ref (a + 55)), (1, .ref a), (0, .ref b)]) hx hb dL_law_2099 hl1 (k := 0) rfl (by rw [show Int32.ofInt 6 = nI 6 from rfl, nI_add]) (by decide) rfl (fun ls hl => ?_)
    refine lv_goto (tgt := 23) hx hb dL_law_2102 (by decide) ?_
    exact kk f1 n1 H1 locs1 ls hJ1 hW1 hS1 hl
  clear kk
  refine lv_aload_n hx hb dL_law_33 rfl (lv_at hl 4 rfl) ?_
  refine lv_iload hx hb dL_law_34 (lv_at hl 0 rfl) ?_
  refine va_sld hx hb hX hbl hbA hS (vp_in_nI (show i < L by omega) (by omega)) dL_law_36 ?_
  rw [nI_clamp (show i < 2 ^ 31 by omega)]
  refine lv_bipush (v := 63) hx hb dL_law_37 (by decide) ?_
  refine lv_iand hx hb dL_law_39 ?_
  generalize xs i &&& 63 = x
  rcases law_key x with h9 | ⟨k, hk, rfl⟩
  · refine lv_tableOut (tgt := 2099) hx hb dL_law_40 h9 (by decide) ?_
    refine W.widen (k := cells + 430) (n := slots + 3900) (by omega) (by omega) ?_
    exact k2 _ _ _ _ _ (hJ.le (Nat.le_add_right _ _)) hW hS hl
  · match k, hk with
    | 0, _ =>
      refine lv_tableIn (x := nI 0) (off := 184) (tgt := 224) hx hb dL_law_40 (by decide) (by decide) (by decide) (by decide) ?_
      exact law_c0 X hi hB hJ hW hS hl hc hsl k2
    | 1, _ =>
      refine lv_tableIn (x := nI 1) (off := 288) (tgt := 328) hx hb dL_law_40 (by decide) (by decide) (by decide) (by decide) ?_
      exact law_c1 X hi hB hJ hW hS hl hc hsl k2
    | 2, _ =>
      refine lv_tableIn (x := nI 2) (off := 344) (tgt := 384) hx hb dL_law_40 (by decide) (by decide) (by decide) (by decide) ?_
      exact law_c2 X hi hB hJ hW hS hl hc hsl k2
    | 3, _ =>
      refine lv_tableIn (x := nI 3) (off := 357) (tgt := 397) hx hb dL_law_40 (by decide) (by decide) (by decide) (by decide) ?_
      exact law_c3 X hi hB hJ hW hS hl hc hsl k2
    | 4, _ =>
      refine lv_tableIn (x := nI 4) (off := 370) (tgt := 410) hx hb dL_law_40 (by decide) (by decide) (by decide) (by decide) ?_
      exact law_c4 X hi hB hJ hW hS hl hc hsl k2
    | 5, _ =>
      refine lv_tableIn (x := nI 5) (off := 383) (tgt := 423) hx hb dL_law_40 (by decide) (by decide) (by decide) (by decide) ?_
      exact law_c5 X hi hB hJ hW hS hl hc hsl k2
    | 6, _ =>
      refine lv_tableIn (x := nI 6) (off := 396) (tgt := 436) hx hb dL_law_40 (by decide) (by decide) (by decide) (by decide) ?_
      exact law_c6 X hi hB hJ hW hS hl hc hsl k2
    | 7, _ =>
      refine lv_tableIn (x := nI 7) (off := 409) (tgt := 449) hx hb dL_law_40 (by decide) (by decide) (by decide) (by decide) ?_
      exact law_c7 X hi hB hJ hW hS hl hc hsl k2
    | 8, _ =>
      refine lv_tableIn (x := nI 8) (off := 422) (tgt := 462) hx hb dL_law_40 (by decide) (by decide) (by decide) (by decide) ?_
      exact law_c8 X hi hB hJ hW hS hl hc hsl k2
    | 9, _ =>
      refine lv_tableIn (x := nI 9) (off := 435) (tgt := 475) hx hb dL_law_40 (by decide) (by decide) (by decide) (by decide) ?_
      exact law_c9 X hi hB hJ hW hS hl hc hsl k2
    | 10, _ =>
      refine lv_tableIn (x := nI 10) (off := 448) (tgt := 488) hx hb dL_law_40 (by decide) (by decide) (by decide) (by decide) ?_
      exact law_c10 X hi hB hJ hW hS hl hc hsl k2
    | 11, _ =>
      refine lv_tableIn (x := nI 11) (off := 461) (tgt := 501) hx hb dL_law_40 (by decide) (by decide) (by decide) (by decide) ?_
      exact law_c11 X hi hB hJ hW hS hl hc hsl k2
    | 12, _ =>
      refine lv_tableIn (x := nI 12) (off := 474) (tgt := 514) hx hb dL_law_40 (by decide) (by decide) (by decide) (by decide) ?_
      exact law_c12 X hi hB hJ hW hS hl hc hsl k2
    | 13, _ =>
      refine lv_tableIn (x := nI 13) (off := 530) (tgt := 570) hx hb dL_law_40 (by decide) (by decide) (by decide) (by decide) ?_
      exact law_c13 X hi hB hJ hW hS hl hc hsl k2
    | 14, _ =>
      refine lv_tableIn (x := nI 14) (off := 586) (tgt := 626) hx hb dL_law_40 (by decide) (by decide) (by decide) (by decide) ?_
      exact law_c14 X hi hB hJ hW hS hl hc hsl k2
    | 15, _ =>
      refine lv_tableIn (x := nI 15) (off := 642) (tgt := 682) hx hb dL_law_40 (by decide) (by decide) (by decide) (by decide) ?_
      exact law_c15 X hi hB hJ hW hS hl hc hsl k2
    | 16, _ =>
      refine lv_tableIn (x := nI 16) (off := 698) (tgt := 738) hx hb dL_law_40 (by decide) (by decide) (by decide) (by decide) ?_
      exact law_c16 X hi hB hJ hW hS hl hc hsl k2
    | 17, _ =>
      refine lv_tableIn (x := nI 17) (off := 754) (tgt := 794) hx hb dL_law_40 (by decide) (by decide) (by decide) (by decide) ?_
      exact law_c17 X hi hB hJ hW hS hl hc hsl k2
    | 18, _ =>
      refine lv_tableIn (x := nI 18) (off := 810) (tgt := 850) hx hb dL_law_40 (by decide) (by decide) (by decide) (by decide) ?_
      exact law_c18 X hi hB hJ hW hS hl hc hsl k2
    | 19, _ =>
      refine lv_tableIn (x := nI 19) (off := 866) (tgt := 906) hx hb dL_law_40 (by decide) (by decide) (by decide) (by decide) ?_
      exact law_c19 X hi hB hJ hW hS hl hc hsl k2
    | 20, _ =>
      refine lv_tableIn (x := nI 20) (off := 934) (tgt := 974) hx hb dL_law_40 (by decide) (by decide) (by decide) (by decide) ?_
      exact law_c20 X hi hB hJ hW hS hl hc hsl k2
    | 21, _ =>
      refine lv_tableIn (x := nI 21) (off := 990) (tgt := 1030) hx hb dL_law_40 (by decide) (by decide) (by decide) (by decide) ?_
      exact law_c21 X hi hB hJ hW hS hl hc hsl k2
    | 22, _ =>
      refine lv_tableIn (x := nI 22) (off := 1003) (tgt := 1043) hx hb dL_law_40 (by decide) (by decide) (by decide) (by decide) ?_
      exact law_c22 X hi hB hJ hW hS hl hc hsl k2
    | 23, _ =>
      refine lv_tableIn (x := nI 23) (off := 1059) (tgt := 1099) hx hb dL_law_40 (by decide) (by decide) (by decide) (by decide) ?_
      exact law_c23 X hi hB hJ hW hS hl hc hsl k2
    | 24, _ =>
      refine lv_tableIn (x := nI 24) (off := 1115) (tgt := 1155) hx hb dL_law_40 (by decide) (by decide) (by decide) (by decide) ?_
      exact law_c24 X hi hB hJ hW hS hl hc hsl k2
    | 25, _ =>
      refine lv_tableIn (x := nI 25) (off := 1128) (tgt := 1168) hx hb dL_law_40 (by decide) (by decide) (by decide) (by decide) ?_
      exact law_c25 X hi hB hJ hW hS hl hc hsl k2
    | 26, _ =>
      refine lv_tableIn (x := nI 26) (off := 1184) (tgt := 1224) hx hb dL_law_40 (by decide) (by decide) (by decide) (by decide) ?_
      exact law_c26 X hi hB hJ hW hS hl hc hsl k2
    | 27, _ =>
      refine lv_tableIn (x := nI 27) (off := 1240) (tgt := 1280) hx hb dL_law_40 (by decide) (by decide) (by decide) (by decide) ?_
      exact law_c27 X hi hB hJ hW hS hl hc hsl k2
    | 28, _ =>
      refine lv_tableIn (x := nI 28) (off := 1296) (tgt := 1336) hx hb dL_law_40 (by decide) (by decide) (by decide) (by decide) ?_
      exact law_c28 X hi hB hJ hW hS hl hc hsl k2
    | 29, _ =>
      refine lv_tableIn (x := nI 29) (off := 1352) (tgt := 1392) hx hb dL_law_40 (by decide) (by decide) (by decide) (by decide) ?_
      exact law_c29 X hi hB hJ hW hS hl hc hsl k2
    | 30, _ =>
      refine lv_tableIn (x := nI 30) (off := 1420) (tgt := 1460) hx hb dL_law_40 (by decide) (by decide) (by decide) (by decide) ?_
      exact law_c30 X hi hB hJ hW hS hl hc hsl k2
    | 31, _ =>
      refine lv_tableIn (x := nI 31) (off := 1488) (tgt := 1528) hx hb dL_law_40 (by decide) (by decide) (by decide) (by decide) ?_
      exact law_c31 X hi hB hJ hW hS hl hc hsl k2
    | 32, _ =>
      refine lv_tableIn (x := nI 32) (off := 1544) (tgt := 1584) hx hb dL_law_40 (by decide) (by decide) (by decide) (by decide) ?_
      exact law_c32 X hi hB hJ hW hS hl hc hsl k2
    | 33, _ =>
      refine lv_tableIn (x := nI 33) (off := 1600) (tgt := 1640) hx hb dL_law_40 (by decide) (by decide) (by decide) (by decide) ?_
      exact law_c33 X hi hB hJ hW hS hl hc hsl k2
    | 34, _ =>
      refine lv_tableIn (x := nI 34) (off := 1656) (tgt := 1696) hx hb dL_law_40 (by decide) (by decide) (by decide) (by decide) ?_
      exact law_c34 X hi hB hJ hW hS hl hc hsl k2
    | 35, _ =>
      refine lv_tableIn (x := nI 35) (off := 1712) (tgt := 1752) hx hb dL_law_40 (by decide) (by decide) (by decide) (by decide) ?_
      exact law_c35 X hi hB hJ hW hS hl hc hsl k2
    | 36, _ =>
      refine lv_tableIn (x := nI 36) (off := 1768) (tgt := 1808) hx hb dL_law_40 (by decide) (by decide) (by decide) (by decide) ?_
      exact law_c36 X hi hB hJ hW hS hl hc hsl k2
    | 37, _ =>
      refine lv_tableIn (x := nI 37) (off := 1824) (tgt := 1864) hx hb dL_law_40 (by decide) (by decide) (by decide) (by decide) ?_
      exact law_c37 X hi hB hJ hW hS hl hc hsl k2
    | 38, _ =>
      refine lv_tableIn (x := nI 38) (off := 1892) (tgt := 1932) hx hb dL_law_40 (by decide) (by decide) (by decide) (by decide) ?_
      exact law_c38 X hi hB hJ hW hS hl hc hsl k2
    | 39, _ =>
      refine lv_tableIn (x := nI 39) (off := 1948) (tgt := 1988) hx hb dL_law_40 (by decide) (by decide) (by decide) (by decide) ?_
      exact law_c39 X hi hB hJ hW hS hl hc hsl k2
    | 40, _ =>
      refine lv_tableIn (x := nI 40) (off := 2004) (tgt := 2044) hx hb dL_law_40 (by decide) (by decide) (by decide) (by decide) ?_
      exact law_c40 X hi hB hJ hW hS hl hc hsl k2
    | 41, _ =>
      refine lv_tableIn (x := nI 41) (off := 2045) (tgt := 2085) hx hb dL_law_40 (by decide) (by decide) (by decide) (by decide) ?_
      exact law_c41 X hi hB hJ hW hS hl hc hsl k2
    | k + 42, h => exact absurd h (by omega)
theorem law_loop {p : Program} {l : Launch} {e : Env} {s : State} {m : MethodId} {below : List Frame} {meth : Method} {c : Code} {E : q_E} {b L a : Nat} {xs : Nat → Int32} {Q : State → Prop} (X : LX p l s m c E b L a xs) (ke : ∀ (H1 : Heap) (locs1 : List Loc) (ls1 : Array Slot) (k1 n1 : Nat), va_S (q_ge E) s.heap H1 locs1 → k1 ≤ 601024 → n1 ≤ 7293034 → W p l e room_1 s m #[Value.ref b] below meth c H1 locs1 k1 n1 Q (F0 m 2105 ls1 [])) :
    ∀ (k j i BB cells slots : Nat), L ≤ 6 * j + k → 6 * j ≤ L → i = 6 * j → BB = 100 * (j + 1) → cells = 100 + 430 * j → slots = 12900 + 3900 * j → ∀ (f : q_H) (n : Nat) (H : Heap) (locs : List Loc) (ls : Array Slot), JJ E a BB f n → q_W E f n H → va_S (q_ge E) s.heap H locs → lv_has ls 9 [(4, .int (nI i)), (3, .ref (a + 99)), (2, .ref (a + 55)), (1, .ref a), (0, .ref b)] → W p l e room_1 s m #[Value.ref b] below meth c H locs cells slots Q (F0 m 23 ls []) := by
  have hL : L ≤ 3072 := X.2.2.2.2.2.2.2.2.2.2.2
  intro k
  induction k with
  | zero =>
    intro j i BB cells slots h1 h2 hi hB hc hs f n H locs ls hJ hW hS hl
    exact law_head X (by omega) hS hl (fun h9 => absurd h9 (by omega)) (ke _ _ _ _ _ hS (by omega) (by omega))
  | succ k ih =>
    intro j i BB cells slots h1 h2 hi hB hc hs f n H locs ls hJ hW hS hl
    refine law_head X (by omega) hS hl (fun h9 => ?_) (ke _ _ _ _ _ hS (by omega) (by omega))
    refine law_body X h9 (by omega) hJ hW hS hl (by omega) (by omega) (fun f1 n1 H1 locs1 ls1 hJ1 hW1 hS1 hl1 => ?_)
    exact ih (j + 1) (i + 6) (BB + 100) (cells + 430) (slots + 3900) (by omega) (by omega) (by omega) (by omega) (by omega) (by omega) f1 n1 H1 locs1 ls1 hJ1 hW1 hS1 hl1
