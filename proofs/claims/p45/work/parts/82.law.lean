/-! the law -/
theorem da_heat {pn p : Nat} {hd v : q_V} (h : w_ok pn hd v) (hp : p < pn) (hpn : pn ≤ 4) : FP.dadd (FP.i2d (z_sum v p)) (FP.i2d (v (54 + 4 * p))) = FP.i2d (z_sum v (p + 1)) := by
  obtain ⟨a, h1, h2⟩ := zs_nI h p (by omega)
  obtain ⟨t, e, h3, h4⟩ := h.hot p hp
  show _ = FP.i2d (z_sum v p + v (54 + 4 * p))
  rw [h2, e, nI_add]
  have := da_all a (by omega) (t - 20) (by omega)
  rw [show 20 + (t - 20) = t by omega] at this
  exact this
theorem hot_sub (w a b : Int32) : w - a - b = w - (a + b) := isub3 w a b

theorem VG.of_ev {pn BB : Nat} {hd v : q_V} {S : q_S} (h1 : w_gB pn S) (h2 : w_b pn S) (hB : BB ≤ 2 ^ 29) (h : VG BB pn hd v) : VG (BB + 100) pn hd (S hd (v, 0, (-1))).1 := by
  obtain ⟨a1, a2, a3⟩ := h1 BB hd (v, 0, (-1)) hB h.2.2 h.1
  obtain ⟨b1, b2, b3, b4⟩ := h2 BB hd (v, 0, (-1)) hB h.2.2 h.1
  exact ⟨a2, b3 h.2.1, k_inv_cook a1⟩
theorem JA.drop {E : q_E} {a c nb r k : Nat} {s : Int32} {X : Nat → Prop} {f : q_H} {n BB pn NR : Nat} {ac : Int32} {hd vm vk : q_V} {RS : Nat → q_S} (h : JA E a c nb r k s X f n BB pn NR ac hd vm vk RS) : JA E a c nb r k s (fun _ => False) f n BB pn NR ac hd vm vk RS := by
  obtain ⟨Qm, Qw, P, pa, re, ki, wa, no, pr, b, w, L, g, cnt, hM, ⟨BBw, gw, pnw, rcw, acw, hdw, vw, RSw, hWm⟩, hK, hs, hR, hO, hr, ⟨n1_, n2_, n3_, n4_, n5_⟩, ⟨x1_, x2_, x3_⟩, ⟨y1_, y2_, y3_⟩, hgm, hgk, ⟨d1_, d2_, d3_, d4_, rfl⟩, hcn, hac⟩ := h
  exact ⟨Qm, Qw, P, pa, re, ki, wa, no, pr, b, w, _, _, cnt, hM, ⟨BBw, gw, pnw, rcw, acw, hdw, vw, RSw, hWm⟩, hK, hs, hR, fun q hq => hO q (by rcases hq with h9 | h9 | h9 | h9; exact Or.inl h9; exact Or.inr (Or.inl h9); exact Or.inr (Or.inr (Or.inl h9)); exact h9.elim), hr, ⟨n1_, n2_, n3_, n4_, n5_⟩, ⟨fun q hq => x1_ q (hq.elim Or.inl (fun h9 => h9.elim)), fun q hq => x2_ q (hq.elim Or.inl (fun h9 => h9.elim)), fun q hq => x3_ q (by rcases hq with h9 | h9 | h9; exact Or.inl h9; exact Or.inr (Or.inl h9); exact h9.elim)⟩, ⟨y1_, y2_, y3_⟩, hgm, hgk, ⟨d1_, d2_, d3_, d4_, rfl⟩, hcn, hac⟩
theorem JA.cb2 {E : q_E} {a c nb r k : Nat} {s : Int32} {X : Nat → Prop} {f : q_H} {n BB pn NR : Nat} {ac : Int32} {hd vm vk : q_V} {RS : Nat → q_S} (h : JA E a c nb r k s X f n BB pn NR ac hd vm vk RS) : ∃ Qm Qw : Nat → Prop, CW E a f n Qm ∧ CW E c f n Qw ∧ (∀ q, Qm q → q < n ∧ (q < c ∨ c + 55 ≤ q) ∧ q ≠ r) ∧ ∀ q, Qw q → q < n ∧ (q < a ∨ a + 55 ≤ q) ∧ q ≠ r := by
  obtain ⟨Qm, Qw, P, pa, re, ki, wa, no, pr, b, w, L, g, cnt, hM, ⟨BBw, gw, pnw, rcw, acw, hdw, vw, RSw, hWm⟩, hK, hs, hR, hO, hr, ⟨n1_, n2_, n3_, n4_, n5_⟩, ⟨x1_, x2_, x3_⟩, ⟨y1_, y2_, y3_⟩, hgm, hgk, ⟨d1_, d2_, d3_, d4_, rfl⟩, hcn, hac⟩ := h
  exact ⟨Qm, Qw, ⟨_, _, _, _, _, _, _, _, hM⟩, ⟨BBw, gw, pnw, rcw, acw, hdw, vw, RSw, hWm⟩, fun q hq => ⟨(hO q (Or.inr (Or.inl hq))).1, x1_ q (Or.inl hq), x3_ q (Or.inl hq)⟩, fun q hq => ⟨(hO q (Or.inr (Or.inr (Or.inl hq)))).1, x2_ q (Or.inl hq), x3_ q (Or.inr (Or.inl hq))⟩⟩
theorem ms_lt {sp fu : Nat} (h : 8 - sp < fu + 1) (hs : sp < 8) : 8 - (sp + 1) < fu := by omega
theorem s_ev (N : Nat) : w_gB 1 (bS [s1 N, s2]) ∧ w_b 1 (bS [s1 N, s2]) := by
  have h1 : w_g 1 (s1 N).2.1 ∧ w_a 1 (s1 N).2.1 := by rw [s1_S]; exact ⟨w_g_heat (by decide), (w_e_heat (by decide)).a⟩
  have h2 : w_g 1 s2.2.1 ∧ w_a 1 s2.2.1 := by rw [s2_S]; exact ⟨w_g_boil (by decide), (w_e_boil (by decide)).a⟩
  have hx : ∀ x ∈ [s1 N, s2], w_g 1 x.2.1 ∧ w_a 1 x.2.1 := fun x hx => by
    rcases List.mem_cons.mp hx with rfl | hx
    · exact h1
    · rw [List.mem_singleton.mp hx]; exact h2
  exact ⟨w_gB_list _ (fun x h9 => (hx x h9).1), w_b_list _ hx⟩
/-- the second kitchen, set and filled -/
theorem sec_rows {al w : Nat} {hd v : q_V} (hal : al ≤ 60) (hw : w ≤ 30) (hh : hd 0 = nI 30) (hw1 : 1 ≤ w) : z_frv hd (z_move (z_bgn v 1) (nI al) 1) 0 (nI w) = nI w ∧ z_fillv hd (z_move (z_bgn v 1) (nI al) 1) 0 0 (nI w) 0 = nI al ∧ z_fillv hd (z_move (z_bgn v 1) (nI al) 1) 0 0 (nI w) 52 = nI w ∧ z_fillv hd (z_move (z_bgn v 1) (nI al) 1) 0 0 (nI w) 53 = 0 ∧ z_fillv hd (z_move (z_bgn v 1) (nI al) 1) 0 0 (nI w) 54 = nI 20 ∧ z_fillv hd (z_move (z_bgn v 1) (nI al) 1) 0 0 (nI w) 10 = 0 := by
  obtain ⟨z1, z2, z3, z4⟩ := z_ini_w 0
  have e : ∀ q, q ≠ 0 → ¬ (54 ≤ q ∧ q % 4 = 2 ∧ (q - 54) / 4 < 1 ∧ 0 < (z_bgn v 1) (q - 2)) → z_move (z_bgn v 1) (nI al) 1 q = z_bgn v 1 q := fun q h0 h1 => by
    unfold z_move
    rw [if_neg h0, if_neg h1]
  have b52 : z_bgn v 1 52 = 0 := (bgn_p (by decide) (by decide)).trans z1
  have b53 : z_bgn v 1 53 = 0 := (bgn_p (by decide) (by decide)).trans z2
  have b54 : z_bgn v 1 54 = 20 := (bgn_p (by decide) (by decide)).trans z3
  have m52 : z_move (z_bgn v 1) (nI al) 1 (52 + 4 * 0) = 0 := (e 52 (by decide) (fun h9 => absurd h9.1 (by decide))).trans b52
  have m53 : z_move (z_bgn v 1) (nI al) 1 (53 + 4 * 0) = 0 := (e 53 (by decide) (fun h9 => absurd h9.1 (by decide))).trans b53
  have m54 : z_move (z_bgn v 1) (nI al) 1 (54 + 4 * 0) = 20 := (e 54 (by decide) (fun h9 => absurd h9.2.2.2 (by show ¬ 0 < z_bgn v 1 52; rw [b52]; decide))).trans b54
  have ad : z_add (hd 0) (z_move (z_bgn v 1) (nI al) 1 (52 + 4 * 0)) (z_move (z_bgn v 1) (nI al) 1 (53 + 4 * 0)) (nI w) = nI w := by
    rw [m52, m53, hh]
    show q_min (nI w) (nI 30 - 0 - 0) = nI w
    rw [Int32.sub_zero, Int32.sub_zero]
    exact (min_nI (a := w) (b := 30) (by omega) (by decide)).trans (congrArg nI (by omega))
  have hp : (0 : Int32) < nI w := nI_lt (a := 0) hw1 (by omega)
  have fl : z_fillv hd (z_move (z_bgn v 1) (nI al) 1) 0 0 (nI w) = z_pan (z_move (z_bgn v 1) (nI al) 1) 0 (0 + nI w) 0 (z_fh 0 0 20 (nI w)) (z_move (z_bgn v 1) (nI al) 1 (55 + 4 * 0)) := by
    unfold z_fillv
    rw [ad, if_pos hp, if_pos rfl, m52, m53, m54]
  have fh : z_fh 0 0 20 (nI w) = nI 20 := by
    show q_quot (20 * (0 + 0) + 20 * nI w) (0 + 0 + nI w) = nI 20
    unfold q_quot
    rw [show (20 : Int32) * (0 + 0) = 0 from by decide, show (0 : Int32) + 0 = 0 from by decide, Int32.zero_add, Int32.zero_add, if_neg (show ¬ nI w = 0 from nI_ne (b := 0) (by omega) (by decide) (by omega)), show (20 : Int32) * nI w = nI (20 * w) from nI_mul 20 w, pk_div (by omega) (by omega) (by omega), Nat.mul_div_cancel _ hw1]
  refine ⟨?_, ?_, ?_, ?_, ?_, ?_⟩
  · show (if 0 < z_add (hd 0) (z_move (z_bgn v 1) (nI al) 1 (52 + 4 * 0)) (z_move (z_bgn v 1) (nI al) 1 (53 + 4 * 0)) (nI w) then z_add (hd 0) (z_move (z_bgn v 1) (nI al) 1 (52 + 4 * 0)) (z_move (z_bgn v 1) (nI al) 1 (53 + 4 * 0)) (nI w) else 0) = nI w
    rw [ad, if_pos hp]
  · rw [fl, z_pan_n (by omega)]; rfl
  · rw [fl]; exact z_pan_0.trans (Int32.zero_add _)
  · rw [fl]; exact z_pan_1
  · rw [fl]; exact z_pan_2.trans fh
  · rw [fl, z_pan_n (by omega), e 10 (by decide) (fun h9 => absurd h9.1 (by decide))]; exact (bgn_0 (by decide)).trans rfl
theorem sec_pour {al w : Nat} {hd v : q_V} (hal : al ≤ 60) (hw : w ≤ 30) (hh : hd 0 = nI 30) (hw1 : 1 ≤ w) : z_frv hd (z_move (z_bgn v 1) (nI al) 1) 0 (nI w) = nI w := (sec_rows hal hw hh hw1).1
theorem sec_0 {al w : Nat} {hd v : q_V} (hal : al ≤ 60) (hw : w ≤ 30) (hh : hd 0 = nI 30) (hw1 : 1 ≤ w) : z_fillv hd (z_move (z_bgn v 1) (nI al) 1) 0 0 (nI w) 0 = nI al := (sec_rows hal hw hh hw1).2.1
theorem sec_52 {al w : Nat} {hd v : q_V} (hal : al ≤ 60) (hw : w ≤ 30) (hh : hd 0 = nI 30) (hw1 : 1 ≤ w) : z_fillv hd (z_move (z_bgn v 1) (nI al) 1) 0 0 (nI w) 52 = nI w := (sec_rows hal hw hh hw1).2.2.1
theorem sec_53 {al w : Nat} {hd v : q_V} (hal : al ≤ 60) (hw : w ≤ 30) (hh : hd 0 = nI 30) (hw1 : 1 ≤ w) : z_fillv hd (z_move (z_bgn v 1) (nI al) 1) 0 0 (nI w) 53 = 0 := (sec_rows hal hw hh hw1).2.2.2.1
theorem sec_54 {al w : Nat} {hd v : q_V} (hal : al ≤ 60) (hw : w ≤ 30) (hh : hd 0 = nI 30) (hw1 : 1 ≤ w) : z_fillv hd (z_move (z_bgn v 1) (nI al) 1) 0 0 (nI w) 54 = nI 20 := (sec_rows hal hw hh hw1).2.2.2.2.1
theorem sec_10 {al w : Nat} {hd v : q_V} (hal : al ≤ 60) (hw : w ≤ 30) (hh : hd 0 = nI 30) (hw1 : 1 ≤ w) : z_fillv hd (z_move (z_bgn v 1) (nI al) 1) 0 0 (nI w) 10 = 0 := (sec_rows hal hw hh hw1).2.2.2.2.2

set_option maxHeartbeats 8000000 in
set_option maxRecDepth 100000 in
theorem law_walk {p0_ : Program} {l : Launch} {e0_ : Env} {s0_ : State} {m0_ : MethodId} {below0_ : List Frame} {meth0_ : Method} {c0_ : Code} {E : q_E} {Q9 : State → Prop} (hx : p0_.tables.exec = Jvm.exec) (hb : c0_.code = code) (hml : c0_.maxLocals = 33) (hown : s0_.vm.findClass RL = some m0_.cls) (hts : ∀ w ∈ wsL_law, w.before #[Value.ref (E.2.2.2 108)] s0_ = true) (hA : q_A E s0_) (f : q_H) (n : Nat) (H : Heap) (locs : List Loc) (ls : Array Slot) (hW : q_W E f n H) (hS : va_S (q_ge E) s0_.heap H locs) (hl : lv_has ls 33 [(0, .ref (E.2.2.2 108))]) (kret : ∀ (H1 : Heap) (locs1 : List Loc) (ls1 : Array Slot), va_S (q_ge E) s0_.heap H1 locs1 → W p0_ l e0_ room_1 s0_ m0_ #[Value.ref (E.2.2.2 108)] below0_ meth0_ c0_ H1 locs1 52110 3406614 Q9 (F0 m0_ 1235 ls1 [])) : W p0_ l e0_ room_1 s0_ m0_ #[Value.ref (E.2.2.2 108)] below0_ meth0_ c0_ H locs 0 0 Q9 (F0 m0_ 0 ls []) := by
  have iJ4 := inlJ4
  have iX12 := inlX12
  have iX14 := inlX14
  have iX15 := inlX15
  refine q_new (ci := 12) hx hb hts hown hA hW hS iX12 tyX12 tyX12_ok (hts (.classLink RL 20 RX12) (by decide +kernel)) (hts (.instantiable RX12 7) (by decide +kernel)) (hts (.initialized RX12) (by decide +kernel)) rfl (fs := [.null, .null, .null, .null, .null, .null, .int 0]) (by decide) (by show _ ≤ 600086; omega) (by show _ ≤ 7301441; omega) dL_law_0 (fun H hW hS => ?_)
  have hW : q_W E (va_up f n (some (rX12 none none none none none none 0))) (n + 1) H := hW
  refine lv_dup hx hb dL_law_3 rfl ?_
  refine q_cv (va_runI (As := []) (rest := [.ref n]) ⟨hx, hb, hml, hown, hts⟩ (cm_init l E (va_up f n (some (rX12 none none none none none none 0))) (n + 1) n q_eq rfl) (cwI 0 hts gL_law_X12_init rfl rfl rfl (hts (.initialized RX12) (by decide +kernel)) (hts (.methodLink RL 145 yX12_init) (by decide +kernel)) (hts (.instanceMethod yX12_init) (by decide +kernel)) rfl (by decide +kernel) ⟨(Nat.le_of_ble_eq_true rfl), (Nat.le_of_ble_eq_true rfl)⟩) (q_pS hA hW hS) rfl rfl hl.1 rfl (lv_room (Nat.le_of_ble_eq_true rfl)) dL_law_4 ⟨(by show _ ≤ 600086; omega), (by show _ ≤ 7301441; omega)⟩) hS (fun f_4 n_4 H locs hp hW hS => ?_)
  obtain ⟨eI_4, en_4, hfr_4⟩ := hp
  obtain rfl : n_4 = n + 55 := by omega
  refine lv_astore_n (lv' := [(1, .ref n), (0, .ref (E.2.2.2 108))]) hx hb dL_law_7 rfl hl (by decide) rfl (fun ls hl => ?_)
  refine q_new (ci := 12) hx hb hts hown hA hW hS iX12 tyX12 tyX12_ok (hts (.classLink RL 20 RX12) (by decide +kernel)) (hts (.instantiable RX12 7) (by decide +kernel)) (hts (.initialized RX12) (by decide +kernel)) rfl (fs := [.null, .null, .null, .null, .null, .null, .int 0]) (by decide) (by show _ ≤ 600086; omega) (by show _ ≤ 7301441; omega) dL_law_8 (fun H hW hS => ?_)
  have hW : q_W E (va_up f_4 (n + 55) (some (rX12 none none none none none none 0))) (n + 55 + 1) H := hW
  refine lv_dup hx hb dL_law_11 rfl ?_
  refine q_cv (va_runI (As := []) (rest := [.ref (n + 55)]) ⟨hx, hb, hml, hown, hts⟩ (cm_init l E (va_up f_4 (n + 55) (some (rX12 none none none none none none 0))) (n + 56) (n + 55) q_eq rfl) (cwI 0 hts gL_law_X12_init rfl rfl rfl (hts (.initialized RX12) (by decide +kernel)) (hts (.methodLink RL 145 yX12_init) (by decide +kernel)) (hts (.instanceMethod yX12_init) (by decide +kernel)) rfl (by decide +kernel) ⟨(Nat.le_of_ble_eq_true rfl), (Nat.le_of_ble_eq_true rfl)⟩) (q_pS hA hW hS) rfl rfl hl.1 rfl (lv_room (Nat.le_of_ble_eq_true rfl)) dL_law_12 ⟨(by show _ ≤ 600086; omega), (by show _ ≤ 7301441; omega)⟩) hS (fun f_12 n_12 H locs hp hW hS => ?_)
  obtain ⟨eI_12, en_12, hfr_12⟩ := hp
  obtain rfl : n_12 = n + 110 := by omega
  refine lv_astore_n (lv' := [(2, .ref (n + 55)), (1, .ref n), (0, .ref (E.2.2.2 108))]) hx hb dL_law_15 rfl hl (by decide) rfl (fun ls hl => ?_)
  refine lv_iconst (v := 0) hx hb dL_law_16 (by decide) ?_
  refine lv_istore_n (lv' := [(3, .int 0), (2, .ref (n + 55)), (1, .ref n), (0, .ref (E.2.2.2 108))]) hx hb dL_law_17 rfl hl (by decide) rfl (fun ls hl => ?_)
  have K18 : ∀ (fu : Nat) (F : q_H) (N : Nat) (tm : Nat) (hCB : CB E n (n + 55) F N) (htm : tm ≤ 2) (hN0 : n + 110 ≤ N) (hm : 2 - tm < fu) (H : Heap) (locs : List Loc) (ls : Array Slot), q_W E (F) N H → va_S (q_ge E) s0_.heap H locs → lv_has ls 33 [(0, .ref (E.2.2.2 108)), (1, .ref n), (2, .ref (n + 55)), (3, .int (nI tm))] → W p0_ l e0_ room_1 s0_ m0_ #[Value.ref (E.2.2.2 108)] below0_ meth0_ c0_ H locs (110 + 26000 * tm) (6614 + 1700000 * tm) Q9 (F0 m0_ 18 ls []) := by
    intro fu
    induction fu with
    | zero =>
      intro F N tm hCB htm hN0 hm
      exact absurd hm (Nat.not_lt_zero _)
    | succ fu ih =>
      intro F N tm hCB htm hN0 hm H locs ls hW hS hl
      have ihT := ih
      obtain ⟨Qm, Qw, ⟨BBm, gm, pnm, rcm, acm, hdm, vm, RSm, hCm⟩, ⟨BBw, gw, pnw, rcw, acw, hdw, vw, RSw, hCw⟩, hQm, hQw⟩ := hCB
      refine lv_iload_n hx hb dL_law_18 rfl (lv_at hl 3 rfl) ?_
      refine lv_iconst (v := 2) hx hb dL_law_19 (by decide) ?_
      refine lv_icmp_ge (tgt := 1235) hx hb dL_law_20 (by decide) (fun c_20 => ?_) (fun c_20 => ?_)
      · refine W.widen (k := 52110) (n := 3406614) (by omega) (by omega) ?_
        exact kret _ _ _ hS
      · have htl : tm < 2 := Nat.lt_of_not_le (fun h9 => c_20 (nI_le (a := 2) h9 (by omega)))
        refine q_new (ci := 14) hx hb hts hown hA hW hS iX14 tyX14 tyX14_ok (hts (.classLink RL 52 RX14) (by decide +kernel)) (hts (.instantiable RX14 1) (by decide +kernel)) (hts (.initialized RX14) (by decide +kernel)) rfl (fs := [.int 0]) (by decide) (by show _ ≤ 600086; omega) (by show _ ≤ 7301441; omega) dL_law_23 (fun H hW hS => ?_)
        have hW : q_W E (va_up F N (some (cDice 0))) (N + 1) H := hW
        refine lv_dup hx hb dL_law_26 rfl ?_
        refine lv_aload_n hx hb dL_law_27 rfl (lv_at hl 0 rfl) ?_
        refine lv_iload_n hx hb dL_law_28 rfl (lv_at hl 3 rfl) ?_
        refine q_ci (va_runS (As := [.ref (E.2.2.2 108), .int (nI tm)]) (rest := [.ref N, .ref N]) ⟨hx, hb, hml, hown, hts⟩ (kL_cell l E (va_up F N (some (cDice 0))) (N + 1) tm (by omega)) (va_cwS 2 hts gL_law_L_cell rfl rfl rfl (by decide +kernel) ⟨(Nat.le_of_ble_eq_true rfl), (Nat.le_of_ble_eq_true rfl)⟩) (q_pS hA hW hS) rfl rfl hl.1 rfl (lv_room (Nat.le_of_ble_eq_true rfl)) dL_law_29 ⟨(by show _ ≤ 600086; omega), (by show _ ≤ 7301441; omega)⟩) hS (fun r_29 f_29 n_29 H locs hp hW hS => ?_)
        obtain ⟨rfl, rfl⟩ := hp
        refine lv_aload_n hx hb dL_law_32 rfl (lv_at hl 0 rfl) ?_
        refine lv_iload_n hx hb dL_law_33 rfl (lv_at hl 3 rfl) ?_
        refine lv_iconst (v := 3) hx hb dL_law_34 (by decide) ?_
        refine lv_iadd hx hb dL_law_35 ?_
        rw [show nI tm + 3 = nI (tm + 3) from nI_add tm 3]
        refine q_ci (va_runS (As := [.ref (E.2.2.2 108), .int (nI (tm + 3))]) (rest := [.int r_29, .ref N, .ref N]) ⟨hx, hb, hml, hown, hts⟩ (kL_cell l E (va_up F N (some (cDice 0))) (N + 1) (tm + 3) (by omega)) (va_cwS 2 hts gL_law_L_cell rfl rfl rfl (by decide +kernel) ⟨(Nat.le_of_ble_eq_true rfl), (Nat.le_of_ble_eq_true rfl)⟩) (q_pS hA hW hS) rfl rfl hl.1 rfl (lv_room (Nat.le_of_ble_eq_true rfl)) dL_law_36 ⟨(by show _ ≤ 600086; omega), (by show _ ≤ 7301441; omega)⟩) hS (fun r_36 f_36 n_36 H locs hp hW hS => ?_)
        obtain ⟨rfl, rfl⟩ := hp
        refine lv_bipush (v := 31) hx hb dL_law_39 (by decide) ?_
        refine lv_imul hx hb dL_law_41 ?_
        refine lv_ixor hx hb dL_law_42 ?_
        refine lv_aload_n hx hb dL_law_43 rfl (lv_at hl 0 rfl) ?_
        refine lv_iload_n hx hb dL_law_44 rfl (lv_at hl 3 rfl) ?_
        refine lv_bipush (v := 6) hx hb dL_law_45 (by decide) ?_
        refine lv_iadd hx hb dL_law_47 ?_
        rw [show nI tm + 6 = nI (tm + 6) from nI_add tm 6]
        refine q_ci (va_runS (As := [.ref (E.2.2.2 108), .int (nI (tm + 6))]) (rest := [.int (r_29 ^^^ (r_36 * 31)), .ref N, .ref N]) ⟨hx, hb, hml, hown, hts⟩ (kL_cell l E (va_up F N (some (cDice 0))) (N + 1) (tm + 6) (by omega)) (va_cwS 2 hts gL_law_L_cell rfl rfl rfl (by decide +kernel) ⟨(Nat.le_of_ble_eq_true rfl), (Nat.le_of_ble_eq_true rfl)⟩) (q_pS hA hW hS) rfl rfl hl.1 rfl (lv_room (Nat.le_of_ble_eq_true rfl)) dL_law_48 ⟨(by show _ ≤ 600086; omega), (by show _ ≤ 7301441; omega)⟩) hS (fun r_48 f_48 n_48 H locs hp hW hS => ?_)
        obtain ⟨rfl, rfl⟩ := hp
        refine lv_sipush (v := 1009) hx hb dL_law_51 (by decide) ?_
        refine lv_imul hx hb dL_law_54 ?_
        refine lv_ixor hx hb dL_law_55 ?_
        refine q_cv (va_runI (As := [.int ((r_29 ^^^ (r_36 * 31)) ^^^ (r_48 * 1009))]) (rest := [.ref N]) ⟨hx, hb, hml, hown, hts⟩ (kX14_init l E (va_up F N (some (cDice 0))) (N + 1) N ((r_29 ^^^ (r_36 * 31)) ^^^ (r_48 * 1009)) 0 q_eq) (cwI 1 hts gL_law_X14_init rfl rfl rfl (hts (.initialized RX14) (by decide +kernel)) (hts (.methodLink RL 150 yX14_init) (by decide +kernel)) (hts (.instanceMethod yX14_init) (by decide +kernel)) rfl (by decide +kernel) ⟨(Nat.le_of_ble_eq_true rfl), (Nat.le_of_ble_eq_true rfl)⟩) (q_pS hA hW hS) rfl rfl hl.1 rfl (lv_room (Nat.le_of_ble_eq_true rfl)) dL_law_56 ⟨(by show _ ≤ 600086; omega), (by show _ ≤ 7301441; omega)⟩) hS (fun f_56 n_56 H locs hp hW hS => ?_)
        obtain ⟨rfl, rfl⟩ := hp
        rw [q_upup] at hW
        have hW : q_W E (va_up F N (some (cDice ((r_29 ^^^ (r_36 * 31)) ^^^ (r_48 * 1009))))) (N + 1) H := hW
        refine lv_astore (lv' := [(4, .ref N), (0, .ref (E.2.2.2 108)), (1, .ref n), (2, .ref (n + 55)), (3, .int (nI tm))]) hx hb dL_law_59 hl (by decide) rfl (fun ls hl => ?_)
        refine q_new (ci := 1) hx hb hts hown hA hW hS iJ4 tyJ4 tyJ4_ok (hts (.classLink RL 32 RJ4) (by decide +kernel)) (hts (.instantiable RJ4 4) (by decide +kernel)) (hts (.initialized RJ4) (by decide +kernel)) rfl (fs := [.null, .int 0, .int 0, .int 0]) (by decide) (by show _ ≤ 600086; omega) (by show _ ≤ 7301441; omega) dL_law_61 (fun H hW hS => ?_)
        have hW : q_W E (va_up (va_up F N (some (cDice ((r_29 ^^^ (r_36 * 31)) ^^^ (r_48 * 1009))))) (N + 1) (some (rSB none 0 0 0))) (N + 1 + 1) H := hW
        refine lv_dup hx hb dL_law_64 rfl ?_
        refine q_cv (va_runI (As := []) (rest := [.ref (N + 1)]) ⟨hx, hb, hml, hown, hts⟩ (kJ4_init_da8c8 l E (va_up (va_up F N (some (cDice ((r_29 ^^^ (r_36 * 31)) ^^^ (r_48 * 1009))))) (N + 1) (some (rSB none 0 0 0))) (N + 2) (N + 1) q_eq) (cwI 0 hts gL_law_J4_init_da8c8 rfl rfl rfl (hts (.initialized RJ4) (by decide +kernel)) (hts (.methodLink RL 34 yJ4_init_da8c8) (by decide +kernel)) (hts (.instanceMethod yJ4_init_da8c8) (by decide +kernel)) rfl (by decide +kernel) ⟨(Nat.le_of_ble_eq_true rfl), (Nat.le_of_ble_eq_true rfl)⟩) (q_pS hA hW hS) rfl rfl hl.1 rfl (lv_room (Nat.le_of_ble_eq_true rfl)) dL_law_65 ⟨(by show _ ≤ 600086; omega), (by show _ ≤ 7301441; omega)⟩) hS (fun f_65 n_65 H locs hp hW hS => ?_)
        obtain ⟨e0_65, e1_65, en_65, hfr_65⟩ := hp
        have l_e0_65 := hW.lt e0_65
        have l_e1_65 := hW.lt e1_65
        have hN_65 : f_65 N = some (cDice ((r_29 ^^^ (r_36 * 31)) ^^^ (r_48 * 1009))) := (hfr_65 _ (by omega) (by omega)).trans (q_ne (by omega) q_eq)
        refine lv_astore (lv' := [(5, .ref (N + 1)), (4, .ref N), (0, .ref (E.2.2.2 108)), (1, .ref n), (2, .ref (n + 55)), (3, .int (nI tm))]) hx hb dL_law_68 hl (by decide) rfl (fun ls hl => ?_)
        refine lv_aload hx hb dL_law_70 (lv_at hl 1 rfl) ?_
        refine lv_aload hx hb dL_law_72 (lv_at hl 0 rfl) ?_
        refine lv_bipush (v := 14) hx hb dL_law_74 (by decide) ?_
        refine q_cq (va_runS (As := [.ref N, .ref (N + 1), .int 14]) (rest := []) ⟨hx, hb, hml, hown, hts⟩ (kL_drawn l E f_65 n_65 N (N + 1) (N + 2) 16 ((r_29 ^^^ (r_36 * 31)) ^^^ (r_48 * 1009)) hN_65 e0_65 e1_65 (by decide)) (va_cwS 3 hts gL_law_L_drawn rfl rfl rfl (by decide +kernel) ⟨(Nat.le_of_ble_eq_true rfl), (Nat.le_of_ble_eq_true rfl)⟩) (q_pS hA hW hS) rfl rfl hl.1 rfl (lv_room (Nat.le_of_ble_eq_true rfl)) dL_law_76 ⟨(by show _ ≤ 600086; omega), (by show _ ≤ 7301441; omega)⟩) hS (fun r_76 f_76 n_76 H locs hp hW hS => ?_)
        obtain ⟨k_76, s1_76, b1_76, m1_76, TW_76, rfl, e0_76, e1_76, e2_76, ed_76, em_76, em4_76, eb_76, eo_76, el_76, en_76, hfr_76⟩ := hp
        have l_e0_76 := hW.lt e0_76
        have l_e1_76 := hW.lt e1_76
        have l_e2_76 := hW.lt e2_76
        have hlt_76 : ∀ q x, (f_76) q = some x → q < n_76 := fun q x e => hW.lt e
        obtain ⟨pn, NR, ac, hd, RS, hTold, hsb, ⟨hpn8, hNR6, hp1, hp4, hN1, hN3⟩, hmake⟩ := ed_76.told eo_76 hlt_76
        refine lv_astore (lv' := [(6, .ref k_76), (5, .ref (N + 1)), (4, .ref N), (0, .ref (E.2.2.2 108)), (1, .ref n), (2, .ref (n + 55)), (3, .int (nI tm))]) hx hb dL_law_79 hl (by decide) rfl (fun ls hl => ?_)
        refine lv_aload_n hx hb dL_law_81 rfl (lv_at hl 4 rfl) ?_
        refine lv_aload hx hb dL_law_82 (lv_at hl 1 rfl) ?_
        refine q_cq (va_runV (As := []) (rest := [.ref n]) ⟨hx, hb, hml, hown, hts⟩ (kJ4_toString_0e30d l E f_76 n_76 (N + 1) b1_76 m1_76 2000 TW_76 e1_76 e2_76 em_76 (by omega) (by omega) (by omega) eo_76) (cwV 0 hts gL_law_J4_toString_0e30d rfl rfl rfl (by decide +kernel) ⟨(Nat.le_of_ble_eq_true rfl), (Nat.le_of_ble_eq_true rfl)⟩) (q_pV hA hW hS (ci := 1) rfl e1_76) rfl rfl hl.1 rfl (lv_room (Nat.le_of_ble_eq_true rfl)) dL_law_84 ⟨(by show _ ≤ 600086; omega), (by show _ ≤ 7301441; omega)⟩) hS (fun r_84 f_84 n_84 H locs hp hW hS => ?_)
        obtain ⟨rfl, e0_84, e1_84, en_84, hfr_84⟩ := hp
        have l_e0_84 := hW.lt e0_84
        have l_e1_84 := hW.lt e1_84
        have hN_84 : f_84 N = some (cDice s1_76) := (hfr_84 _ (by omega)).trans e0_76
        have hN___1_84 : f_84 (N + 1) = some (cSB b1_76 (nI TW_76.length)) := (hfr_84 _ (by omega)).trans e1_76
        have hb1_76_84 : f_84 b1_76 = some (aB E m1_76 (tx TW_76)) := (hfr_84 _ (by omega)).trans e2_76
        have hM87 : CM E n BBm (f_84) n_84 0 gm pnm rcm acm hdm vm RSm Qm := hCm.frame (fun q hq => by have h8 := hQm q hq; exact ((hfr_84 _ (by omega)).trans ((hfr_76 _ (by omega) (by omega) (by omega) (by omega)).trans ((hfr_65 _ (by omega) (by omega)).trans (q_ne (by omega) (q_ne (by omega) rfl)))))) (by omega) (Nat.le_refl _)
        have hW87 : CM E (n + 55) BBw (f_84) n_84 0 gw pnw rcw acw hdw vw RSw Qw := hCw.frame (fun q hq => by have h8 := hQw q hq; exact ((hfr_84 _ (by omega)).trans ((hfr_76 _ (by omega) (by omega) (by omega) (by omega)).trans ((hfr_65 _ (by omega) (by omega)).trans (q_ne (by omega) (q_ne (by omega) rfl)))))) (by omega) (Nat.le_refl _)
        refine q_ci (va_runS (As := [.ref n, .ref n_76]) (rest := []) ⟨hx, hb, hml, hown, hts⟩ (kL_taught l E f_84 n_84 n BBm gm pnm rcm acm hdm vm RSm Qm n_76 (n_76 + 1) TW_76 pn NR ac hd RS e0_84 e1_84 hM87 (fun q hq => by have h8 := hQm q hq; omega) hTold hsb hpn8 hNR6 (by omega) eo_76 (by omega) (by omega) (by omega)) (va_cwS 2 hts gL_law_L_taught rfl rfl rfl (by decide +kernel) ⟨(Nat.le_of_ble_eq_true rfl), (Nat.le_of_ble_eq_true rfl)⟩) (q_pS hA hW hS) rfl rfl hl.1 rfl (lv_room (Nat.le_of_ble_eq_true rfl)) dL_law_87 ⟨(by show _ ≤ 600086; omega), (by show _ ≤ 7301441; omega)⟩) hS (fun r_87 f_87 n_87 H locs hp hW hS => ?_)
        obtain ⟨rfl, eT_87, en_87, hfr_87⟩ := hp
        obtain ⟨g9, hd9, RS9, hh9, hR9, hM9⟩ := eT_87
        have hJ87 : JA E n (n + 55) (n_65) (N) k_76 s1_76 (fun _ => False) f_87 n_87 100 pn NR (nI ac) hd9 (z_bgn vm pn) (z_bgn vm pn) RS9 := hmake n (n + 55) (N) n_84 n_87 s1_76 f_87 g9 hd9 vm RS9 Qw hM9 hh9 hR9 (fun q h1 h2 => (hfr_87 q h1 (by omega)).trans (hfr_84 q (by omega))) ⟨_, _, _, _, _, _, _, _, hW87.frame (fun q hq => by have h8 := hQw q hq; exact hfr_87 q h8.2 (by omega)) (by omega) (Nat.le_refl _)⟩ (fun q hq => by have h8 := hQw q hq; exact ⟨by omega, h8.2, by omega⟩) ((hfr_87 _ (by omega) (by omega)).trans hN_84) ⟨by omega, by omega, by omega, by omega, by omega, by omega⟩
        refine lv_if_eq (tgt := 95) hx hb dL_law_90 (by decide) (fun c_90 => ?_) (fun c_90 => absurd c_90 (by decide))
        refine lv_aload_n hx hb dL_law_95 rfl (lv_at hl 4 rfl) ?_
        refine q_ci (va_runV (As := []) (rest := []) ⟨hx, hb, hml, hown, hts⟩ (ja_pans l E f_87 n_87 n (n + 55) n_65 N k_76 s1_76 (fun _ => False) 100 pn NR (nI ac) hd9 (z_bgn vm pn) (z_bgn vm pn) RS9 hJ87 (fun q x e => hW.lt e)) (cwV 0 hts gL_law_X12_pans rfl rfl rfl (by decide +kernel) ⟨(Nat.le_of_ble_eq_true rfl), (Nat.le_of_ble_eq_true rfl)⟩) (q_pV hA hW hS (ci := 12) rfl (Classical.choose_spec (Classical.choose_spec (Classical.choose_spec (Classical.choose_spec (Classical.choose_spec (Classical.choose_spec (Classical.choose_spec hJ87.cell)))))))) rfl rfl hl.1 rfl (lv_room (Nat.le_of_ble_eq_true rfl)) dL_law_96 ⟨(by show _ ≤ 600086; omega), (by show _ ≤ 7301441; omega)⟩) hS (fun r_96 f_96 n_96 H locs hp hW hS => ?_)
        obtain ⟨rfl, rfl, rfl⟩ := hp
        have hW : q_W E (f_87) n_87 H := hW
        refine lv_istore (lv' := [(7, .int (nI pn)), (6, .ref k_76), (5, .ref (N + 1)), (4, .ref N), (0, .ref (E.2.2.2 108)), (1, .ref n), (2, .ref (n + 55)), (3, .int (nI tm))]) hx hb dL_law_99 hl (by decide) rfl (fun ls hl => ?_)
        refine lv_iconst (v := 0) hx hb dL_law_101 (by decide) ?_
        refine lv_istore (lv' := [(8, .int 0), (7, .int (nI pn)), (6, .ref k_76), (5, .ref (N + 1)), (4, .ref N), (0, .ref (E.2.2.2 108)), (1, .ref n), (2, .ref (n + 55)), (3, .int (nI tm))]) hx hb dL_law_102 hl (by decide) rfl (fun ls hl => ?_)
        have K104 : ∀ (fu : Nat) (G : q_H) (M : Nat) (sp : Nat) (v : q_V) (s9 : Int32) (BB : Nat) (hJ : JA E n (n + 55) n_65 N k_76 s9 (fun _ => False) G M BB pn NR (nI ac) hd9 v v RS9) (hBB : BB ≤ 100 + 400 * sp) (hsp : sp ≤ 8) (hMn : n + 110 ≤ M) (hm : 8 - sp < fu) (H : Heap) (locs : List Loc) (ls : Array Slot), q_W E (G) M H → va_S (q_ge E) s0_.heap H locs → lv_has ls 33 [(0, .ref (E.2.2.2 108)), (1, .ref n), (2, .ref (n + 55)), (3, .int (nI tm)), (4, .ref N), (6, .ref k_76), (7, .int (nI pn)), (8, .int (nI sp))] → W p0_ l e0_ room_1 s0_ m0_ #[Value.ref (E.2.2.2 108)] below0_ meth0_ c0_ H locs (110 + 26000 * tm + 21000 + 450 * sp) (6614 + 1700000 * tm + 1480000 + 9000 * sp) Q9 (F0 m0_ 104 ls []) := by
          intro fu
          induction fu with
          | zero =>
            intro G M sp v s9 BB hJ hBB hsp hMn hm
            exact absurd hm (Nat.not_lt_zero _)
          | succ fu ih =>
            intro G M sp v s9 BB hJ hBB hsp hMn hm H locs ls hW hS hl
            have ihS := ih
            have hmS := hm
            refine lv_iload hx hb dL_law_104 (lv_at hl 7 rfl) ?_
            refine lv_bipush (v := 8) hx hb dL_law_106 (by decide) ?_
            refine lv_icmp_ge (tgt := 1096) hx hb dL_law_108 (by decide) (fun c_108 => ?_) (fun c_108 => ?_)
            · refine lv_aload hx hb dL_law_1096 (lv_at hl 5 rfl) ?_
              refine lv_aload_n hx hb dL_law_1098 rfl (lv_at hl 1 rfl) ?_
              obtain ⟨P_1099, pa_1099, re_1099, ki_1099, wa_1099, no_1099, pr_1099, b_1099, w_1099, hK_1099, hs_1099, hR_1099, hO_1099, hXk_1099, hck_1099⟩ := hJ.k
              obtain ⟨hk0_1099, ⟨gk_1099, hki_1099, hkv_1099⟩, ⟨gw_1099, hwa_1099, hwv_1099⟩, ⟨gn_1099, hno_1099, hnv_1099⟩, ⟨gp_1099, hpa_1099, hpv_1099⟩, hrow_1099⟩ := id hK_1099
              obtain ⟨gre_1099, hPre_1099, hre_1099, -⟩ := id hR_1099
              have lk_1099 := hW.lt hk0_1099
              have lki_1099 := hW.lt hki_1099
              have lwa_1099 := hW.lt hwa_1099
              have lno_1099 := hW.lt hno_1099
              have lpa_1099 := hW.lt hpa_1099
              have nk_1099 := hJ.ne
              have npa_1099 := ne_ab hJ.dice hpa_1099
              have nre_1099 := ne_ab hJ.dice hre_1099
              have nki_1099 := ne_ab hJ.dice hki_1099
              have nwa_1099 := ne_ab hJ.dice hwa_1099
              have nno_1099 := ne_ab hJ.dice hno_1099
              have lre_1099 := hW.lt hre_1099
              refine q_ci (va_runV (As := [.ref n]) (rest := []) ⟨hx, hb, hml, hown, hts⟩ (kX15_isSame l E G M n (n + 55) n_65 N k_76 s9 (fun _ => False) BB pn NR (nI ac) hd9 v RS9 hJ (by omega)) (cwV 1 hts gL_law_X15_isSame rfl rfl rfl (by decide +kernel) ⟨(Nat.le_of_ble_eq_true rfl), (Nat.le_of_ble_eq_true rfl)⟩) (q_pV hA hW hS (ci := 15) rfl hk0_1099) rfl rfl hl.1 rfl (lv_room (Nat.le_of_ble_eq_true rfl)) dL_law_1099 ⟨(by show _ ≤ 600086; omega), (by show _ ≤ 7301441; omega)⟩) hS (fun r_1099 f_1099 n_1099 H locs hp hW hS => ?_)
              obtain ⟨rfl, rfl, rfl⟩ := hp
              have hW : q_W E (G) M H := hW
              refine lv_if_ne (tgt := 1107) hx hb dL_law_1102 (by decide) (fun c_1102 => ?_) (fun c_1102 => absurd c_1102 (by decide))
              refine lv_aload hx hb dL_law_1107 (lv_at hl 4 rfl) ?_
              refine lv_bipush (v := 61) hx hb dL_law_1109 (by decide) ?_
              have hlt_1111 : ∀ q x, (G) q = some x → q < M := fun q x e => hW.lt e
              refine q_ci (va_runV (As := [.int 61]) (rest := []) ⟨hx, hb, hml, hown, hts⟩ (kX14_next l E G M N 61 s9 hJ.dice (by omega) (by omega)) (cwV 1 hts gL_law_X14_next rfl rfl rfl (by decide +kernel) ⟨(Nat.le_of_ble_eq_true rfl), (Nat.le_of_ble_eq_true rfl)⟩) (q_pV hA hW hS (ci := 14) rfl hJ.dice) rfl rfl hl.1 rfl (lv_room (Nat.le_of_ble_eq_true rfl)) dL_law_1111 ⟨(by show _ ≤ 600086; omega), (by show _ ≤ 7301441; omega)⟩) hS (fun r_1111 f_1111 n_1111 H locs hp hW hS => ?_)
              obtain ⟨j_1111, s1_1111, rfl, e0_1111, ej_1111, en_1111, hfr_1111⟩ := hp
              have l_e0_1111 := hW.lt e0_1111
              have hk_76_1111 : f_1111 k_76 = some (cLK (v 0) (v 1) (v 2) (v 3) (some pa_1099) (some re_1099) (some ki_1099) (some wa_1099) (some no_1099) (v 5) (nI b_1099) w_1099) := (hfr_1111 _ (by omega)).trans hk0_1099
              have hpa_1099_1111 : f_1111 pa_1099 = some (aQ E 8 pn gp_1099) := (hfr_1111 _ (by omega)).trans hpa_1099
              have hre_1099_1111 : f_1111 re_1099 = some (aQ E 9 NR gre_1099) := (hfr_1111 _ (by omega)).trans hre_1099
              have hJ_1111 : JA E n (n + 55) n_65 N k_76 s1_1111 (fun _ => False) f_1111 n_1111 BB pn NR (nI ac) hd9 v v RS9 := hJ.out hlt_1111 (fun q h1 h2 => hfr_1111 q h2) (Nat.le_of_eq en_1111.symm) e0_1111 (fun q hq => Or.inl hq)
              refine lv_istore (lv' := [(8, .int (nI j_1111)), (0, .ref (E.2.2.2 108)), (1, .ref n), (2, .ref (n + 55)), (3, .int (nI tm)), (4, .ref N), (6, .ref k_76), (7, .int (nI pn))]) hx hb dL_law_1114 hl (by decide) rfl (fun ls hl => ?_)
              refine lv_iconst (v := 1) hx hb dL_law_1116 (by decide) ?_
              refine lv_aload hx hb dL_law_1117 (lv_at hl 5 rfl) ?_
              refine lv_bipush (v := 30) hx hb dL_law_1119 (by decide) ?_
              have hlt_1121 : ∀ q x, (f_1111) q = some x → q < n_1111 := fun q x e => hW.lt e
              refine q_ci (va_runV (As := [.int 30]) (rest := [.int 1]) ⟨hx, hb, hml, hown, hts⟩ (kX14_next l E f_1111 n_1111 N 30 s1_1111 e0_1111 (by omega) (by omega)) (cwV 1 hts gL_law_X14_next rfl rfl rfl (by decide +kernel) ⟨(Nat.le_of_ble_eq_true rfl), (Nat.le_of_ble_eq_true rfl)⟩) (q_pV hA hW hS (ci := 14) rfl e0_1111) rfl rfl hl.1 rfl (lv_room (Nat.le_of_ble_eq_true rfl)) dL_law_1121 ⟨(by show _ ≤ 600086; omega), (by show _ ≤ 7301441; omega)⟩) hS (fun r_1121 f_1121 n_1121 H locs hp hW hS => ?_)
              obtain ⟨j_1121, s1_1121, rfl, e0_1121, ej_1121, en_1121, hfr_1121⟩ := hp
              have l_e0_1121 := hW.lt e0_1121
              have hk_76_1121 : f_1121 k_76 = some (cLK (v 0) (v 1) (v 2) (v 3) (some pa_1099) (some re_1099) (some ki_1099) (some wa_1099) (some no_1099) (v 5) (nI b_1099) w_1099) := (hfr_1121 _ (by omega)).trans hk_76_1111
              have hpa_1099_1121 : f_1121 pa_1099 = some (aQ E 8 pn gp_1099) := (hfr_1121 _ (by omega)).trans hpa_1099_1111
              have hre_1099_1121 : f_1121 re_1099 = some (aQ E 9 NR gre_1099) := (hfr_1121 _ (by omega)).trans hre_1099_1111
              have hJ_1121 : JA E n (n + 55) n_65 N k_76 s1_1121 (fun _ => False) f_1121 n_1121 BB pn NR (nI ac) hd9 v v RS9 := hJ_1111.out hlt_1121 (fun q h1 h2 => hfr_1121 q h2) (Nat.le_of_eq en_1121.symm) e0_1121 (fun q hq => Or.inl hq)
              refine lv_iadd hx hb dL_law_1124 ?_
              rw [show 1 + nI j_1121 = nI (1 + j_1121) from nI_add 1 j_1121]
              refine lv_istore (lv' := [(9, .int (nI (1 + j_1121))), (8, .int (nI j_1111)), (0, .ref (E.2.2.2 108)), (1, .ref n), (2, .ref (n + 55)), (3, .int (nI tm)), (4, .ref N), (6, .ref k_76), (7, .int (nI pn))]) hx hb dL_law_1125 hl (by decide) rfl (fun ls hl => ?_)
              have hlt_1121c : ∀ q x, (f_1121) q = some x → q < n_1121 := fun q x e => hW.lt e
              refine lv_aload_n hx hb dL_law_1127 rfl (lv_at hl 4 rfl) ?_
              refine q_new (ci := 1) hx hb hts hown hA hW hS iJ4 tyJ4 tyJ4_ok (hts (.classLink RL 32 RJ4) (by decide +kernel)) (hts (.instantiable RJ4 4) (by decide +kernel)) (hts (.initialized RJ4) (by decide +kernel)) rfl (fs := [.null, .int 0, .int 0, .int 0]) (by decide) (by show _ ≤ 600086; omega) (by show _ ≤ 7301441; omega) dL_law_1128 (fun H hW hS => ?_)
              have hW : q_W E (va_up f_1121 n_1121 (some (rSB none 0 0 0))) (n_1121 + 1) H := hW
              refine lv_dup hx hb dL_law_1131 rfl ?_
              refine q_cv (va_runI (As := []) (rest := [.ref n_1121, .ref (n + 55)]) ⟨hx, hb, hml, hown, hts⟩ (kJ4_init_da8c8 l E (va_up f_1121 n_1121 (some (rSB none 0 0 0))) (n_1121 + 1) n_1121 q_eq) (cwI 0 hts gL_law_J4_init_da8c8 rfl rfl rfl (hts (.initialized RJ4) (by decide +kernel)) (hts (.methodLink RL 34 yJ4_init_da8c8) (by decide +kernel)) (hts (.instanceMethod yJ4_init_da8c8) (by decide +kernel)) rfl (by decide +kernel) ⟨(Nat.le_of_ble_eq_true rfl), (Nat.le_of_ble_eq_true rfl)⟩) (q_pS hA hW hS) rfl rfl hl.1 rfl (lv_room (Nat.le_of_ble_eq_true rfl)) dL_law_1132 ⟨(by show _ ≤ 600086; omega), (by show _ ≤ 7301441; omega)⟩) hS (fun f_1132 n_1132 H locs hp hW hS => ?_)
              obtain ⟨e0_1132, e1_1132, en_1132, hfr_1132⟩ := hp
              have l_e0_1132 := hW.lt e0_1132
              have l_e1_1132 := hW.lt e1_1132
              have hk_76_1132 : f_1132 k_76 = some (cLK (v 0) (v 1) (v 2) (v 3) (some pa_1099) (some re_1099) (some ki_1099) (some wa_1099) (some no_1099) (v 5) (nI b_1099) w_1099) := (hfr_1132 _ (by omega) (by omega)).trans (q_ne (by omega) hk_76_1121)
              have hpa_1099_1132 : f_1132 pa_1099 = some (aQ E 8 pn gp_1099) := (hfr_1132 _ (by omega) (by omega)).trans (q_ne (by omega) hpa_1099_1121)
              have hre_1099_1132 : f_1132 re_1099 = some (aQ E 9 NR gre_1099) := (hfr_1132 _ (by omega) (by omega)).trans (q_ne (by omega) hre_1099_1121)
              have hN_1132 : f_1132 N = some (cDice s1_1121) := (hfr_1132 _ (by omega) (by omega)).trans (q_ne (by omega) e0_1121)
              refine va_ldcS (own := "HighRecipesLaw") hx hb hown (q_ldk hA (i := 31) (by decide)) dL_law_1135 ?_
              refine q_cq (va_runV (As := [.ref (E.2.2.2 (200 + 31))]) (rest := [.ref (n + 55)]) ⟨hx, hb, hml, hown, hts⟩ (kJ4_append_k l E f_1132 n_1132 n_1121 (n_1121 + 1) 16 31 2000 ([] : List Int32) e0_1132 e1_1132 (by (try simp only [List.length_append, List.length_nil, List.length_cons, pT_len, ktl_0, ktl_1, ktl_2, ktl_3, ktl_4, ktl_5, ktl_6, ktl_7, ktl_8, ktl_9, ktl_10, ktl_11, ktl_12, ktl_13, ktl_14, ktl_15, ktl_16, ktl_17, ktl_18, ktl_19, ktl_20, ktl_21, ktl_22, ktl_23, ktl_24, ktl_25, ktl_26, ktl_27, ktl_28, ktl_29, ktl_30, ktl_31, ktl_32, ktl_33, ktl_34, ktl_35, ktl_36, ktl_37, ktl_38, ktl_39, ktl_40, ktl_41, ktl_42, ktl_43, ktl_44, ktl_45, ktl_46, ktl_47, ktl_48, ktl_49]); omega) (by omega) (by omega) (by first | assumption | decide) (by repeat (first | exact okb_nil | assumption | exact kt_okb (by omega) | exact okb_pT (by omega) | exact dg_ok _ (by omega) | exact okb_one (by omega) | apply okb_app)) (by omega)) (cwV 1 hts gL_law_J4_append_15ec4 rfl rfl rfl (by decide +kernel) ⟨(Nat.le_of_ble_eq_true rfl), (Nat.le_of_ble_eq_true rfl)⟩) (q_pV hA hW hS (ci := 1) rfl e0_1132) rfl rfl hl.1 rfl (lv_room (Nat.le_of_ble_eq_true rfl)) dL_law_1137 ⟨(by show _ ≤ 600086; omega), (by show _ ≤ 7301441; omega)⟩) hS (fun r_1137 f_1137 n_1137 H locs hp hW hS => ?_)
              obtain ⟨b1_1137, m1_1137, rfl, e0_1137, e1_1137, el_1137, em4_1137, eb_1137, en_1137, hfr_1137⟩ := hp
              have l_e0_1137 := hW.lt e0_1137
              have l_e1_1137 := hW.lt e1_1137
              have hk_76_1137 : f_1137 k_76 = some (cLK (v 0) (v 1) (v 2) (v 3) (some pa_1099) (some re_1099) (some ki_1099) (some wa_1099) (some no_1099) (v 5) (nI b_1099) w_1099) := (hfr_1137 _ (by omega) (by omega) (by omega)).trans hk_76_1132
              have hpa_1099_1137 : f_1137 pa_1099 = some (aQ E 8 pn gp_1099) := (hfr_1137 _ (by omega) (by omega) (by omega)).trans hpa_1099_1132
              have hre_1099_1137 : f_1137 re_1099 = some (aQ E 9 NR gre_1099) := (hfr_1137 _ (by omega) (by omega) (by omega)).trans hre_1099_1132
              have hN_1137 : f_1137 N = some (cDice s1_1121) := (hfr_1137 _ (by omega) (by omega) (by omega)).trans hN_1132
              refine lv_aload hx hb dL_law_1140 (lv_at hl 6 rfl) ?_
              refine lv_sipush (v := 200) hx hb dL_law_1142 (by decide) ?_
              have hlt_1145 : ∀ q x, (f_1137) q = some x → q < n_1137 := fun q x e => hW.lt e
              refine q_ci (va_runV (As := [.int 200]) (rest := [.ref n_1121, .ref (n + 55)]) ⟨hx, hb, hml, hown, hts⟩ (kX14_next l E f_1137 n_1137 N 200 s1_1121 hN_1137 (by omega) (by omega)) (cwV 1 hts gL_law_X14_next rfl rfl rfl (by decide +kernel) ⟨(Nat.le_of_ble_eq_true rfl), (Nat.le_of_ble_eq_true rfl)⟩) (q_pV hA hW hS (ci := 14) rfl hN_1137) rfl rfl hl.1 rfl (lv_room (Nat.le_of_ble_eq_true rfl)) dL_law_1145 ⟨(by show _ ≤ 600086; omega), (by show _ ≤ 7301441; omega)⟩) hS (fun r_1145 f_1145 n_1145 H locs hp hW hS => ?_)
              obtain ⟨j_1145, s1_1145, rfl, e0_1145, ej_1145, en_1145, hfr_1145⟩ := hp
              have l_e0_1145 := hW.lt e0_1145
              have hk_76_1145 : f_1145 k_76 = some (cLK (v 0) (v 1) (v 2) (v 3) (some pa_1099) (some re_1099) (some ki_1099) (some wa_1099) (some no_1099) (v 5) (nI b_1099) w_1099) := (hfr_1145 _ (by omega)).trans hk_76_1137
              have hpa_1099_1145 : f_1145 pa_1099 = some (aQ E 8 pn gp_1099) := (hfr_1145 _ (by omega)).trans hpa_1099_1137
              have hre_1099_1145 : f_1145 re_1099 = some (aQ E 9 NR gre_1099) := (hfr_1145 _ (by omega)).trans hre_1099_1137
              have hn_1121_1145 : f_1145 n_1121 = some (cSB b1_1137 (nI (([] : List Int32) ++ kt 31).length)) := (hfr_1145 _ (by omega)).trans e0_1137
              have hb1_1137_1145 : f_1145 b1_1137 = some (aB E m1_1137 (tx (([] : List Int32) ++ kt 31))) := (hfr_1145 _ (by omega)).trans e1_1137
              have hJ_1145 : JA E n (n + 55) n_65 N k_76 s1_1145 (fun _ => False) f_1145 n_1145 BB pn NR (nI ac) hd9 v v RS9 := hJ_1121.out hlt_1121c (fun q h1 h2 => (hfr_1145 q h2).trans ((hfr_1137 _ (by omega) (by omega) (by omega)).trans ((hfr_1132 _ (by omega) (by omega)).trans (q_ne (by omega) rfl)))) (by omega) e0_1145 (fun q hq => Or.inl hq)
              refine q_cq (va_runV (As := [.int (nI j_1145)]) (rest := [.ref (n + 55)]) ⟨hx, hb, hml, hown, hts⟩ (kJ4_append_bf812 l E f_1145 n_1145 n_1121 b1_1137 m1_1137 j_1145 2000 (([] : List Int32) ++ kt 31) hn_1121_1145 hb1_1137_1145 (by (try simp only [List.length_append, List.length_nil, List.length_cons, pT_len, ktl_0, ktl_1, ktl_2, ktl_3, ktl_4, ktl_5, ktl_6, ktl_7, ktl_8, ktl_9, ktl_10, ktl_11, ktl_12, ktl_13, ktl_14, ktl_15, ktl_16, ktl_17, ktl_18, ktl_19, ktl_20, ktl_21, ktl_22, ktl_23, ktl_24, ktl_25, ktl_26, ktl_27, ktl_28, ktl_29, ktl_30, ktl_31, ktl_32, ktl_33, ktl_34, ktl_35, ktl_36, ktl_37, ktl_38, ktl_39, ktl_40, ktl_41, ktl_42, ktl_43, ktl_44, ktl_45, ktl_46, ktl_47, ktl_48, ktl_49]); omega) (by omega) (by omega) (by first | assumption | decide) (by repeat (first | exact okb_nil | assumption | exact kt_okb (by omega) | exact okb_pT (by omega) | exact dg_ok _ (by omega) | exact okb_one (by omega) | apply okb_app)) (by omega)) (cwV 1 hts gL_law_J4_append_bf812 rfl rfl rfl (by decide +kernel) ⟨(Nat.le_of_ble_eq_true rfl), (Nat.le_of_ble_eq_true rfl)⟩) (q_pV hA hW hS (ci := 1) rfl hn_1121_1145) rfl rfl hl.1 rfl (lv_room (Nat.le_of_ble_eq_true rfl)) dL_law_1148 ⟨(by show _ ≤ 600086; omega), (by show _ ≤ 7301441; omega)⟩) hS (fun r_1148 f_1148 n_1148 H locs hp hW hS => ?_)
              obtain ⟨b1_1148, m1_1148, rfl, e0_1148, e1_1148, el_1148, em4_1148, eb_1148, en_1148, hfr_1148⟩ := hp
              have l_e0_1148 := hW.lt e0_1148
              have l_e1_1148 := hW.lt e1_1148
              have hk_76_1148 : f_1148 k_76 = some (cLK (v 0) (v 1) (v 2) (v 3) (some pa_1099) (some re_1099) (some ki_1099) (some wa_1099) (some no_1099) (v 5) (nI b_1099) w_1099) := (hfr_1148 _ (by omega) (by omega) (by omega)).trans hk_76_1145
              have hpa_1099_1148 : f_1148 pa_1099 = some (aQ E 8 pn gp_1099) := (hfr_1148 _ (by omega) (by omega) (by omega)).trans hpa_1099_1145
              have hre_1099_1148 : f_1148 re_1099 = some (aQ E 9 NR gre_1099) := (hfr_1148 _ (by omega) (by omega) (by omega)).trans hre_1099_1145
              have hN_1148 : f_1148 N = some (cDice s1_1145) := (hfr_1148 _ (by omega) (by omega) (by omega)).trans e0_1145
              have hdg9 := dg_len j_1145
              refine va_ldcS (own := "HighRecipesLaw") hx hb hown (q_ldk hA (i := 32) (by decide)) dL_law_1151 ?_
              refine q_cq (va_runV (As := [.ref (E.2.2.2 (200 + 32))]) (rest := [.ref (n + 55)]) ⟨hx, hb, hml, hown, hts⟩ (kJ4_append_k l E f_1148 n_1148 n_1121 b1_1148 m1_1148 32 2000 ((([] : List Int32) ++ kt 31) ++ dg j_1145) e0_1148 e1_1148 (by (try simp only [List.length_append, List.length_nil, List.length_cons, pT_len, ktl_0, ktl_1, ktl_2, ktl_3, ktl_4, ktl_5, ktl_6, ktl_7, ktl_8, ktl_9, ktl_10, ktl_11, ktl_12, ktl_13, ktl_14, ktl_15, ktl_16, ktl_17, ktl_18, ktl_19, ktl_20, ktl_21, ktl_22, ktl_23, ktl_24, ktl_25, ktl_26, ktl_27, ktl_28, ktl_29, ktl_30, ktl_31, ktl_32, ktl_33, ktl_34, ktl_35, ktl_36, ktl_37, ktl_38, ktl_39, ktl_40, ktl_41, ktl_42, ktl_43, ktl_44, ktl_45, ktl_46, ktl_47, ktl_48, ktl_49]); omega) (by omega) (by omega) (by first | assumption | decide) (by repeat (first | exact okb_nil | assumption | exact kt_okb (by omega) | exact okb_pT (by omega) | exact dg_ok _ (by omega) | exact okb_one (by omega) | apply okb_app)) (by omega)) (cwV 1 hts gL_law_J4_append_15ec4 rfl rfl rfl (by decide +kernel) ⟨(Nat.le_of_ble_eq_true rfl), (Nat.le_of_ble_eq_true rfl)⟩) (q_pV hA hW hS (ci := 1) rfl e0_1148) rfl rfl hl.1 rfl (lv_room (Nat.le_of_ble_eq_true rfl)) dL_law_1153 ⟨(by show _ ≤ 600086; omega), (by show _ ≤ 7301441; omega)⟩) hS (fun r_1153 f_1153 n_1153 H locs hp hW hS => ?_)
              obtain ⟨b1_1153, m1_1153, rfl, e0_1153, e1_1153, el_1153, em4_1153, eb_1153, en_1153, hfr_1153⟩ := hp
              have l_e0_1153 := hW.lt e0_1153
              have l_e1_1153 := hW.lt e1_1153
              have hk_76_1153 : f_1153 k_76 = some (cLK (v 0) (v 1) (v 2) (v 3) (some pa_1099) (some re_1099) (some ki_1099) (some wa_1099) (some no_1099) (v 5) (nI b_1099) w_1099) := (hfr_1153 _ (by omega) (by omega) (by omega)).trans hk_76_1148
              have hpa_1099_1153 : f_1153 pa_1099 = some (aQ E 8 pn gp_1099) := (hfr_1153 _ (by omega) (by omega) (by omega)).trans hpa_1099_1148
              have hre_1099_1153 : f_1153 re_1099 = some (aQ E 9 NR gre_1099) := (hfr_1153 _ (by omega) (by omega) (by omega)).trans hre_1099_1148
              have hN_1153 : f_1153 N = some (cDice s1_1145) := (hfr_1153 _ (by omega) (by omega) (by omega)).trans hN_1148
              refine q_cq (va_runV (As := []) (rest := [.ref (n + 55)]) ⟨hx, hb, hml, hown, hts⟩ (kJ4_toString_0e30d l E f_1153 n_1153 n_1121 b1_1153 m1_1153 2000 (((([] : List Int32) ++ kt 31) ++ dg j_1145) ++ kt 32) e0_1153 e1_1153 (by assumption) (by omega) (by (try simp only [List.length_append, List.length_nil, List.length_cons, pT_len, ktl_0, ktl_1, ktl_2, ktl_3, ktl_4, ktl_5, ktl_6, ktl_7, ktl_8, ktl_9, ktl_10, ktl_11, ktl_12, ktl_13, ktl_14, ktl_15, ktl_16, ktl_17, ktl_18, ktl_19, ktl_20, ktl_21, ktl_22, ktl_23, ktl_24, ktl_25, ktl_26, ktl_27, ktl_28, ktl_29, ktl_30, ktl_31, ktl_32, ktl_33, ktl_34, ktl_35, ktl_36, ktl_37, ktl_38, ktl_39, ktl_40, ktl_41, ktl_42, ktl_43, ktl_44, ktl_45, ktl_46, ktl_47, ktl_48, ktl_49]); omega) (by omega) (by repeat (first | exact okb_nil | assumption | exact kt_okb (by omega) | exact okb_pT (by omega) | exact dg_ok _ (by omega) | exact okb_one (by omega) | apply okb_app))) (cwV 0 hts gL_law_J4_toString_0e30d rfl rfl rfl (by decide +kernel) ⟨(Nat.le_of_ble_eq_true rfl), (Nat.le_of_ble_eq_true rfl)⟩) (q_pV hA hW hS (ci := 1) rfl e0_1153) rfl rfl hl.1 rfl (lv_room (Nat.le_of_ble_eq_true rfl)) dL_law_1156 ⟨(by show _ ≤ 600086; omega), (by show _ ≤ 7301441; omega)⟩) hS (fun r_1156 f_1156 n_1156 H locs hp hW hS => ?_)
              obtain ⟨rfl, e0_1156, e1_1156, en_1156, hfr_1156⟩ := hp
              have l_e0_1156 := hW.lt e0_1156
              have l_e1_1156 := hW.lt e1_1156
              have hk_76_1156 : f_1156 k_76 = some (cLK (v 0) (v 1) (v 2) (v 3) (some pa_1099) (some re_1099) (some ki_1099) (some wa_1099) (some no_1099) (v 5) (nI b_1099) w_1099) := (hfr_1156 _ (by omega)).trans hk_76_1153
              have hpa_1099_1156 : f_1156 pa_1099 = some (aQ E 8 pn gp_1099) := (hfr_1156 _ (by omega)).trans hpa_1099_1153
              have hre_1099_1156 : f_1156 re_1099 = some (aQ E 9 NR gre_1099) := (hfr_1156 _ (by omega)).trans hre_1099_1153
              have hN_1156 : f_1156 N = some (cDice s1_1145) := (hfr_1156 _ (by omega)).trans hN_1153
              have hn_1121_1156 : f_1156 n_1121 = some (cSB b1_1153 (nI (((([] : List Int32) ++ kt 31) ++ dg j_1145) ++ kt 32).length)) := (hfr_1156 _ (by omega)).trans e0_1153
              have hb1_1153_1156 : f_1156 b1_1153 = some (aB E m1_1153 (tx (((([] : List Int32) ++ kt 31) ++ dg j_1145) ++ kt 32))) := (hfr_1156 _ (by omega)).trans e1_1153
              obtain ⟨Qm9, Qw9, ⟨B1, g1, p1, r1, a1, d1, v1, R1, hC1⟩, ⟨B2, g2, p2, r2, a2, d2, v2, R2, hC2⟩, hQ1, hQ2⟩ := hJ_1121.cb2
              have hM1 : CM E n B1 (f_1156) n_1156 0 g1 p1 r1 a1 d1 v1 R1 Qm9 := hC1.frame (fun q hq => by have h8 := hQ1 q hq; exact ((hfr_1156 _ (by omega)).trans ((hfr_1153 _ (by omega) (by omega) (by omega)).trans ((hfr_1148 _ (by omega) (by omega) (by omega)).trans ((hfr_1145 _ (by omega)).trans ((hfr_1137 _ (by omega) (by omega) (by omega)).trans ((hfr_1132 _ (by omega) (by omega)).trans (q_ne (by omega) rfl)))))))) (by omega) (Nat.le_refl _)
              have hM2 : CM E (n + 55) B2 (f_1156) n_1156 0 g2 p2 r2 a2 d2 v2 R2 Qw9 := hC2.frame (fun q hq => by have h8 := hQ2 q hq; exact ((hfr_1156 _ (by omega)).trans ((hfr_1153 _ (by omega) (by omega) (by omega)).trans ((hfr_1148 _ (by omega) (by omega) (by omega)).trans ((hfr_1145 _ (by omega)).trans ((hfr_1137 _ (by omega) (by omega) (by omega)).trans ((hfr_1132 _ (by omega) (by omega)).trans (q_ne (by omega) rfl)))))))) (by omega) (Nat.le_refl _)
              have hT9 : TOLD (sTW j_1145) 1 1 2 (fun _ => nI 30) (fun _ => bS [s1 j_1145, s2]) := fun g et n9 hg => by
                obtain ⟨hT, hKl⟩ := TOK_all (s_okb (N := j_1145) (by omega)) hg (s_tok (by omega))
                exact s_book (by omega) hT hKl
              refine q_ci (va_runS (As := [.ref (n + 55), .ref n_1153]) (rest := []) ⟨hx, hb, hml, hown, hts⟩ (kL_taught l E f_1156 n_1156 (n + 55) B2 g2 p2 r2 a2 d2 v2 R2 Qw9 n_1153 (n_1153 + 1) (sTW j_1145) 1 1 2 (fun _ => nI 30) (fun _ => bS [s1 j_1145, s2]) e0_1156 e1_1156 hM2 (fun q hq => by have h8 := hQ2 q hq; omega) hT9 (fun _ _ => s_blk2 _) (by decide) (by decide) (Nat.le_trans s_len (by decide)) (s_okb (by omega)) (by omega) (by omega) (by omega)) (va_cwS 2 hts gL_law_L_taught rfl rfl rfl (by decide +kernel) ⟨(Nat.le_of_ble_eq_true rfl), (Nat.le_of_ble_eq_true rfl)⟩) (q_pS hA hW hS) rfl rfl hl.1 rfl (lv_room (Nat.le_of_ble_eq_true rfl)) dL_law_1159 ⟨(by show _ ≤ 600086; omega), (by show _ ≤ 7301441; omega)⟩) hS (fun r_1159 f_1159 n_1159 H locs hp hW hS => ?_)
              obtain ⟨rfl, eT_1159, en_1159, hfr_1159⟩ := hp
              obtain ⟨g9b, hd9b, RS9b, hh9b, hR9b, hM9b⟩ := eT_1159
              have hg9b := VG.bgn (pn := 1) (hd := hd9b) (v := v2) (fun i hi => ⟨30, by decide, hh9b i hi⟩)
              refine lv_if_ne (tgt := 1227) hx hb dL_law_1162 (by decide) (fun c_1162 => absurd c_1162 (by decide)) (fun c_1162 => ?_)
              refine lv_aload_n hx hb dL_law_1165 rfl (lv_at hl 4 rfl) ?_
              refine lv_iload hx hb dL_law_1166 (lv_at hl 1 rfl) ?_
              refine q_ci (va_runV (As := [.int (nI j_1111)]) (rest := []) ⟨hx, hb, hml, hown, hts⟩ (cm_setAltitude l E f_1159 n_1159 (n + 55) 100 0 g9b 1 1 (nI 2) hd9b (z_bgn v2 1) RS9b (fun q => (n + 55 ≤ q ∧ q < n + 55 + 55) ∨ (n_1156 ≤ q ∧ q < n_1159)) (nI j_1111) hM9b (b_in_nI (L := 60) (by decide) (by omega))) (cwV 1 hts gL_law_X12_setAltitude rfl rfl rfl (by decide +kernel) ⟨(Nat.le_of_ble_eq_true rfl), (Nat.le_of_ble_eq_true rfl)⟩) (q_pV hA hW hS (ci := 12) rfl (Classical.choose_spec (Classical.choose_spec (Classical.choose_spec (Classical.choose_spec (Classical.choose_spec (Classical.choose_spec (Classical.choose_spec hM9b.cell)))))))) rfl rfl hl.1 rfl (lv_room (Nat.le_of_ble_eq_true rfl)) dL_law_1168 ⟨(by show _ ≤ 600086; omega), (by show _ ≤ 7301441; omega)⟩) hS (fun r_1168 f_1168 n_1168 H locs hp hW hS => ?_)
              obtain ⟨rfl, eM_1168, en_1168, hfr_1168⟩ := hp
              rw [show (z_bgn v2 1) 0 = 0 from bgn_0 (by decide)]
              refine lv_if_ne (tgt := 1227) hx hb dL_law_1171 (by decide) (fun c_1171 => absurd c_1171 (by decide)) (fun c_1171 => ?_)
              refine lv_aload_n hx hb dL_law_1174 rfl (lv_at hl 4 rfl) ?_
              refine lv_iconst (v := 0) hx hb dL_law_1175 (by decide) ?_
              refine lv_iload hx hb dL_law_1176 (lv_at hl 0 rfl) ?_
              refine q_ci (va_runV (As := [.int 0, .int (nI (1 + j_1121))]) (rest := []) ⟨hx, hb, hml, hown, hts⟩ (cm_pourWater l E f_1168 n_1168 (n + 55) 100 0 g9b 1 1 (nI 2) hd9b (z_move (z_bgn v2 1) (nI j_1111) 1) RS9b (fun q => (n + 55 ≤ q ∧ q < n + 55 + 55) ∨ (n_1156 ≤ q ∧ q < n_1159)) 0 (nI (1 + j_1121)) eM_1168 (by decide) (b_in1 (L := 200) (by decide) (by omega) (by omega))) (cwV 2 hts gL_law_X12_pourWater rfl rfl rfl (by decide +kernel) ⟨(Nat.le_of_ble_eq_true rfl), (Nat.le_of_ble_eq_true rfl)⟩) (q_pV hA hW hS (ci := 12) rfl (Classical.choose_spec (Classical.choose_spec (Classical.choose_spec (Classical.choose_spec (Classical.choose_spec (Classical.choose_spec (Classical.choose_spec eM_1168.cell)))))))) rfl rfl hl.1 rfl (lv_room (Nat.le_of_ble_eq_true rfl)) dL_law_1178 ⟨(by show _ ≤ 600086; omega), (by show _ ≤ 7301441; omega)⟩) hS (fun r_1178 f_1178 n_1178 H locs hp hW hS => ?_)
              obtain ⟨rfl, eM_1178, en_1178, hfr_1178⟩ := hp
              rw [show z_frv hd9b (z_move (z_bgn v2 1) (nI j_1111) 1) 0 (nI (1 + j_1121)) = nI (1 + j_1121) from sec_pour (by omega) (by omega) (hh9b 0 (by decide)) (by omega)]
              refine lv_iload hx hb dL_law_1181 (lv_at hl 0 rfl) ?_
              refine lv_icmp_ne (tgt := 1227) hx hb dL_law_1183 (by decide) (fun c_1183 => False.elim ((fun h9 => h9 rfl) c_1183)) (fun c_1183 => ?_)
              refine lv_aload_n hx hb dL_law_1186 rfl (lv_at hl 4 rfl) ?_
              refine lv_iconst (v := 0) hx hb dL_law_1187 (by decide) ?_
              have hg2b : VG 100 1 hd9b (z_fillv hd9b (z_move (z_bgn v2 1) (nI j_1111) 1) 0 0 (nI (1 + j_1121))) := (hg9b.move (al := j_1111) (by omega)).fill (c := 1 + j_1121) (by decide) (by omega)
              have hS9b : RS9b 0 hd9b (z_fillv hd9b (z_move (z_bgn v2 1) (nI j_1111) 1) 0 0 (nI (1 + j_1121)), 0, (-1)) = bS [s1 j_1145, s2] hd9b (z_fillv hd9b (z_move (z_bgn v2 1) (nI j_1111) 1) 0 0 (nI (1 + j_1121)), 0, (-1)) := by rw [hR9b 0 (by decide)]
              obtain ⟨mm9, dW9, hmm9, -, hm9, -, -⟩ := rec_f (s_ev j_1145).1 (s_ev j_1145).2 (by decide) hg2b
              have hsec := sec_ok (N := j_1145) (al := j_1111) (w := 1 + j_1121) (hd := hd9b) (v := z_fillv hd9b (z_move (z_bgn v2 1) (nI j_1111) 1) 0 0 (nI (1 + j_1121))) (by omega) (by omega) (by omega) (by omega) (sec_0 (by omega) (by omega) (hh9b 0 (by decide)) (by omega)) (sec_52 (by omega) (by omega) (hh9b 0 (by decide)) (by omega)) (sec_53 (by omega) (by omega) (hh9b 0 (by decide)) (by omega)) (sec_54 (by omega) (by omega) (hh9b 0 (by decide)) (by omega)) (sec_10 (by omega) (by omega) (hh9b 0 (by decide)) (by omega))
              refine q_ci (va_runV (As := [.int 0]) (rest := []) ⟨hx, hb, hml, hown, hts⟩ (cm_cook l E f_1178 n_1178 (n + 55) 100 0 g9b 1 1 (nI 2) hd9b (z_fillv hd9b (z_move (z_bgn v2 1) (nI j_1111) 1) 0 0 (nI (1 + j_1121))) RS9b (fun q => (n + 55 ≤ q ∧ q < n + 55 + 55) ∨ (n_1156 ≤ q ∧ q < n_1159)) 0 eM_1178 (by decide) (by decide)) (cwV 1 hts gL_law_X12_cook rfl rfl rfl (by decide +kernel) ⟨(Nat.le_of_ble_eq_true rfl), (Nat.le_of_ble_eq_true rfl)⟩) (q_pV hA hW hS (ci := 12) rfl (Classical.choose_spec (Classical.choose_spec (Classical.choose_spec (Classical.choose_spec (Classical.choose_spec (Classical.choose_spec (Classical.choose_spec eM_1178.cell)))))))) rfl rfl hl.1 rfl (lv_room (Nat.le_of_ble_eq_true rfl)) dL_law_1188 ⟨(by show _ ≤ 600086; omega), (by show _ ≤ 7301441; omega)⟩) hS (fun r_1188 f_1188 n_1188 H locs hp hW hS => ?_)
              obtain ⟨rfl, eM_1188, en_1188, hfr_1188⟩ := hp
              rw [show (RS9b 0 hd9b (z_fillv hd9b (z_move (z_bgn v2 1) (nI j_1111) 1) 0 0 (nI (1 + j_1121)), 0, (-1))).1 3 - (z_fillv hd9b (z_move (z_bgn v2 1) (nI j_1111) 1) 0 0 (nI (1 + j_1121))) 3 = nI mm9 from by rw [hS9b, hm9]; exact sub_add_nI]
              refine lv_if_lt (tgt := 1227) hx hb dL_law_1191 (by decide) (fun c_1191 => absurd c_1191 (nI_pos (by omega))) (fun c_1191 => ?_)
              refine lv_aload_n hx hb dL_law_1194 rfl (lv_at hl 4 rfl) ?_
              refine lv_iconst (v := 4) hx hb dL_law_1195 (by decide) ?_
              refine q_ci (va_runV (As := [.int 4]) (rest := []) ⟨hx, hb, hml, hown, hts⟩ (cm_warningsOf l E f_1188 n_1188 (n + 55) (100 + 100) 0 g9b 1 1 (nI 2) hd9b ((RS9b 0 hd9b (z_fillv hd9b (z_move (z_bgn v2 1) (nI j_1111) 1) 0 0 (nI (1 + j_1121)), 0, (-1))).1) RS9b (fun q => (n + 55 ≤ q ∧ q < n + 55 + 55) ∨ (n_1156 ≤ q ∧ q < n_1159)) 4 eM_1188 (by decide) (by decide)) (cwV 1 hts gL_law_X12_warningsOf rfl rfl rfl (by decide +kernel) ⟨(Nat.le_of_ble_eq_true rfl), (Nat.le_of_ble_eq_true rfl)⟩) (q_pV hA hW hS (ci := 12) rfl (Classical.choose_spec (Classical.choose_spec (Classical.choose_spec (Classical.choose_spec (Classical.choose_spec (Classical.choose_spec (Classical.choose_spec eM_1188.cell)))))))) rfl rfl hl.1 rfl (lv_room (Nat.le_of_ble_eq_true rfl)) dL_law_1196 ⟨(by show _ ≤ 600086; omega), (by show _ ≤ 7301441; omega)⟩) hS (fun r_1196 f_1196 n_1196 H locs hp hW hS => ?_)
              obtain ⟨rfl, rfl, rfl⟩ := hp
              have hW : q_W E (f_1188) n_1188 H := hW
              rw [show (RS9b 0 hd9b (z_fillv hd9b (z_move (z_bgn v2 1) (nI j_1111) 1) 0 0 (nI (1 + j_1121)), 0, (-1))).1 (6 + 4) = (bS [s1 j_1145, s2] hd9b (z_fillv hd9b (z_move (z_bgn v2 1) (nI j_1111) 1) 0 0 (nI (1 + j_1121)), 0, (-1))).1 10 from by rw [hS9b]]
              refine lv_if_ne (tgt := 1206) hx hb dL_law_1199 (by decide) (fun c_1199 => ?_) (fun c_1199 => ?_)
              · refine lv_iconst (v := 0) hx hb dL_law_1206 (by decide) ?_
                refine lv_aload_n hx hb dL_law_1207 rfl (lv_at hl 4 rfl) ?_
                refine lv_iconst (v := 0) hx hb dL_law_1208 (by decide) ?_
                refine q_ci (va_runV (As := [.int 0]) (rest := [.int 0]) ⟨hx, hb, hml, hown, hts⟩ (cm_heatOf l E f_1188 n_1188 (n + 55) (100 + 100) 0 g9b 1 1 (nI 2) hd9b ((RS9b 0 hd9b (z_fillv hd9b (z_move (z_bgn v2 1) (nI j_1111) 1) 0 0 (nI (1 + j_1121)), 0, (-1))).1) RS9b (fun q => (n + 55 ≤ q ∧ q < n + 55 + 55) ∨ (n_1156 ≤ q ∧ q < n_1159)) 0 eM_1188 (by decide)) (cwV 1 hts gL_law_X12_heatOf rfl rfl rfl (by decide +kernel) ⟨(Nat.le_of_ble_eq_true rfl), (Nat.le_of_ble_eq_true rfl)⟩) (q_pV hA hW hS (ci := 12) rfl (Classical.choose_spec (Classical.choose_spec (Classical.choose_spec (Classical.choose_spec (Classical.choose_spec (Classical.choose_spec (Classical.choose_spec eM_1188.cell)))))))) rfl rfl hl.1 rfl (lv_room (Nat.le_of_ble_eq_true rfl)) dL_law_1209 ⟨(by show _ ≤ 600086; omega), (by show _ ≤ 7301441; omega)⟩) hS (fun r_1209 f_1209 n_1209 H locs hp hW hS => ?_)
                obtain ⟨rfl, rfl, rfl⟩ := hp
                have hW : q_W E (f_1188) n_1188 H := hW
                rw [show (RS9b 0 hd9b (z_fillv hd9b (z_move (z_bgn v2 1) (nI j_1111) 1) 0 0 (nI (1 + j_1121)), 0, (-1))).1 (54 + 4 * 0) = (bS [s1 j_1145, s2] hd9b (z_fillv hd9b (z_move (z_bgn v2 1) (nI j_1111) 1) 0 0 (nI (1 + j_1121)), 0, (-1))).1 54 from by rw [hS9b]]
                refine lv_aload_n hx hb dL_law_1212 rfl (lv_at hl 4 rfl) ?_
                refine q_ci (va_runV (As := []) (rest := [.int ((bS [s1 j_1145, s2] hd9b (z_fillv hd9b (z_move (z_bgn v2 1) (nI j_1111) 1) 0 0 (nI (1 + j_1121)), 0, (-1))).1 54), .int 0]) ⟨hx, hb, hml, hown, hts⟩ (cm_boilingPoint l E f_1188 n_1188 (n + 55) (100 + 100) 0 g9b 1 1 (nI 2) hd9b ((RS9b 0 hd9b (z_fillv hd9b (z_move (z_bgn v2 1) (nI j_1111) 1) 0 0 (nI (1 + j_1121)), 0, (-1))).1) RS9b (fun q => (n + 55 ≤ q ∧ q < n + 55 + 55) ∨ (n_1156 ≤ q ∧ q < n_1159)) eM_1188) (cwV 0 hts gL_law_X12_boilingPoint rfl rfl rfl (by decide +kernel) ⟨(Nat.le_of_ble_eq_true rfl), (Nat.le_of_ble_eq_true rfl)⟩) (q_pV hA hW hS (ci := 12) rfl (Classical.choose_spec (Classical.choose_spec (Classical.choose_spec (Classical.choose_spec (Classical.choose_spec (Classical.choose_spec (Classical.choose_spec eM_1188.cell)))))))) rfl rfl hl.1 rfl (lv_room (Nat.le_of_ble_eq_true rfl)) dL_law_1213 ⟨(by show _ ≤ 600086; omega), (by show _ ≤ 7301441; omega)⟩) hS (fun r_1213 f_1213 n_1213 H locs hp hW hS => ?_)
                obtain ⟨rfl, rfl, rfl⟩ := hp
                have hW : q_W E (f_1188) n_1188 H := hW
                rw [show z_boil ((RS9b 0 hd9b (z_fillv hd9b (z_move (z_bgn v2 1) (nI j_1111) 1) 0 0 (nI (1 + j_1121)), 0, (-1))).1 0) = z_boil ((bS [s1 j_1145, s2] hd9b (z_fillv hd9b (z_move (z_bgn v2 1) (nI j_1111) 1) 0 0 (nI (1 + j_1121)), 0, (-1))).1 0) from by rw [hS9b]]
                refine lv_icmp_ne (tgt := 1223) hx hb dL_law_1216 (by decide) (fun c_1216 => ?_) (fun c_1216 => False.elim ((fun h9 => (hsec.elim (fun h8 => absurd h8.1 c_1199) (fun h8 => h8.2)) h9) c_1216))
                refine lv_iconst (v := 0) hx hb dL_law_1223 (by decide) ?_
                refine lv_icmp_eq (tgt := 1229) hx hb dL_law_1224 (by decide) (fun c_1224 => ?_) (fun c_1224 => absurd c_1224 (by decide))
                refine lv_iinc (v := nI (tm + 1)) (lv' := [(3, .int (nI (tm + 1))), (9, .int (nI (1 + j_1121))), (8, .int (nI j_1111)), (0, .ref (E.2.2.2 108)), (1, .ref n), (2, .ref (n + 55)), (4, .ref N), (6, .ref k_76), (7, .int (nI pn))]) hx hb dL_law_1229 hl (k := 5) rfl (nI_1 tm) (by decide) rfl (fun ls hl => ?_)
                refine lv_goto (tgt := 18) hx hb dL_law_1232 (by decide) ?_
                refine W.widen (k := 110 + 26000 * (tm + 1)) (n := 6614 + 1700000 * (tm + 1)) (by omega) (by omega) ?_
                exact ihT f_1188 n_1188 (tm + 1) (⟨Qm9, _, ⟨_, _, _, _, _, _, _, _, hM1.frame (fun q hq => by have h8 := hQ1 q hq; exact (hfr_1188 q (by omega) (by omega)).trans ((hfr_1178 q (by omega) (by omega)).trans ((hfr_1168 q (by omega) (by omega)).trans (hfr_1159 q (by omega) (by omega))))) (by omega) (Nat.le_refl _)⟩, ⟨_, _, _, _, _, _, _, _, eM_1188⟩, (fun q hq => by have h8 := hQ1 q hq; exact ⟨by omega, h8.2.1⟩), (fun q hq => by rcases hq with h8 | h8; (exact ⟨by omega, by omega⟩); (exact ⟨by omega, by omega⟩))⟩) htl (by omega) (by omega) _ _ _ hW hS (lv_sub hl [3, 4, 5, 0] rfl)
              · refine lv_iconst (v := 1) hx hb dL_law_1202 (by decide) ?_
                refine lv_goto (tgt := 1207) hx hb dL_law_1203 (by decide) ?_
                refine lv_aload_n hx hb dL_law_1207 rfl (lv_at hl 4 rfl) ?_
                refine lv_iconst (v := 0) hx hb dL_law_1208 (by decide) ?_
                refine q_ci (va_runV (As := [.int 0]) (rest := [.int 1]) ⟨hx, hb, hml, hown, hts⟩ (cm_heatOf l E f_1188 n_1188 (n + 55) (100 + 100) 0 g9b 1 1 (nI 2) hd9b ((RS9b 0 hd9b (z_fillv hd9b (z_move (z_bgn v2 1) (nI j_1111) 1) 0 0 (nI (1 + j_1121)), 0, (-1))).1) RS9b (fun q => (n + 55 ≤ q ∧ q < n + 55 + 55) ∨ (n_1156 ≤ q ∧ q < n_1159)) 0 eM_1188 (by decide)) (cwV 1 hts gL_law_X12_heatOf rfl rfl rfl (by decide +kernel) ⟨(Nat.le_of_ble_eq_true rfl), (Nat.le_of_ble_eq_true rfl)⟩) (q_pV hA hW hS (ci := 12) rfl (Classical.choose_spec (Classical.choose_spec (Classical.choose_spec (Classical.choose_spec (Classical.choose_spec (Classical.choose_spec (Classical.choose_spec eM_1188.cell)))))))) rfl rfl hl.1 rfl (lv_room (Nat.le_of_ble_eq_true rfl)) dL_law_1209 ⟨(by show _ ≤ 600086; omega), (by show _ ≤ 7301441; omega)⟩) hS (fun r_1209 f_1209 n_1209 H locs hp hW hS => ?_)
                obtain ⟨rfl, rfl, rfl⟩ := hp
                have hW : q_W E (f_1188) n_1188 H := hW
                rw [show (RS9b 0 hd9b (z_fillv hd9b (z_move (z_bgn v2 1) (nI j_1111) 1) 0 0 (nI (1 + j_1121)), 0, (-1))).1 (54 + 4 * 0) = (bS [s1 j_1145, s2] hd9b (z_fillv hd9b (z_move (z_bgn v2 1) (nI j_1111) 1) 0 0 (nI (1 + j_1121)), 0, (-1))).1 54 from by rw [hS9b]]
                refine lv_aload_n hx hb dL_law_1212 rfl (lv_at hl 4 rfl) ?_
                refine q_ci (va_runV (As := []) (rest := [.int ((bS [s1 j_1145, s2] hd9b (z_fillv hd9b (z_move (z_bgn v2 1) (nI j_1111) 1) 0 0 (nI (1 + j_1121)), 0, (-1))).1 54), .int 1]) ⟨hx, hb, hml, hown, hts⟩ (cm_boilingPoint l E f_1188 n_1188 (n + 55) (100 + 100) 0 g9b 1 1 (nI 2) hd9b ((RS9b 0 hd9b (z_fillv hd9b (z_move (z_bgn v2 1) (nI j_1111) 1) 0 0 (nI (1 + j_1121)), 0, (-1))).1) RS9b (fun q => (n + 55 ≤ q ∧ q < n + 55 + 55) ∨ (n_1156 ≤ q ∧ q < n_1159)) eM_1188) (cwV 0 hts gL_law_X12_boilingPoint rfl rfl rfl (by decide +kernel) ⟨(Nat.le_of_ble_eq_true rfl), (Nat.le_of_ble_eq_true rfl)⟩) (q_pV hA hW hS (ci := 12) rfl (Classical.choose_spec (Classical.choose_spec (Classical.choose_spec (Classical.choose_spec (Classical.choose_spec (Classical.choose_spec (Classical.choose_spec eM_1188.cell)))))))) rfl rfl hl.1 rfl (lv_room (Nat.le_of_ble_eq_true rfl)) dL_law_1213 ⟨(by show _ ≤ 600086; omega), (by show _ ≤ 7301441; omega)⟩) hS (fun r_1213 f_1213 n_1213 H locs hp hW hS => ?_)
                obtain ⟨rfl, rfl, rfl⟩ := hp
                have hW : q_W E (f_1188) n_1188 H := hW
                rw [show z_boil ((RS9b 0 hd9b (z_fillv hd9b (z_move (z_bgn v2 1) (nI j_1111) 1) 0 0 (nI (1 + j_1121)), 0, (-1))).1 0) = z_boil ((bS [s1 j_1145, s2] hd9b (z_fillv hd9b (z_move (z_bgn v2 1) (nI j_1111) 1) 0 0 (nI (1 + j_1121)), 0, (-1))).1 0) from by rw [hS9b]]
                refine lv_icmp_ne (tgt := 1223) hx hb dL_law_1216 (by decide) (fun c_1216 => False.elim ((fun (h9 : ¬ _) => (hsec.elim (fun h8 => h9 h8.2) (fun h8 => h8.1 c_1199))) c_1216)) (fun c_1216 => ?_)
                refine lv_iconst (v := 1) hx hb dL_law_1219 (by decide) ?_
                refine lv_goto (tgt := 1224) hx hb dL_law_1220 (by decide) ?_
                refine lv_icmp_eq (tgt := 1229) hx hb dL_law_1224 (by decide) (fun c_1224 => ?_) (fun c_1224 => absurd c_1224 (by decide))
                refine lv_iinc (v := nI (tm + 1)) (lv' := [(3, .int (nI (tm + 1))), (9, .int (nI (1 + j_1121))), (8, .int (nI j_1111)), (0, .ref (E.2.2.2 108)), (1, .ref n), (2, .ref (n + 55)), (4, .ref N), (6, .ref k_76), (7, .int (nI pn))]) hx hb dL_law_1229 hl (k := 5) rfl (nI_1 tm) (by decide) rfl (fun ls hl => ?_)
                refine lv_goto (tgt := 18) hx hb dL_law_1232 (by decide) ?_
                refine W.widen (k := 110 + 26000 * (tm + 1)) (n := 6614 + 1700000 * (tm + 1)) (by omega) (by omega) ?_
                exact ihT f_1188 n_1188 (tm + 1) (⟨Qm9, _, ⟨_, _, _, _, _, _, _, _, hM1.frame (fun q hq => by have h8 := hQ1 q hq; exact (hfr_1188 q (by omega) (by omega)).trans ((hfr_1178 q (by omega) (by omega)).trans ((hfr_1168 q (by omega) (by omega)).trans (hfr_1159 q (by omega) (by omega))))) (by omega) (Nat.le_refl _)⟩, ⟨_, _, _, _, _, _, _, _, eM_1188⟩, (fun q hq => by have h8 := hQ1 q hq; exact ⟨by omega, h8.2.1⟩), (fun q hq => by rcases hq with h8 | h8; (exact ⟨by omega, by omega⟩); (exact ⟨by omega, by omega⟩))⟩) htl (by omega) (by omega) _ _ _ hW hS (lv_sub hl [3, 4, 5, 0] rfl)
            · have hsl : sp < 8 := Nat.lt_of_not_le (fun h9 => c_108 (nI_le (a := 8) h9 (by omega)))
              refine lv_iconst (v := 0) hx hb dL_law_111 (by decide) ?_
              refine lv_istore (lv' := [(9, .int 0), (0, .ref (E.2.2.2 108)), (1, .ref n), (2, .ref (n + 55)), (3, .int (nI tm)), (4, .ref N), (6, .ref k_76), (7, .int (nI pn)), (8, .int (nI sp))]) hx hb dL_law_112 hl (by decide) rfl (fun ls hl => ?_)
              refine lv_iload hx hb dL_law_114 (lv_at hl 0 rfl) ?_
              refine lv_iconst (v := 2) hx hb dL_law_116 (by decide) ?_
              refine lv_icmp_ge (tgt := 139) hx hb dL_law_117 (by decide) (fun c_117 => absurd c_117 (by decide)) (fun c_117 => ?_)
              refine lv_aload_n hx hb dL_law_120 rfl (lv_at hl 2 rfl) ?_
              refine lv_aload hx hb dL_law_121 (lv_at hl 6 rfl) ?_
              refine lv_aload hx hb dL_law_123 (lv_at hl 5 rfl) ?_
              refine q_ci (va_runS (As := [.ref n, .ref k_76, .ref N]) (rest := []) ⟨hx, hb, hml, hown, hts⟩ (kL_act l E G M n (n + 55) n_65 N k_76 s9 (fun _ => False) BB pn NR (nI ac) hd9 v RS9 hJ (by omega)) (va_cwS 3 hts gL_law_L_act rfl rfl rfl (by decide +kernel) ⟨(Nat.le_of_ble_eq_true rfl), (Nat.le_of_ble_eq_true rfl)⟩) (q_pS hA hW hS) rfl rfl hl.1 rfl (lv_room (Nat.le_of_ble_eq_true rfl)) dL_law_125 ⟨(by show _ ≤ 600086; omega), (by show _ ≤ 7301441; omega)⟩) hS (fun r_125 f_125 n_125 H locs hp hW hS => ?_)
              obtain ⟨v1_125, s1_125, rfl, eJ_125, en_125, hfr_125⟩ := hp
              refine lv_if_ne (tgt := 133) hx hb dL_law_128 (by decide) (fun c_128 => ?_) (fun c_128 => absurd c_128 (by decide))
              refine lv_iinc (v := 1) (lv' := [(9, .int 1), (0, .ref (E.2.2.2 108)), (1, .ref n), (2, .ref (n + 55)), (3, .int (nI tm)), (4, .ref N), (6, .ref k_76), (7, .int (nI pn)), (8, .int (nI sp))]) hx hb dL_law_133 hl (k := 0) rfl (by decide) (by decide) rfl (fun ls hl => ?_)
              refine lv_goto (tgt := 114) hx hb dL_law_136 (by decide) ?_
              refine lv_iload hx hb dL_law_114 (lv_at hl 0 rfl) ?_
              refine lv_iconst (v := 2) hx hb dL_law_116 (by decide) ?_
              refine lv_icmp_ge (tgt := 139) hx hb dL_law_117 (by decide) (fun c_117 => absurd c_117 (by decide)) (fun c_117 => ?_)
              refine lv_aload_n hx hb dL_law_120 rfl (lv_at hl 2 rfl) ?_
              refine lv_aload hx hb dL_law_121 (lv_at hl 6 rfl) ?_
              refine lv_aload hx hb dL_law_123 (lv_at hl 5 rfl) ?_
              refine q_ci (va_runS (As := [.ref n, .ref k_76, .ref N]) (rest := []) ⟨hx, hb, hml, hown, hts⟩ (kL_act l E f_125 n_125 n (n + 55) n_65 N k_76 s1_125 (fun _ => False) (BB + 100) pn NR (nI ac) hd9 v1_125 RS9 eJ_125 (by omega)) (va_cwS 3 hts gL_law_L_act rfl rfl rfl (by decide +kernel) ⟨(Nat.le_of_ble_eq_true rfl), (Nat.le_of_ble_eq_true rfl)⟩) (q_pS hA hW hS) rfl rfl hl.1 rfl (lv_room (Nat.le_of_ble_eq_true rfl)) dL_law_125 ⟨(by show _ ≤ 600086; omega), (by show _ ≤ 7301441; omega)⟩) hS (fun r_125x1 f_125x1 n_125x1 H locs hp hW hS => ?_)
              obtain ⟨v1_125x1, s1_125x1, rfl, eJ_125x1, en_125x1, hfr_125x1⟩ := hp
              refine lv_if_ne (tgt := 133) hx hb dL_law_128 (by decide) (fun c_128 => ?_) (fun c_128 => absurd c_128 (by decide))
              refine lv_iinc (v := 2) (lv' := [(9, .int 2), (0, .ref (E.2.2.2 108)), (1, .ref n), (2, .ref (n + 55)), (3, .int (nI tm)), (4, .ref N), (6, .ref k_76), (7, .int (nI pn)), (8, .int (nI sp))]) hx hb dL_law_133 hl (k := 0) rfl (by decide) (by decide) rfl (fun ls hl => ?_)
              refine lv_goto (tgt := 114) hx hb dL_law_136 (by decide) ?_
              refine lv_iload hx hb dL_law_114 (lv_at hl 0 rfl) ?_
              refine lv_iconst (v := 2) hx hb dL_law_116 (by decide) ?_
              refine lv_icmp_ge (tgt := 139) hx hb dL_law_117 (by decide) (fun c_117 => ?_) (fun c_117 => absurd c_117 (by decide))
              obtain ⟨-, -, -, -, hgm, -, -⟩ := eJ_125x1.num
              have hvo := hgm.1
              have hsm := hgm.2.1
              have hkI := hgm.2.2
              have hB29 : BB + 100 + 100 ≤ 2 ^ 28 := by omega
              have hT30 := hkI.T (by omega)
              obtain ⟨al, hal, e0⟩ := id hvo.1
              obtain ⟨se, hse1, hse, e1⟩ := id hvo.2.1
              obtain ⟨sp9, hsp1, hsp9, e2⟩ := id hvo.2.2.1
              have hv4 : v1_125x1 4 = nI (k_T v1_125x1) := hkI.2.1.1
              have hT30 : k_T v1_125x1 < 2 ^ 30 ∧ k_N v1_125x1 < 2 ^ 30 := hT30
              refine lv_aload_n hx hb dL_law_139 rfl (lv_at hl 2 rfl) ?_
              refine q_cl (va_runV (As := []) (rest := []) ⟨hx, hb, hml, hown, hts⟩ (ja_digest l E f_125x1 n_125x1 n (n + 55) n_65 N k_76 s1_125x1 (fun _ => False) (BB + 100 + 100) pn NR (nI ac) hd9 v1_125x1 v1_125x1 RS9 (k_T v1_125x1) (k_N v1_125x1) eJ_125x1 (fun q x e => hW.lt e) hv4 hkI.v5 hT30.1 hT30.2) (cwV 0 hts gL_law_X12_digest rfl rfl rfl (by decide +kernel) ⟨(Nat.le_of_ble_eq_true rfl), (Nat.le_of_ble_eq_true rfl)⟩) (q_pV hA hW hS (ci := 12) rfl (Classical.choose_spec (Classical.choose_spec (Classical.choose_spec (Classical.choose_spec (Classical.choose_spec (Classical.choose_spec (Classical.choose_spec eJ_125x1.cell)))))))) rfl rfl hl.1 rfl (lv_room (Nat.le_of_ble_eq_true rfl)) dL_law_140 ⟨(by show _ ≤ 600086; omega), (by show _ ≤ 7301441; omega)⟩) hS (fun r_140 f_140 n_140 H locs hp hW hS => ?_)
              obtain ⟨rfl, rfl, rfl⟩ := hp
              have hW : q_W E (f_125x1) n_125x1 H := hW
              refine lv_lstore (lv' := [(9, .long (z_dig pn (nI NR) (nI ac) hd9 v1_125x1 (k_T v1_125x1) (k_N v1_125x1))), (0, .ref (E.2.2.2 108)), (1, .ref n), (2, .ref (n + 55)), (3, .int (nI tm)), (4, .ref N), (6, .ref k_76), (7, .int (nI pn)), (8, .int (nI sp))]) hx hb dL_law_143 hl (by decide) rfl (fun ls hl => ?_)
              refine lv_iconst (v := 0) hx hb dL_law_145 (by decide) ?_
              refine lv_istore (lv' := [(11, .int 0), (9, .long (z_dig pn (nI NR) (nI ac) hd9 v1_125x1 (k_T v1_125x1) (k_N v1_125x1))), (0, .ref (E.2.2.2 108)), (1, .ref n), (2, .ref (n + 55)), (3, .int (nI tm)), (4, .ref N), (6, .ref k_76), (7, .int (nI pn)), (8, .int (nI sp))]) hx hb dL_law_146 hl (by decide) rfl (fun ls hl => ?_)
              refine lv_iconst (v := 1) hx hb dL_law_148 (by decide) ?_
              refine lv_istore (lv' := [(12, .int 1), (11, .int 0), (9, .long (z_dig pn (nI NR) (nI ac) hd9 v1_125x1 (k_T v1_125x1) (k_N v1_125x1))), (0, .ref (E.2.2.2 108)), (1, .ref n), (2, .ref (n + 55)), (3, .int (nI tm)), (4, .ref N), (6, .ref k_76), (7, .int (nI pn)), (8, .int (nI sp))]) hx hb dL_law_149 hl (by decide) rfl (fun ls hl => ?_)
              refine lv_iload hx hb dL_law_151 (lv_at hl 0 rfl) ?_
              refine lv_bipush (v := 6) hx hb dL_law_153 (by decide) ?_
              refine lv_icmp_ge (tgt := 175) hx hb dL_law_155 (by decide) (fun c_155 => absurd c_155 (by decide)) (fun c_155 => ?_)
              refine lv_iload hx hb dL_law_158 (lv_at hl 1 rfl) ?_
              refine lv_aload_n hx hb dL_law_160 rfl (lv_at hl 4 rfl) ?_
              refine lv_iload hx hb dL_law_161 (lv_at hl 0 rfl) ?_
              refine q_ci (va_runV (As := [.int 1]) (rest := [.int 0]) ⟨hx, hb, hml, hown, hts⟩ (ja_warningsOf l E f_125x1 n_125x1 n (n + 55) n_65 N k_76 s1_125x1 (fun _ => False) (BB + 100 + 100) pn NR (nI ac) hd9 v1_125x1 v1_125x1 RS9 1 eJ_125x1 (fun q x e => hW.lt e) (by decide) (by decide)) (cwV 1 hts gL_law_X12_warningsOf rfl rfl rfl (by decide +kernel) ⟨(Nat.le_of_ble_eq_true rfl), (Nat.le_of_ble_eq_true rfl)⟩) (q_pV hA hW hS (ci := 12) rfl (Classical.choose_spec (Classical.choose_spec (Classical.choose_spec (Classical.choose_spec (Classical.choose_spec (Classical.choose_spec (Classical.choose_spec eJ_125x1.cell)))))))) rfl rfl hl.1 rfl (lv_room (Nat.le_of_ble_eq_true rfl)) dL_law_163 ⟨(by show _ ≤ 600086; omega), (by show _ ≤ 7301441; omega)⟩) hS (fun r_163 f_163 n_163 H locs hp hW hS => ?_)
              obtain ⟨rfl, rfl, rfl⟩ := hp
              have hW : q_W E (f_125x1) n_125x1 H := hW
              rw [show v1_125x1 (6 + 1) = v1_125x1 7 from rfl]
              refine lv_iadd hx hb dL_law_166 ?_
              refine lv_istore (lv' := [(11, .int (0 + (v1_125x1 7))), (12, .int 1), (9, .long (z_dig pn (nI NR) (nI ac) hd9 v1_125x1 (k_T v1_125x1) (k_N v1_125x1))), (0, .ref (E.2.2.2 108)), (1, .ref n), (2, .ref (n + 55)), (3, .int (nI tm)), (4, .ref N), (6, .ref k_76), (7, .int (nI pn)), (8, .int (nI sp))]) hx hb dL_law_167 hl (by decide) rfl (fun ls hl => ?_)
              refine lv_iinc (v := 2) (lv' := [(12, .int 2), (11, .int (0 + (v1_125x1 7))), (9, .long (z_dig pn (nI NR) (nI ac) hd9 v1_125x1 (k_T v1_125x1) (k_N v1_125x1))), (0, .ref (E.2.2.2 108)), (1, .ref n), (2, .ref (n + 55)), (3, .int (nI tm)), (4, .ref N), (6, .ref k_76), (7, .int (nI pn)), (8, .int (nI sp))]) hx hb dL_law_169 hl (k := 1) rfl (by decide) (by decide) rfl (fun ls hl => ?_)
              refine lv_goto (tgt := 151) hx hb dL_law_172 (by decide) ?_
              refine lv_iload hx hb dL_law_151 (lv_at hl 0 rfl) ?_
              refine lv_bipush (v := 6) hx hb dL_law_153 (by decide) ?_
              refine lv_icmp_ge (tgt := 175) hx hb dL_law_155 (by decide) (fun c_155 => absurd c_155 (by decide)) (fun c_155 => ?_)
              refine lv_iload hx hb dL_law_158 (lv_at hl 1 rfl) ?_
              refine lv_aload_n hx hb dL_law_160 rfl (lv_at hl 4 rfl) ?_
              refine lv_iload hx hb dL_law_161 (lv_at hl 0 rfl) ?_
              refine q_ci (va_runV (As := [.int 2]) (rest := [.int (0 + (v1_125x1 7))]) ⟨hx, hb, hml, hown, hts⟩ (ja_warningsOf l E f_125x1 n_125x1 n (n + 55) n_65 N k_76 s1_125x1 (fun _ => False) (BB + 100 + 100) pn NR (nI ac) hd9 v1_125x1 v1_125x1 RS9 2 eJ_125x1 (fun q x e => hW.lt e) (by decide) (by decide)) (cwV 1 hts gL_law_X12_warningsOf rfl rfl rfl (by decide +kernel) ⟨(Nat.le_of_ble_eq_true rfl), (Nat.le_of_ble_eq_true rfl)⟩) (q_pV hA hW hS (ci := 12) rfl (Classical.choose_spec (Classical.choose_spec (Classical.choose_spec (Classical.choose_spec (Classical.choose_spec (Classical.choose_spec (Classical.choose_spec eJ_125x1.cell)))))))) rfl rfl hl.1 rfl (lv_room (Nat.le_of_ble_eq_true rfl)) dL_law_163 ⟨(by show _ ≤ 600086; omega), (by show _ ≤ 7301441; omega)⟩) hS (fun r_163x1 f_163x1 n_163x1 H locs hp hW hS => ?_)
              obtain ⟨rfl, rfl, rfl⟩ := hp
              have hW : q_W E (f_125x1) n_125x1 H := hW
              rw [show v1_125x1 (6 + 2) = v1_125x1 8 from rfl]
              refine lv_iadd hx hb dL_law_166 ?_
              refine lv_istore (lv' := [(11, .int ((0 + (v1_125x1 7)) + (v1_125x1 8))), (12, .int 2), (9, .long (z_dig pn (nI NR) (nI ac) hd9 v1_125x1 (k_T v1_125x1) (k_N v1_125x1))), (0, .ref (E.2.2.2 108)), (1, .ref n), (2, .ref (n + 55)), (3, .int (nI tm)), (4, .ref N), (6, .ref k_76), (7, .int (nI pn)), (8, .int (nI sp))]) hx hb dL_law_167 hl (by decide) rfl (fun ls hl => ?_)
              refine lv_iinc (v := 3) (lv' := [(12, .int 3), (11, .int ((0 + (v1_125x1 7)) + (v1_125x1 8))), (9, .long (z_dig pn (nI NR) (nI ac) hd9 v1_125x1 (k_T v1_125x1) (k_N v1_125x1))), (0, .ref (E.2.2.2 108)), (1, .ref n), (2, .ref (n + 55)), (3, .int (nI tm)), (4, .ref N), (6, .ref k_76), (7, .int (nI pn)), (8, .int (nI sp))]) hx hb dL_law_169 hl (k := 1) rfl (by decide) (by decide) rfl (fun ls hl => ?_)
              refine lv_goto (tgt := 151) hx hb dL_law_172 (by decide) ?_
              refine lv_iload hx hb dL_law_151 (lv_at hl 0 rfl) ?_
              refine lv_bipush (v := 6) hx hb dL_law_153 (by decide) ?_
              refine lv_icmp_ge (tgt := 175) hx hb dL_law_155 (by decide) (fun c_155 => absurd c_155 (by decide)) (fun c_155 => ?_)
              refine lv_iload hx hb dL_law_158 (lv_at hl 1 rfl) ?_
              refine lv_aload_n hx hb dL_law_160 rfl (lv_at hl 4 rfl) ?_
              refine lv_iload hx hb dL_law_161 (lv_at hl 0 rfl) ?_
              refine q_ci (va_runV (As := [.int 3]) (rest := [.int ((0 + (v1_125x1 7)) + (v1_125x1 8))]) ⟨hx, hb, hml, hown, hts⟩ (ja_warningsOf l E f_125x1 n_125x1 n (n + 55) n_65 N k_76 s1_125x1 (fun _ => False) (BB + 100 + 100) pn NR (nI ac) hd9 v1_125x1 v1_125x1 RS9 3 eJ_125x1 (fun q x e => hW.lt e) (by decide) (by decide)) (cwV 1 hts gL_law_X12_warningsOf rfl rfl rfl (by decide +kernel) ⟨(Nat.le_of_ble_eq_true rfl), (Nat.le_of_ble_eq_true rfl)⟩) (q_pV hA hW hS (ci := 12) rfl (Classical.choose_spec (Classical.choose_spec (Classical.choose_spec (Classical.choose_spec (Classical.choose_spec (Classical.choose_spec (Classical.choose_spec eJ_125x1.cell)))))))) rfl rfl hl.1 rfl (lv_room (Nat.le_of_ble_eq_true rfl)) dL_law_163 ⟨(by show _ ≤ 600086; omega), (by show _ ≤ 7301441; omega)⟩) hS (fun r_163x2 f_163x2 n_163x2 H locs hp hW hS => ?_)
              obtain ⟨rfl, rfl, rfl⟩ := hp
              have hW : q_W E (f_125x1) n_125x1 H := hW
              rw [show v1_125x1 (6 + 3) = v1_125x1 9 from rfl]
              refine lv_iadd hx hb dL_law_166 ?_
              refine lv_istore (lv' := [(11, .int (((0 + (v1_125x1 7)) + (v1_125x1 8)) + (v1_125x1 9))), (12, .int 3), (9, .long (z_dig pn (nI NR) (nI ac) hd9 v1_125x1 (k_T v1_125x1) (k_N v1_125x1))), (0, .ref (E.2.2.2 108)), (1, .ref n), (2, .ref (n + 55)), (3, .int (nI tm)), (4, .ref N), (6, .ref k_76), (7, .int (nI pn)), (8, .int (nI sp))]) hx hb dL_law_167 hl (by decide) rfl (fun ls hl => ?_)
              refine lv_iinc (v := 4) (lv' := [(12, .int 4), (11, .int (((0 + (v1_125x1 7)) + (v1_125x1 8)) + (v1_125x1 9))), (9, .long (z_dig pn (nI NR) (nI ac) hd9 v1_125x1 (k_T v1_125x1) (k_N v1_125x1))), (0, .ref (E.2.2.2 108)), (1, .ref n), (2, .ref (n + 55)), (3, .int (nI tm)), (4, .ref N), (6, .ref k_76), (7, .int (nI pn)), (8, .int (nI sp))]) hx hb dL_law_169 hl (k := 1) rfl (by decide) (by decide) rfl (fun ls hl => ?_)
              refine lv_goto (tgt := 151) hx hb dL_law_172 (by decide) ?_
              refine lv_iload hx hb dL_law_151 (lv_at hl 0 rfl) ?_
              refine lv_bipush (v := 6) hx hb dL_law_153 (by decide) ?_
              refine lv_icmp_ge (tgt := 175) hx hb dL_law_155 (by decide) (fun c_155 => absurd c_155 (by decide)) (fun c_155 => ?_)
              refine lv_iload hx hb dL_law_158 (lv_at hl 1 rfl) ?_
              refine lv_aload_n hx hb dL_law_160 rfl (lv_at hl 4 rfl) ?_
              refine lv_iload hx hb dL_law_161 (lv_at hl 0 rfl) ?_
              refine q_ci (va_runV (As := [.int 4]) (rest := [.int (((0 + (v1_125x1 7)) + (v1_125x1 8)) + (v1_125x1 9))]) ⟨hx, hb, hml, hown, hts⟩ (ja_warningsOf l E f_125x1 n_125x1 n (n + 55) n_65 N k_76 s1_125x1 (fun _ => False) (BB + 100 + 100) pn NR (nI ac) hd9 v1_125x1 v1_125x1 RS9 4 eJ_125x1 (fun q x e => hW.lt e) (by decide) (by decide)) (cwV 1 hts gL_law_X12_warningsOf rfl rfl rfl (by decide +kernel) ⟨(Nat.le_of_ble_eq_true rfl), (Nat.le_of_ble_eq_true rfl)⟩) (q_pV hA hW hS (ci := 12) rfl (Classical.choose_spec (Classical.choose_spec (Classical.choose_spec (Classical.choose_spec (Classical.choose_spec (Classical.choose_spec (Classical.choose_spec eJ_125x1.cell)))))))) rfl rfl hl.1 rfl (lv_room (Nat.le_of_ble_eq_true rfl)) dL_law_163 ⟨(by show _ ≤ 600086; omega), (by show _ ≤ 7301441; omega)⟩) hS (fun r_163x3 f_163x3 n_163x3 H locs hp hW hS => ?_)
              obtain ⟨rfl, rfl, rfl⟩ := hp
              have hW : q_W E (f_125x1) n_125x1 H := hW
              rw [show v1_125x1 (6 + 4) = v1_125x1 10 from rfl]
              refine lv_iadd hx hb dL_law_166 ?_
              refine lv_istore (lv' := [(11, .int ((((0 + (v1_125x1 7)) + (v1_125x1 8)) + (v1_125x1 9)) + (v1_125x1 10))), (12, .int 4), (9, .long (z_dig pn (nI NR) (nI ac) hd9 v1_125x1 (k_T v1_125x1) (k_N v1_125x1))), (0, .ref (E.2.2.2 108)), (1, .ref n), (2, .ref (n + 55)), (3, .int (nI tm)), (4, .ref N), (6, .ref k_76), (7, .int (nI pn)), (8, .int (nI sp))]) hx hb dL_law_167 hl (by decide) rfl (fun ls hl => ?_)
              refine lv_iinc (v := 5) (lv' := [(12, .int 5), (11, .int ((((0 + (v1_125x1 7)) + (v1_125x1 8)) + (v1_125x1 9)) + (v1_125x1 10))), (9, .long (z_dig pn (nI NR) (nI ac) hd9 v1_125x1 (k_T v1_125x1) (k_N v1_125x1))), (0, .ref (E.2.2.2 108)), (1, .ref n), (2, .ref (n + 55)), (3, .int (nI tm)), (4, .ref N), (6, .ref k_76), (7, .int (nI pn)), (8, .int (nI sp))]) hx hb dL_law_169 hl (k := 1) rfl (by decide) (by decide) rfl (fun ls hl => ?_)
              refine lv_goto (tgt := 151) hx hb dL_law_172 (by decide) ?_
              refine lv_iload hx hb dL_law_151 (lv_at hl 0 rfl) ?_
              refine lv_bipush (v := 6) hx hb dL_law_153 (by decide) ?_
              refine lv_icmp_ge (tgt := 175) hx hb dL_law_155 (by decide) (fun c_155 => absurd c_155 (by decide)) (fun c_155 => ?_)
              refine lv_iload hx hb dL_law_158 (lv_at hl 1 rfl) ?_
              refine lv_aload_n hx hb dL_law_160 rfl (lv_at hl 4 rfl) ?_
              refine lv_iload hx hb dL_law_161 (lv_at hl 0 rfl) ?_
              refine q_ci (va_runV (As := [.int 5]) (rest := [.int ((((0 + (v1_125x1 7)) + (v1_125x1 8)) + (v1_125x1 9)) + (v1_125x1 10))]) ⟨hx, hb, hml, hown, hts⟩ (ja_warningsOf l E f_125x1 n_125x1 n (n + 55) n_65 N k_76 s1_125x1 (fun _ => False) (BB + 100 + 100) pn NR (nI ac) hd9 v1_125x1 v1_125x1 RS9 5 eJ_125x1 (fun q x e => hW.lt e) (by decide) (by decide)) (cwV 1 hts gL_law_X12_warningsOf rfl rfl rfl (by decide +kernel) ⟨(Nat.le_of_ble_eq_true rfl), (Nat.le_of_ble_eq_true rfl)⟩) (q_pV hA hW hS (ci := 12) rfl (Classical.choose_spec (Classical.choose_spec (Classical.choose_spec (Classical.choose_spec (Classical.choose_spec (Classical.choose_spec (Classical.choose_spec eJ_125x1.cell)))))))) rfl rfl hl.1 rfl (lv_room (Nat.le_of_ble_eq_true rfl)) dL_law_163 ⟨(by show _ ≤ 600086; omega), (by show _ ≤ 7301441; omega)⟩) hS (fun r_163x4 f_163x4 n_163x4 H locs hp hW hS => ?_)
              obtain ⟨rfl, rfl, rfl⟩ := hp
              have hW : q_W E (f_125x1) n_125x1 H := hW
              rw [show v1_125x1 (6 + 5) = v1_125x1 11 from rfl]
              refine lv_iadd hx hb dL_law_166 ?_
              refine lv_istore (lv' := [(11, .int (((((0 + (v1_125x1 7)) + (v1_125x1 8)) + (v1_125x1 9)) + (v1_125x1 10)) + (v1_125x1 11))), (12, .int 5), (9, .long (z_dig pn (nI NR) (nI ac) hd9 v1_125x1 (k_T v1_125x1) (k_N v1_125x1))), (0, .ref (E.2.2.2 108)), (1, .ref n), (2, .ref (n + 55)), (3, .int (nI tm)), (4, .ref N), (6, .ref k_76), (7, .int (nI pn)), (8, .int (nI sp))]) hx hb dL_law_167 hl (by decide) rfl (fun ls hl => ?_)
              refine lv_iinc (v := 6) (lv' := [(12, .int 6), (11, .int (((((0 + (v1_125x1 7)) + (v1_125x1 8)) + (v1_125x1 9)) + (v1_125x1 10)) + (v1_125x1 11))), (9, .long (z_dig pn (nI NR) (nI ac) hd9 v1_125x1 (k_T v1_125x1) (k_N v1_125x1))), (0, .ref (E.2.2.2 108)), (1, .ref n), (2, .ref (n + 55)), (3, .int (nI tm)), (4, .ref N), (6, .ref k_76), (7, .int (nI pn)), (8, .int (nI sp))]) hx hb dL_law_169 hl (k := 1) rfl (by decide) (by decide) rfl (fun ls hl => ?_)
              refine lv_goto (tgt := 151) hx hb dL_law_172 (by decide) ?_
              refine lv_iload hx hb dL_law_151 (lv_at hl 0 rfl) ?_
              refine lv_bipush (v := 6) hx hb dL_law_153 (by decide) ?_
              refine lv_icmp_ge (tgt := 175) hx hb dL_law_155 (by decide) (fun c_155 => ?_) (fun c_155 => absurd c_155 (by decide))
              refine lv_iload hx hb dL_law_175 (lv_at hl 1 rfl) ?_
              refine lv_aload_n hx hb dL_law_177 rfl (lv_at hl 4 rfl) ?_
              refine q_ci (va_runV (As := []) (rest := [.int (((((0 + (v1_125x1 7)) + (v1_125x1 8)) + (v1_125x1 9)) + (v1_125x1 10)) + (v1_125x1 11))]) ⟨hx, hb, hml, hown, hts⟩ (ja_warnings l E f_125x1 n_125x1 n (n + 55) n_65 N k_76 s1_125x1 (fun _ => False) (BB + 100 + 100) pn NR (nI ac) hd9 v1_125x1 v1_125x1 RS9 eJ_125x1 (fun q x e => hW.lt e)) (cwV 0 hts gL_law_X12_warnings rfl rfl rfl (by decide +kernel) ⟨(Nat.le_of_ble_eq_true rfl), (Nat.le_of_ble_eq_true rfl)⟩) (q_pV hA hW hS (ci := 12) rfl (Classical.choose_spec (Classical.choose_spec (Classical.choose_spec (Classical.choose_spec (Classical.choose_spec (Classical.choose_spec (Classical.choose_spec eJ_125x1.cell)))))))) rfl rfl hl.1 rfl (lv_room (Nat.le_of_ble_eq_true rfl)) dL_law_178 ⟨(by show _ ≤ 600086; omega), (by show _ ≤ 7301441; omega)⟩) hS (fun r_178 f_178 n_178 H locs hp hW hS => ?_)
              obtain ⟨rfl, rfl, rfl⟩ := hp
              have hW : q_W E (f_125x1) n_125x1 H := hW
              refine lv_icmp_ne (tgt := 199) hx hb dL_law_181 (by decide) (fun c_181 => False.elim ((fun h9 => h9 (by rw [Int32.zero_add]; exact hsm.2.1.symm)) c_181)) (fun c_181 => ?_)
              refine lv_aload_n hx hb dL_law_184 rfl (lv_at hl 4 rfl) ?_
              refine q_ci (va_runV (As := []) (rest := []) ⟨hx, hb, hml, hown, hts⟩ (ja_boilingPoint l E f_125x1 n_125x1 n (n + 55) n_65 N k_76 s1_125x1 (fun _ => False) (BB + 100 + 100) pn NR (nI ac) hd9 v1_125x1 v1_125x1 RS9 eJ_125x1 (fun q x e => hW.lt e)) (cwV 0 hts gL_law_X12_boilingPoint rfl rfl rfl (by decide +kernel) ⟨(Nat.le_of_ble_eq_true rfl), (Nat.le_of_ble_eq_true rfl)⟩) (q_pV hA hW hS (ci := 12) rfl (Classical.choose_spec (Classical.choose_spec (Classical.choose_spec (Classical.choose_spec (Classical.choose_spec (Classical.choose_spec (Classical.choose_spec eJ_125x1.cell)))))))) rfl rfl hl.1 rfl (lv_room (Nat.le_of_ble_eq_true rfl)) dL_law_185 ⟨(by show _ ≤ 600086; omega), (by show _ ≤ 7301441; omega)⟩) hS (fun r_185 f_185 n_185 H locs hp hW hS => ?_)
              obtain ⟨rfl, rfl, rfl⟩ := hp
              have hW : q_W E (f_125x1) n_125x1 H := hW
              refine lv_aload_n hx hb dL_law_188 rfl (lv_at hl 4 rfl) ?_
              refine lv_aload_n hx hb dL_law_189 rfl (lv_at hl 4 rfl) ?_
              refine q_ci (va_runV (As := []) (rest := [.ref n, .int (z_boil (v1_125x1 0))]) ⟨hx, hb, hml, hown, hts⟩ (ja_altitude l E f_125x1 n_125x1 n (n + 55) n_65 N k_76 s1_125x1 (fun _ => False) (BB + 100 + 100) pn NR (nI ac) hd9 v1_125x1 v1_125x1 RS9 eJ_125x1 (fun q x e => hW.lt e)) (cwV 0 hts gL_law_X12_altitude rfl rfl rfl (by decide +kernel) ⟨(Nat.le_of_ble_eq_true rfl), (Nat.le_of_ble_eq_true rfl)⟩) (q_pV hA hW hS (ci := 12) rfl (Classical.choose_spec (Classical.choose_spec (Classical.choose_spec (Classical.choose_spec (Classical.choose_spec (Classical.choose_spec (Classical.choose_spec eJ_125x1.cell)))))))) rfl rfl hl.1 rfl (lv_room (Nat.le_of_ble_eq_true rfl)) dL_law_190 ⟨(by show _ ≤ 600086; omega), (by show _ ≤ 7301441; omega)⟩) hS (fun r_190 f_190 n_190 H locs hp hW hS => ?_)
              obtain ⟨rfl, rfl, rfl⟩ := hp
              have hW : q_W E (f_125x1) n_125x1 H := hW
              refine q_ci (va_runV (As := [.int (v1_125x1 0)]) (rest := [.int (z_boil (v1_125x1 0))]) ⟨hx, hb, hml, hown, hts⟩ (ja_boilingAt l E f_125x1 n_125x1 n (n + 55) n_65 N k_76 s1_125x1 (fun _ => False) (BB + 100 + 100) pn NR (nI ac) hd9 v1_125x1 v1_125x1 RS9 (v1_125x1 0) eJ_125x1 (fun q x e => hW.lt e) (by rw [e0]; exact b_in_nI (L := 60) (by decide) hal)) (cwV 1 hts gL_law_X12_boilingAt rfl rfl rfl (by decide +kernel) ⟨(Nat.le_of_ble_eq_true rfl), (Nat.le_of_ble_eq_true rfl)⟩) (q_pV hA hW hS (ci := 12) rfl (Classical.choose_spec (Classical.choose_spec (Classical.choose_spec (Classical.choose_spec (Classical.choose_spec (Classical.choose_spec (Classical.choose_spec eJ_125x1.cell)))))))) rfl rfl hl.1 rfl (lv_room (Nat.le_of_ble_eq_true rfl)) dL_law_193 ⟨(by show _ ≤ 600086; omega), (by show _ ≤ 7301441; omega)⟩) hS (fun r_193 f_193 n_193 H locs hp hW hS => ?_)
              obtain ⟨rfl, rfl, rfl⟩ := hp
              have hW : q_W E (f_125x1) n_125x1 H := hW
              refine lv_icmp_eq (tgt := 201) hx hb dL_law_196 (by decide) (fun c_196 => ?_) (fun c_196 => False.elim ((fun h9 => h9 rfl) c_196))
              have hS9 : ((((0 + (v1_125x1 7)) + (v1_125x1 8)) + (v1_125x1 9)) + (v1_125x1 10)) + (v1_125x1 11) = nI (k_T v1_125x1) := by rw [Int32.zero_add, ← hsm.2.1]; exact hv4
              rw [hS9] at hl
              refine lv_iconst (v := 0) hx hb dL_law_201 (by decide) ?_
              refine lv_istore (lv' := [(12, .int 0), (11, .int (nI (k_T v1_125x1))), (9, .long (z_dig pn (nI NR) (nI ac) hd9 v1_125x1 (k_T v1_125x1) (k_N v1_125x1))), (0, .ref (E.2.2.2 108)), (1, .ref n), (2, .ref (n + 55)), (3, .int (nI tm)), (4, .ref N), (6, .ref k_76), (7, .int (nI pn)), (8, .int (nI sp))]) hx hb dL_law_202 hl (by decide) rfl (fun ls hl => ?_)
              have K204 : ∀ (fu : Nat) (w9 : Nat) (h_w9 : w9 ≤ min 20 (k_T v1_125x1)) (hm : min 20 (k_T v1_125x1) - w9 < fu) (H : Heap) (locs : List Loc) (ls : Array Slot), q_W E (f_125x1) n_125x1 H → va_S (q_ge E) s0_.heap H locs → lv_has ls 33 [(11, .int (nI (k_T v1_125x1))), (9, .long (z_dig pn (nI NR) (nI ac) hd9 v1_125x1 (k_T v1_125x1) (k_N v1_125x1))), (0, .ref (E.2.2.2 108)), (1, .ref n), (2, .ref (n + 55)), (3, .int (nI tm)), (4, .ref N), (6, .ref k_76), (7, .int (nI pn)), (8, .int (nI sp)), (12, .int (nI w9))] → W p0_ l e0_ room_1 s0_ m0_ #[Value.ref (E.2.2.2 108)] below0_ meth0_ c0_ H locs (110 + 26000 * tm + 21000 + 450 * sp + 101 + 101) (6614 + 1700000 * tm + 1480000 + 9000 * sp + 2006 + 2006) Q9 (F0 m0_ 204 ls []) := by
                intro fu
                induction fu with
                | zero =>
                  intro w9 h_w9 hm
                  exact absurd hm (Nat.not_lt_zero _)
                | succ fu ih =>
                  intro w9 h_w9 hm H locs ls hW hS hl
                  refine lv_iload hx hb dL_law_204 (lv_at hl 10 rfl) ?_
                  refine lv_bipush (v := 20) hx hb dL_law_206 (by decide) ?_
                  refine lv_iload hx hb dL_law_208 (lv_at hl 0 rfl) ?_
                  refine va_mmin hx hb (hml.trans hl.1.symm) hown (hts (.methodLink RL 184 Lib.Math.min.name) (by decide +kernel)) (hts (.static Lib.Math.min.name) (by decide +kernel)) (hts (.initialized "java/lang/Math") (by decide +kernel)) (hts (.code Lib.Math.min.name Lib.Math.min.code 2 (some .int)) (by decide +kernel)) (Nat.le_of_ble_eq_true rfl) (Nat.le_of_ble_eq_true rfl) (by show _ ≤ 600086; omega) (by show _ ≤ 7301441; omega) dL_law_210 ?_
                  refine w_top (show _ = q_min 20 (nI (k_T v1_125x1)) from rfl) ?_
                  rw [show q_min 20 (nI (k_T v1_125x1)) = nI (min 20 (k_T v1_125x1)) from min_nI (a := 20) (by decide) (by omega)]
                  refine lv_icmp_ge (tgt := 244) hx hb dL_law_213 (by decide) (fun c_213 => ?_) (fun c_213 => ?_)
                  · refine lv_dconst0 hx hb dL_law_244 ?_
                    rw [show FP.dconst0 = FP.i2d (z_sum v1_125x1 0) from (by decide +kernel : FP.dconst0 = FP.i2d 0)]
                    refine lv_dstore (lv' := [(12, .double (FP.i2d (z_sum v1_125x1 0))), (11, .int (nI (k_T v1_125x1))), (9, .long (z_dig pn (nI NR) (nI ac) hd9 v1_125x1 (k_T v1_125x1) (k_N v1_125x1))), (0, .ref (E.2.2.2 108)), (1, .ref n), (2, .ref (n + 55)), (3, .int (nI tm)), (4, .ref N), (6, .ref k_76), (7, .int (nI pn)), (8, .int (nI sp))]) hx hb dL_law_245 hl (by decide) rfl (fun ls hl => ?_)
                    refine lv_iconst (v := 0) hx hb dL_law_247 (by decide) ?_
                    refine lv_istore (lv' := [(14, .int 0), (12, .double (FP.i2d (z_sum v1_125x1 0))), (11, .int (nI (k_T v1_125x1))), (9, .long (z_dig pn (nI NR) (nI ac) hd9 v1_125x1 (k_T v1_125x1) (k_N v1_125x1))), (0, .ref (E.2.2.2 108)), (1, .ref n), (2, .ref (n + 55)), (3, .int (nI tm)), (4, .ref N), (6, .ref k_76), (7, .int (nI pn)), (8, .int (nI sp))]) hx hb dL_law_248 hl (by decide) rfl (fun ls hl => ?_)
                    have K250 : ∀ (fu : Nat) (p9 : Nat) (h_p9 : p9 ≤ pn) (hm : pn - p9 < fu) (H : Heap) (locs : List Loc) (ls : Array Slot), q_W E (f_125x1) n_125x1 H → va_S (q_ge E) s0_.heap H locs → lv_has ls 33 [(11, .int (nI (k_T v1_125x1))), (9, .long (z_dig pn (nI NR) (nI ac) hd9 v1_125x1 (k_T v1_125x1) (k_N v1_125x1))), (0, .ref (E.2.2.2 108)), (1, .ref n), (2, .ref (n + 55)), (3, .int (nI tm)), (4, .ref N), (6, .ref k_76), (7, .int (nI pn)), (8, .int (nI sp)), (12, .double (FP.i2d (z_sum v1_125x1 p9))), (14, .int (nI p9))] → W p0_ l e0_ room_1 s0_ m0_ #[Value.ref (E.2.2.2 108)] below0_ meth0_ c0_ H locs (110 + 26000 * tm + 21000 + 450 * sp + 101 + 101) (6614 + 1700000 * tm + 1480000 + 9000 * sp + 2006 + 2006) Q9 (F0 m0_ 250 ls []) := by
                      intro fu
                      induction fu with
                      | zero =>
                        intro p9 h_p9 hm
                        exact absurd hm (Nat.not_lt_zero _)
                      | succ fu ih =>
                        intro p9 h_p9 hm H locs ls hW hS hl
                        refine lv_iload hx hb dL_law_250 (lv_at hl 11 rfl) ?_
                        refine lv_iload hx hb dL_law_252 (lv_at hl 8 rfl) ?_
                        refine lv_icmp_ge (tgt := 393) hx hb dL_law_254 (by decide) (fun c_254 => ?_) (fun c_254 => ?_)
                        · have hpp : p9 = pn := Nat.le_antisymm h_p9 (q_leN (by omega) c_254)
                          rw [hpp] at hl
                          refine lv_aload_n hx hb dL_law_393 rfl (lv_at hl 3 rfl) ?_
                          refine q_cd (va_runV (As := []) (rest := []) ⟨hx, hb, hml, hown, hts⟩ (ja_meanHeat l E f_125x1 n_125x1 n (n + 55) n_65 N k_76 s1_125x1 (fun _ => False) (BB + 100 + 100) pn NR (nI ac) hd9 v1_125x1 v1_125x1 RS9 eJ_125x1 (fun q x e => hW.lt e)) (cwV 0 hts gL_law_X12_meanHeat rfl rfl rfl (by decide +kernel) ⟨(Nat.le_of_ble_eq_true rfl), (Nat.le_of_ble_eq_true rfl)⟩) (q_pV hA hW hS (ci := 12) rfl (Classical.choose_spec (Classical.choose_spec (Classical.choose_spec (Classical.choose_spec (Classical.choose_spec (Classical.choose_spec (Classical.choose_spec eJ_125x1.cell)))))))) rfl rfl hl.1 rfl (lv_room (Nat.le_of_ble_eq_true rfl)) dL_law_394 ⟨(by show _ ≤ 600086; omega), (by show _ ≤ 7301441; omega)⟩) hS (fun r_394 f_394 n_394 H locs hp hW hS => ?_)
                          obtain ⟨rfl, rfl, rfl⟩ := hp
                          have hW : q_W E (f_125x1) n_125x1 H := hW
                          refine lv_dload hx hb dL_law_397 (lv_at hl 10 rfl) ?_
                          refine lv_iload hx hb dL_law_399 (lv_at hl 8 rfl) ?_
                          refine lv_i2d hx hb dL_law_401 ?_
                          refine lv_ddiv hx hb dL_law_402 (z_nn (nI_ne (b := 0) (by omega) (by decide) (by omega))) ?_
                          refine lv_dcmp hx hb dL_law_403 ?_
                          rw [show FP.ddiv (FP.i2d (z_sum v1_125x1 pn)) (FP.i2d (nI pn)) = z_mean v1_125x1 pn from (if_neg (by omega)).symm, cmpv_rf (mean_nn hp1 (by omega))]
                          refine lv_if_eq (tgt := 409) hx hb dL_law_404 (by decide) (fun c_404 => ?_) (fun c_404 => absurd c_404 (by decide))
                          refine lv_aload hx hb dL_law_409 (lv_at hl 6 rfl) ?_
                          refine lv_sipush (v := 999) hx hb dL_law_411 (by decide) ?_
                          have hlt_414 : ∀ q x, (f_125x1) q = some x → q < n_125x1 := fun q x e => hW.lt e
                          refine q_ci (va_runV (As := [.int 999]) (rest := []) ⟨hx, hb, hml, hown, hts⟩ (kX14_next l E f_125x1 n_125x1 N 999 s1_125x1 eJ_125x1.dice (by omega) (by omega)) (cwV 1 hts gL_law_X14_next rfl rfl rfl (by decide +kernel) ⟨(Nat.le_of_ble_eq_true rfl), (Nat.le_of_ble_eq_true rfl)⟩) (q_pV hA hW hS (ci := 14) rfl eJ_125x1.dice) rfl rfl hl.1 rfl (lv_room (Nat.le_of_ble_eq_true rfl)) dL_law_414 ⟨(by show _ ≤ 600086; omega), (by show _ ≤ 7301441; omega)⟩) hS (fun r_414 f_414 n_414 H locs hp hW hS => ?_)
                          obtain ⟨j_414, s1_414, rfl, e0_414, ej_414, en_414, hfr_414⟩ := hp
                          have l_e0_414 := hW.lt e0_414
                          have hJ_414 : JA E n (n + 55) n_65 N k_76 s1_414 (fun _ => False) f_414 n_414 (BB + 100 + 100) pn NR (nI ac) hd9 v1_125x1 v1_125x1 RS9 := eJ_125x1.out hlt_414 (fun q h1 h2 => hfr_414 q h2) (Nat.le_of_eq en_414.symm) e0_414 (fun q hq => Or.inl hq)
                          refine lv_istore (lv' := [(14, .int (nI j_414)), (11, .int (nI (k_T v1_125x1))), (9, .long (z_dig pn (nI NR) (nI ac) hd9 v1_125x1 (k_T v1_125x1) (k_N v1_125x1))), (0, .ref (E.2.2.2 108)), (1, .ref n), (2, .ref (n + 55)), (3, .int (nI tm)), (4, .ref N), (6, .ref k_76), (7, .int (nI pn)), (8, .int (nI sp)), (12, .double (FP.i2d (z_sum v1_125x1 pn)))]) hx hb dL_law_417 hl (by decide) rfl (fun ls hl => ?_)
                          refine lv_aload hx hb dL_law_419 (lv_at hl 7 rfl) ?_
                          refine lv_bipush (v := 60) hx hb dL_law_421 (by decide) ?_
                          have hlt_423 : ∀ q x, (f_414) q = some x → q < n_414 := fun q x e => hW.lt e
                          refine q_ci (va_runV (As := [.int 60]) (rest := []) ⟨hx, hb, hml, hown, hts⟩ (kX14_next l E f_414 n_414 N 60 s1_414 e0_414 (by omega) (by omega)) (cwV 1 hts gL_law_X14_next rfl rfl rfl (by decide +kernel) ⟨(Nat.le_of_ble_eq_true rfl), (Nat.le_of_ble_eq_true rfl)⟩) (q_pV hA hW hS (ci := 14) rfl e0_414) rfl rfl hl.1 rfl (lv_room (Nat.le_of_ble_eq_true rfl)) dL_law_423 ⟨(by show _ ≤ 600086; omega), (by show _ ≤ 7301441; omega)⟩) hS (fun r_423 f_423 n_423 H locs hp hW hS => ?_)
                          obtain ⟨j_423, s1_423, rfl, e0_423, ej_423, en_423, hfr_423⟩ := hp
                          have l_e0_423 := hW.lt e0_423
                          have hJ_423 : JA E n (n + 55) n_65 N k_76 s1_423 (fun _ => False) f_423 n_423 (BB + 100 + 100) pn NR (nI ac) hd9 v1_125x1 v1_125x1 RS9 := hJ_414.out hlt_423 (fun q h1 h2 => hfr_423 q h2) (Nat.le_of_eq en_423.symm) e0_423 (fun q hq => Or.inl hq)
                          refine lv_istore (lv' := [(15, .int (nI j_423)), (14, .int (nI j_414)), (11, .int (nI (k_T v1_125x1))), (9, .long (z_dig pn (nI NR) (nI ac) hd9 v1_125x1 (k_T v1_125x1) (k_N v1_125x1))), (0, .ref (E.2.2.2 108)), (1, .ref n), (2, .ref (n + 55)), (3, .int (nI tm)), (4, .ref N), (6, .ref k_76), (7, .int (nI pn)), (8, .int (nI sp)), (12, .double (FP.i2d (z_sum v1_125x1 pn)))]) hx hb dL_law_426 hl (by decide) rfl (fun ls hl => ?_)
                          refine lv_aload_n hx hb dL_law_428 rfl (lv_at hl 5 rfl) ?_
                          refine lv_iload hx hb dL_law_429 (lv_at hl 1 rfl) ?_
                          refine q_ci (va_runV (As := [.int (nI j_414)]) (rest := []) ⟨hx, hb, hml, hown, hts⟩ (ja_amountFor l E f_423 n_423 n (n + 55) n_65 N k_76 s1_423 (fun _ => False) (BB + 100 + 100) pn NR (nI ac) hd9 v1_125x1 v1_125x1 RS9 (nI j_414) hJ_423 (fun q x e => hW.lt e) (b_in_nI (L := 999) (by decide) (by omega))) (cwV 1 hts gL_law_X12_amountFor rfl rfl rfl (by decide +kernel) ⟨(Nat.le_of_ble_eq_true rfl), (Nat.le_of_ble_eq_true rfl)⟩) (q_pV hA hW hS (ci := 12) rfl (Classical.choose_spec (Classical.choose_spec (Classical.choose_spec (Classical.choose_spec (Classical.choose_spec (Classical.choose_spec (Classical.choose_spec hJ_423.cell)))))))) rfl rfl hl.1 rfl (lv_room (Nat.le_of_ble_eq_true rfl)) dL_law_431 ⟨(by show _ ≤ 600086; omega), (by show _ ≤ 7301441; omega)⟩) hS (fun r_431 f_431 n_431 H locs hp hW hS => ?_)
                          obtain ⟨rfl, rfl, rfl⟩ := hp
                          have hW : q_W E (f_423) n_423 H := hW
                          refine lv_aload_n hx hb dL_law_434 rfl (lv_at hl 5 rfl) ?_
                          refine q_ci (va_runV (As := []) (rest := [.int (z_tr v1_125x1 (nI j_414))]) ⟨hx, hb, hml, hown, hts⟩ (ja_spoon l E f_423 n_423 n (n + 55) n_65 N k_76 s1_423 (fun _ => False) (BB + 100 + 100) pn NR (nI ac) hd9 v1_125x1 v1_125x1 RS9 hJ_423 (fun q x e => hW.lt e)) (cwV 0 hts gL_law_X12_spoon rfl rfl rfl (by decide +kernel) ⟨(Nat.le_of_ble_eq_true rfl), (Nat.le_of_ble_eq_true rfl)⟩) (q_pV hA hW hS (ci := 12) rfl (Classical.choose_spec (Classical.choose_spec (Classical.choose_spec (Classical.choose_spec (Classical.choose_spec (Classical.choose_spec (Classical.choose_spec hJ_423.cell)))))))) rfl rfl hl.1 rfl (lv_room (Nat.le_of_ble_eq_true rfl)) dL_law_435 ⟨(by show _ ≤ 600086; omega), (by show _ ≤ 7301441; omega)⟩) hS (fun r_435 f_435 n_435 H locs hp hW hS => ?_)
                          obtain ⟨rfl, rfl, rfl⟩ := hp
                          have hW : q_W E (f_423) n_423 H := hW
                          refine lv_irem hx hb dL_law_438 (by rw [e2]; exact nI_ne (b := 0) (by omega) (by decide) (by omega)) ?_
                          rw [am_mod e1 e2 hse hsp1 hsp9 (show j_414 ≤ 999 by omega)]
                          refine lv_if_ne (tgt := 518) hx hb dL_law_439 (by decide) (fun c_439 => absurd c_439 (by decide)) (fun c_439 => ?_)
                          refine lv_aload_n hx hb dL_law_442 rfl (lv_at hl 5 rfl) ?_
                          refine lv_iload hx hb dL_law_443 (lv_at hl 1 rfl) ?_
                          refine lv_iconst (v := 1) hx hb dL_law_445 (by decide) ?_
                          refine lv_iadd hx hb dL_law_446 ?_
                          rw [show nI j_414 + 1 = nI (j_414 + 1) from nI_add j_414 1]
                          refine q_ci (va_runV (As := [.int (nI (j_414 + 1))]) (rest := []) ⟨hx, hb, hml, hown, hts⟩ (ja_amountFor l E f_423 n_423 n (n + 55) n_65 N k_76 s1_423 (fun _ => False) (BB + 100 + 100) pn NR (nI ac) hd9 v1_125x1 v1_125x1 RS9 (nI (j_414 + 1)) hJ_423 (fun q x e => hW.lt e) (b_in_nI (L := 999) (by decide) (by omega))) (cwV 1 hts gL_law_X12_amountFor rfl rfl rfl (by decide +kernel) ⟨(Nat.le_of_ble_eq_true rfl), (Nat.le_of_ble_eq_true rfl)⟩) (q_pV hA hW hS (ci := 12) rfl (Classical.choose_spec (Classical.choose_spec (Classical.choose_spec (Classical.choose_spec (Classical.choose_spec (Classical.choose_spec (Classical.choose_spec hJ_423.cell)))))))) rfl rfl hl.1 rfl (lv_room (Nat.le_of_ble_eq_true rfl)) dL_law_447 ⟨(by show _ ≤ 600086; omega), (by show _ ≤ 7301441; omega)⟩) hS (fun r_447 f_447 n_447 H locs hp hW hS => ?_)
                          obtain ⟨rfl, rfl, rfl⟩ := hp
                          have hW : q_W E (f_423) n_423 H := hW
                          refine lv_aload_n hx hb dL_law_450 rfl (lv_at hl 5 rfl) ?_
                          refine lv_iload hx hb dL_law_451 (lv_at hl 1 rfl) ?_
                          refine q_ci (va_runV (As := [.int (nI j_414)]) (rest := [.int (z_tr v1_125x1 (nI (j_414 + 1)))]) ⟨hx, hb, hml, hown, hts⟩ (ja_amountFor l E f_423 n_423 n (n + 55) n_65 N k_76 s1_423 (fun _ => False) (BB + 100 + 100) pn NR (nI ac) hd9 v1_125x1 v1_125x1 RS9 (nI j_414) hJ_423 (fun q x e => hW.lt e) (b_in_nI (L := 999) (by decide) (by omega))) (cwV 1 hts gL_law_X12_amountFor rfl rfl rfl (by decide +kernel) ⟨(Nat.le_of_ble_eq_true rfl), (Nat.le_of_ble_eq_true rfl)⟩) (q_pV hA hW hS (ci := 12) rfl (Classical.choose_spec (Classical.choose_spec (Classical.choose_spec (Classical.choose_spec (Classical.choose_spec (Classical.choose_spec (Classical.choose_spec hJ_423.cell)))))))) rfl rfl hl.1 rfl (lv_room (Nat.le_of_ble_eq_true rfl)) dL_law_453 ⟨(by show _ ≤ 600086; omega), (by show _ ≤ 7301441; omega)⟩) hS (fun r_453 f_453 n_453 H locs hp hW hS => ?_)
                          obtain ⟨rfl, rfl, rfl⟩ := hp
                          have hW : q_W E (f_423) n_423 H := hW
                          refine lv_icmp_lt (tgt := 518) hx hb dL_law_456 (by decide) (fun c_456 => absurd c_456 (am_mono e1 e2 hse hsp1 hsp9 ej_414)) (fun c_456 => ?_)
                          refine lv_aload_n hx hb dL_law_459 rfl (lv_at hl 5 rfl) ?_
                          refine lv_iload hx hb dL_law_460 (lv_at hl 1 rfl) ?_
                          refine lv_iload hx hb dL_law_462 (lv_at hl 0 rfl) ?_
                          refine lv_iconst (v := 1) hx hb dL_law_464 (by decide) ?_
                          refine lv_iadd hx hb dL_law_465 ?_
                          rw [show nI j_423 + 1 = nI (j_423 + 1) from nI_add j_423 1]
                          refine q_ci (va_runV (As := [.int (nI j_414), .int (nI (j_423 + 1))]) (rest := []) ⟨hx, hb, hml, hown, hts⟩ (ja_minutesAt l E f_423 n_423 n (n + 55) n_65 N k_76 s1_423 (fun _ => False) (BB + 100 + 100) pn NR (nI ac) hd9 v1_125x1 v1_125x1 RS9 (nI j_414) (nI (j_423 + 1)) hJ_423 (fun q x e => hW.lt e) (b_in_nI (L := 999) (by decide) (by omega)) (b_in_nI (L := 60) (by decide) (by omega))) (cwV 2 hts gL_law_X12_minutesAt rfl rfl rfl (by decide +kernel) ⟨(Nat.le_of_ble_eq_true rfl), (Nat.le_of_ble_eq_true rfl)⟩) (q_pV hA hW hS (ci := 12) rfl (Classical.choose_spec (Classical.choose_spec (Classical.choose_spec (Classical.choose_spec (Classical.choose_spec (Classical.choose_spec (Classical.choose_spec hJ_423.cell)))))))) rfl rfl hl.1 rfl (lv_room (Nat.le_of_ble_eq_true rfl)) dL_law_466 ⟨(by show _ ≤ 600086; omega), (by show _ ≤ 7301441; omega)⟩) hS (fun r_466 f_466 n_466 H locs hp hW hS => ?_)
                          obtain ⟨rfl, rfl, rfl⟩ := hp
                          have hW : q_W E (f_423) n_423 H := hW
                          refine lv_aload_n hx hb dL_law_469 rfl (lv_at hl 5 rfl) ?_
                          refine lv_iload hx hb dL_law_470 (lv_at hl 1 rfl) ?_
                          refine lv_iload hx hb dL_law_472 (lv_at hl 0 rfl) ?_
                          refine q_ci (va_runV (As := [.int (nI j_414), .int (nI j_423)]) (rest := [.int (z_long (nI j_414) (nI (j_423 + 1)))]) ⟨hx, hb, hml, hown, hts⟩ (ja_minutesAt l E f_423 n_423 n (n + 55) n_65 N k_76 s1_423 (fun _ => False) (BB + 100 + 100) pn NR (nI ac) hd9 v1_125x1 v1_125x1 RS9 (nI j_414) (nI j_423) hJ_423 (fun q x e => hW.lt e) (b_in_nI (L := 999) (by decide) (by omega)) (b_in_nI (L := 60) (by decide) (by omega))) (cwV 2 hts gL_law_X12_minutesAt rfl rfl rfl (by decide +kernel) ⟨(Nat.le_of_ble_eq_true rfl), (Nat.le_of_ble_eq_true rfl)⟩) (q_pV hA hW hS (ci := 12) rfl (Classical.choose_spec (Classical.choose_spec (Classical.choose_spec (Classical.choose_spec (Classical.choose_spec (Classical.choose_spec (Classical.choose_spec hJ_423.cell)))))))) rfl rfl hl.1 rfl (lv_room (Nat.le_of_ble_eq_true rfl)) dL_law_474 ⟨(by show _ ≤ 600086; omega), (by show _ ≤ 7301441; omega)⟩) hS (fun r_474 f_474 n_474 H locs hp hW hS => ?_)
                          obtain ⟨rfl, rfl, rfl⟩ := hp
                          have hW : q_W E (f_423) n_423 H := hW
                          refine lv_icmp_lt (tgt := 518) hx hb dL_law_477 (by decide) (fun c_477 => absurd c_477 (lg_up (show j_414 ≤ 999 by omega) ej_423)) (fun c_477 => ?_)
                          refine lv_aload_n hx hb dL_law_480 rfl (lv_at hl 5 rfl) ?_
                          refine lv_iload hx hb dL_law_481 (lv_at hl 1 rfl) ?_
                          refine lv_iconst (v := 1) hx hb dL_law_483 (by decide) ?_
                          refine lv_iadd hx hb dL_law_484 ?_
                          rw [show nI j_414 + 1 = nI (j_414 + 1) from nI_add j_414 1]
                          refine lv_iload hx hb dL_law_485 (lv_at hl 0 rfl) ?_
                          refine q_ci (va_runV (As := [.int (nI (j_414 + 1)), .int (nI j_423)]) (rest := []) ⟨hx, hb, hml, hown, hts⟩ (ja_minutesAt l E f_423 n_423 n (n + 55) n_65 N k_76 s1_423 (fun _ => False) (BB + 100 + 100) pn NR (nI ac) hd9 v1_125x1 v1_125x1 RS9 (nI (j_414 + 1)) (nI j_423) hJ_423 (fun q x e => hW.lt e) (b_in_nI (L := 999) (by decide) (by omega)) (b_in_nI (L := 60) (by decide) (by omega))) (cwV 2 hts gL_law_X12_minutesAt rfl rfl rfl (by decide +kernel) ⟨(Nat.le_of_ble_eq_true rfl), (Nat.le_of_ble_eq_true rfl)⟩) (q_pV hA hW hS (ci := 12) rfl (Classical.choose_spec (Classical.choose_spec (Classical.choose_spec (Classical.choose_spec (Classical.choose_spec (Classical.choose_spec (Classical.choose_spec hJ_423.cell)))))))) rfl rfl hl.1 rfl (lv_room (Nat.le_of_ble_eq_true rfl)) dL_law_487 ⟨(by show _ ≤ 600086; omega), (by show _ ≤ 7301441; omega)⟩) hS (fun r_487 f_487 n_487 H locs hp hW hS => ?_)
                          obtain ⟨rfl, rfl, rfl⟩ := hp
                          have hW : q_W E (f_423) n_423 H := hW
                          refine lv_aload_n hx hb dL_law_490 rfl (lv_at hl 5 rfl) ?_
                          refine lv_iload hx hb dL_law_491 (lv_at hl 1 rfl) ?_
                          refine lv_iload hx hb dL_law_493 (lv_at hl 0 rfl) ?_
                          refine q_ci (va_runV (As := [.int (nI j_414), .int (nI j_423)]) (rest := [.int (z_long (nI (j_414 + 1)) (nI j_423))]) ⟨hx, hb, hml, hown, hts⟩ (ja_minutesAt l E f_423 n_423 n (n + 55) n_65 N k_76 s1_423 (fun _ => False) (BB + 100 + 100) pn NR (nI ac) hd9 v1_125x1 v1_125x1 RS9 (nI j_414) (nI j_423) hJ_423 (fun q x e => hW.lt e) (b_in_nI (L := 999) (by decide) (by omega)) (b_in_nI (L := 60) (by decide) (by omega))) (cwV 2 hts gL_law_X12_minutesAt rfl rfl rfl (by decide +kernel) ⟨(Nat.le_of_ble_eq_true rfl), (Nat.le_of_ble_eq_true rfl)⟩) (q_pV hA hW hS (ci := 12) rfl (Classical.choose_spec (Classical.choose_spec (Classical.choose_spec (Classical.choose_spec (Classical.choose_spec (Classical.choose_spec (Classical.choose_spec hJ_423.cell)))))))) rfl rfl hl.1 rfl (lv_room (Nat.le_of_ble_eq_true rfl)) dL_law_495 ⟨(by show _ ≤ 600086; omega), (by show _ ≤ 7301441; omega)⟩) hS (fun r_495 f_495 n_495 H locs hp hW hS => ?_)
                          obtain ⟨rfl, rfl, rfl⟩ := hp
                          have hW : q_W E (f_423) n_423 H := hW
                          refine lv_icmp_le (tgt := 518) hx hb dL_law_498 (by decide) (fun c_498 => absurd c_498 (lg_in ej_414 (show j_423 ≤ 60 by omega))) (fun c_498 => ?_)
                          refine lv_aload_n hx hb dL_law_501 rfl (lv_at hl 5 rfl) ?_
                          refine lv_iload hx hb dL_law_502 (lv_at hl 0 rfl) ?_
                          refine lv_iconst (v := 1) hx hb dL_law_504 (by decide) ?_
                          refine lv_iadd hx hb dL_law_505 ?_
                          rw [show nI j_423 + 1 = nI (j_423 + 1) from nI_add j_423 1]
                          refine q_ci (va_runV (As := [.int (nI (j_423 + 1))]) (rest := []) ⟨hx, hb, hml, hown, hts⟩ (ja_boilingAt l E f_423 n_423 n (n + 55) n_65 N k_76 s1_423 (fun _ => False) (BB + 100 + 100) pn NR (nI ac) hd9 v1_125x1 v1_125x1 RS9 (nI (j_423 + 1)) hJ_423 (fun q x e => hW.lt e) (b_in_nI (L := 60) (by decide) (by omega))) (cwV 1 hts gL_law_X12_boilingAt rfl rfl rfl (by decide +kernel) ⟨(Nat.le_of_ble_eq_true rfl), (Nat.le_of_ble_eq_true rfl)⟩) (q_pV hA hW hS (ci := 12) rfl (Classical.choose_spec (Classical.choose_spec (Classical.choose_spec (Classical.choose_spec (Classical.choose_spec (Classical.choose_spec (Classical.choose_spec hJ_423.cell)))))))) rfl rfl hl.1 rfl (lv_room (Nat.le_of_ble_eq_true rfl)) dL_law_506 ⟨(by show _ ≤ 600086; omega), (by show _ ≤ 7301441; omega)⟩) hS (fun r_506 f_506 n_506 H locs hp hW hS => ?_)
                          obtain ⟨rfl, rfl, rfl⟩ := hp
                          have hW : q_W E (f_423) n_423 H := hW
                          refine lv_aload_n hx hb dL_law_509 rfl (lv_at hl 5 rfl) ?_
                          refine lv_iload hx hb dL_law_510 (lv_at hl 0 rfl) ?_
                          refine q_ci (va_runV (As := [.int (nI j_423)]) (rest := [.int (z_boil (nI (j_423 + 1)))]) ⟨hx, hb, hml, hown, hts⟩ (ja_boilingAt l E f_423 n_423 n (n + 55) n_65 N k_76 s1_423 (fun _ => False) (BB + 100 + 100) pn NR (nI ac) hd9 v1_125x1 v1_125x1 RS9 (nI j_423) hJ_423 (fun q x e => hW.lt e) (b_in_nI (L := 60) (by decide) (by omega))) (cwV 1 hts gL_law_X12_boilingAt rfl rfl rfl (by decide +kernel) ⟨(Nat.le_of_ble_eq_true rfl), (Nat.le_of_ble_eq_true rfl)⟩) (q_pV hA hW hS (ci := 12) rfl (Classical.choose_spec (Classical.choose_spec (Classical.choose_spec (Classical.choose_spec (Classical.choose_spec (Classical.choose_spec (Classical.choose_spec hJ_423.cell)))))))) rfl rfl hl.1 rfl (lv_room (Nat.le_of_ble_eq_true rfl)) dL_law_512 ⟨(by show _ ≤ 600086; omega), (by show _ ≤ 7301441; omega)⟩) hS (fun r_512 f_512 n_512 H locs hp hW hS => ?_)
                          obtain ⟨rfl, rfl, rfl⟩ := hp
                          have hW : q_W E (f_423) n_423 H := hW
                          refine lv_icmp_le (tgt := 520) hx hb dL_law_515 (by decide) (fun c_515 => ?_) (fun c_515 => absurd (bo_dn ej_423) c_515)
                          refine lv_aload hx hb dL_law_520 (lv_at hl 8 rfl) ?_
                          refine lv_aload_n hx hb dL_law_522 rfl (lv_at hl 5 rfl) ?_
                          refine q_ci (va_runV (As := []) (rest := [.ref N]) ⟨hx, hb, hml, hown, hts⟩ (ja_recipes l E f_423 n_423 n (n + 55) n_65 N k_76 s1_423 (fun _ => False) (BB + 100 + 100) pn NR (nI ac) hd9 v1_125x1 v1_125x1 RS9 hJ_423 (fun q x e => hW.lt e)) (cwV 0 hts gL_law_X12_recipes rfl rfl rfl (by decide +kernel) ⟨(Nat.le_of_ble_eq_true rfl), (Nat.le_of_ble_eq_true rfl)⟩) (q_pV hA hW hS (ci := 12) rfl (Classical.choose_spec (Classical.choose_spec (Classical.choose_spec (Classical.choose_spec (Classical.choose_spec (Classical.choose_spec (Classical.choose_spec hJ_423.cell)))))))) rfl rfl hl.1 rfl (lv_room (Nat.le_of_ble_eq_true rfl)) dL_law_523 ⟨(by show _ ≤ 600086; omega), (by show _ ≤ 7301441; omega)⟩) hS (fun r_523 f_523 n_523 H locs hp hW hS => ?_)
                          obtain ⟨rfl, rfl, rfl⟩ := hp
                          have hW : q_W E (f_423) n_423 H := hW
                          have hlt_526 : ∀ q x, (f_423) q = some x → q < n_423 := fun q x e => hW.lt e
                          refine q_ci (va_runV (As := [.int (nI NR)]) (rest := []) ⟨hx, hb, hml, hown, hts⟩ (kX14_next l E f_423 n_423 N NR s1_423 e0_423 (by omega) (by omega)) (cwV 1 hts gL_law_X14_next rfl rfl rfl (by decide +kernel) ⟨(Nat.le_of_ble_eq_true rfl), (Nat.le_of_ble_eq_true rfl)⟩) (q_pV hA hW hS (ci := 14) rfl e0_423) rfl rfl hl.1 rfl (lv_room (Nat.le_of_ble_eq_true rfl)) dL_law_526 ⟨(by show _ ≤ 600086; omega), (by show _ ≤ 7301441; omega)⟩) hS (fun r_526 f_526 n_526 H locs hp hW hS => ?_)
                          obtain ⟨j_526, s1_526, rfl, e0_526, ej_526, en_526, hfr_526⟩ := hp
                          have l_e0_526 := hW.lt e0_526
                          have hJ_526 : JA E n (n + 55) n_65 N k_76 s1_526 (fun _ => False) f_526 n_526 (BB + 100 + 100) pn NR (nI ac) hd9 v1_125x1 v1_125x1 RS9 := hJ_423.out hlt_526 (fun q h1 h2 => hfr_526 q h2) (Nat.le_of_eq en_526.symm) e0_526 (fun q hq => Or.inl hq)
                          obtain ⟨hev1, hev2⟩ := hJ_526.evs j_526 ej_526
                          obtain ⟨mm, dW, hmm, hdW, hm3, hm4, hfw⟩ := rec_f hev1 hev2 (show BB + 100 + 100 ≤ 2 ^ 29 by omega) hgm
                          have hr1 : (RS9 j_526 hd9 (v1_125x1, 0, (-1))).1 3 - v1_125x1 3 = nI mm := by rw [hm3]; exact sub_add_nI
                          have hr2 : (RS9 j_526 hd9 (v1_125x1, 0, (-1))).1 4 - v1_125x1 4 = nI dW := by rw [hm4]; exact sub_add_nI
                          refine lv_istore (lv' := [(16, .int (nI j_526)), (15, .int (nI j_423)), (14, .int (nI j_414)), (11, .int (nI (k_T v1_125x1))), (9, .long (z_dig pn (nI NR) (nI ac) hd9 v1_125x1 (k_T v1_125x1) (k_N v1_125x1))), (0, .ref (E.2.2.2 108)), (1, .ref n), (2, .ref (n + 55)), (3, .int (nI tm)), (4, .ref N), (6, .ref k_76), (7, .int (nI pn)), (8, .int (nI sp)), (12, .double (FP.i2d (z_sum v1_125x1 pn)))]) hx hb dL_law_529 hl (by decide) rfl (fun ls hl => ?_)
                          refine lv_aload_n hx hb dL_law_531 rfl (lv_at hl 6 rfl) ?_
                          refine lv_iload hx hb dL_law_532 (lv_at hl 0 rfl) ?_
                          refine q_ci (va_runV (As := [.int (nI j_526)]) (rest := []) ⟨hx, hb, hml, hown, hts⟩ (ja_minutesOfRecipe l E f_526 n_526 n (n + 55) n_65 N k_76 s1_526 (fun _ => False) (BB + 100 + 100) pn NR (nI ac) hd9 v1_125x1 v1_125x1 RS9 j_526 hJ_526 (fun q x e => hW.lt e) (by omega) ej_526) (cwV 1 hts gL_law_X12_minutesOfRecipe rfl rfl rfl (by decide +kernel) ⟨(Nat.le_of_ble_eq_true rfl), (Nat.le_of_ble_eq_true rfl)⟩) (q_pV hA hW hS (ci := 12) rfl (Classical.choose_spec (Classical.choose_spec (Classical.choose_spec (Classical.choose_spec (Classical.choose_spec (Classical.choose_spec (Classical.choose_spec hJ_526.cell)))))))) rfl rfl hl.1 rfl (lv_room (Nat.le_of_ble_eq_true rfl)) dL_law_534 ⟨(by show _ ≤ 600086; omega), (by show _ ≤ 7301441; omega)⟩) hS (fun r_534 f_534 n_534 H locs hp hW hS => ?_)
                          obtain ⟨rfl, eJ_534, en_534, hfr_534⟩ := hp
                          rw [hr1]
                          refine lv_istore (lv' := [(17, .int (nI mm)), (16, .int (nI j_526)), (15, .int (nI j_423)), (14, .int (nI j_414)), (11, .int (nI (k_T v1_125x1))), (9, .long (z_dig pn (nI NR) (nI ac) hd9 v1_125x1 (k_T v1_125x1) (k_N v1_125x1))), (0, .ref (E.2.2.2 108)), (1, .ref n), (2, .ref (n + 55)), (3, .int (nI tm)), (4, .ref N), (6, .ref k_76), (7, .int (nI pn)), (8, .int (nI sp)), (12, .double (FP.i2d (z_sum v1_125x1 pn)))]) hx hb dL_law_537 hl (by decide) rfl (fun ls hl => ?_)
                          refine lv_aload_n hx hb dL_law_539 rfl (lv_at hl 7 rfl) ?_
                          refine lv_iload hx hb dL_law_540 (lv_at hl 1 rfl) ?_
                          refine q_ci (va_runV (As := [.int (nI j_526)]) (rest := []) ⟨hx, hb, hml, hown, hts⟩ (ja_warningsOfRecipe l E f_534 n_534 n (n + 55) n_65 N k_76 s1_526 (fun _ => False) (BB + 100 + 100) pn NR (nI ac) hd9 v1_125x1 v1_125x1 RS9 j_526 eJ_534 (fun q x e => hW.lt e) (by omega) ej_526) (cwV 1 hts gL_law_X12_warningsOfRecipe rfl rfl rfl (by decide +kernel) ⟨(Nat.le_of_ble_eq_true rfl), (Nat.le_of_ble_eq_true rfl)⟩) (q_pV hA hW hS (ci := 12) rfl (Classical.choose_spec (Classical.choose_spec (Classical.choose_spec (Classical.choose_spec (Classical.choose_spec (Classical.choose_spec (Classical.choose_spec eJ_534.cell)))))))) rfl rfl hl.1 rfl (lv_room (Nat.le_of_ble_eq_true rfl)) dL_law_542 ⟨(by show _ ≤ 600086; omega), (by show _ ≤ 7301441; omega)⟩) hS (fun r_542 f_542 n_542 H locs hp hW hS => ?_)
                          obtain ⟨rfl, eJ_542, en_542, hfr_542⟩ := hp
                          rw [hr2]
                          refine lv_istore (lv' := [(18, .int (nI dW)), (17, .int (nI mm)), (16, .int (nI j_526)), (15, .int (nI j_423)), (14, .int (nI j_414)), (11, .int (nI (k_T v1_125x1))), (9, .long (z_dig pn (nI NR) (nI ac) hd9 v1_125x1 (k_T v1_125x1) (k_N v1_125x1))), (0, .ref (E.2.2.2 108)), (1, .ref n), (2, .ref (n + 55)), (3, .int (nI tm)), (4, .ref N), (6, .ref k_76), (7, .int (nI pn)), (8, .int (nI sp)), (12, .double (FP.i2d (z_sum v1_125x1 pn)))]) hx hb dL_law_545 hl (by decide) rfl (fun ls hl => ?_)
                          refine lv_aload_n hx hb dL_law_547 rfl (lv_at hl 8 rfl) ?_
                          refine lv_iload hx hb dL_law_548 (lv_at hl 2 rfl) ?_
                          refine q_ci (va_runV (As := [.int (nI j_526)]) (rest := []) ⟨hx, hb, hml, hown, hts⟩ (ja_firstWarning l E f_542 n_542 n (n + 55) n_65 N k_76 s1_526 (fun _ => False) (BB + 100 + 100) pn NR (nI ac) hd9 v1_125x1 v1_125x1 RS9 j_526 eJ_542 (fun q x e => hW.lt e) (by omega) ej_526) (cwV 1 hts gL_law_X12_firstWarning rfl rfl rfl (by decide +kernel) ⟨(Nat.le_of_ble_eq_true rfl), (Nat.le_of_ble_eq_true rfl)⟩) (q_pV hA hW hS (ci := 12) rfl (Classical.choose_spec (Classical.choose_spec (Classical.choose_spec (Classical.choose_spec (Classical.choose_spec (Classical.choose_spec (Classical.choose_spec eJ_542.cell)))))))) rfl rfl hl.1 rfl (lv_room (Nat.le_of_ble_eq_true rfl)) dL_law_550 ⟨(by show _ ≤ 600086; omega), (by show _ ≤ 7301441; omega)⟩) hS (fun r_550 f_550 n_550 H locs hp hW hS => ?_)
                          obtain ⟨rfl, eJ_550, en_550, hfr_550⟩ := hp
                          refine lv_istore (lv' := [(19, .int ((RS9 j_526 hd9 (v1_125x1, 0, (-1))).2.2)), (18, .int (nI dW)), (17, .int (nI mm)), (16, .int (nI j_526)), (15, .int (nI j_423)), (14, .int (nI j_414)), (11, .int (nI (k_T v1_125x1))), (9, .long (z_dig pn (nI NR) (nI ac) hd9 v1_125x1 (k_T v1_125x1) (k_N v1_125x1))), (0, .ref (E.2.2.2 108)), (1, .ref n), (2, .ref (n + 55)), (3, .int (nI tm)), (4, .ref N), (6, .ref k_76), (7, .int (nI pn)), (8, .int (nI sp)), (12, .double (FP.i2d (z_sum v1_125x1 pn)))]) hx hb dL_law_553 hl (by decide) rfl (fun ls hl => ?_)
                          refine lv_aload_n hx hb dL_law_555 rfl (lv_at hl 9 rfl) ?_
                          refine lv_iload hx hb dL_law_556 (lv_at hl 3 rfl) ?_
                          refine q_ci (va_runV (As := [.int (nI j_526)]) (rest := []) ⟨hx, hb, hml, hown, hts⟩ (ja_highestSafe l E f_550 n_550 n (n + 55) n_65 N k_76 s1_526 (fun _ => False) (BB + 100 + 100) pn NR (nI ac) hd9 v1_125x1 v1_125x1 RS9 j_526 eJ_550 (fun q x e => hW.lt e) (by omega) ej_526) (cwV 1 hts gL_law_X12_highestSafe rfl rfl rfl (by decide +kernel) ⟨(Nat.le_of_ble_eq_true rfl), (Nat.le_of_ble_eq_true rfl)⟩) (q_pV hA hW hS (ci := 12) rfl (Classical.choose_spec (Classical.choose_spec (Classical.choose_spec (Classical.choose_spec (Classical.choose_spec (Classical.choose_spec (Classical.choose_spec eJ_550.cell)))))))) rfl rfl hl.1 rfl (lv_room (Nat.le_of_ble_eq_true rfl)) dL_law_558 ⟨(by show _ ≤ 600086; omega), (by show _ ≤ 7301441; omega)⟩) hS (fun r_558 f_558 n_558 H locs hp hW hS => ?_)
                          obtain ⟨rfl, eJ_558, en_558, hfr_558⟩ := hp
                          have hsafe := best_of (P := fun h => decide ((RS9 j_526 hd9 (z_move v1_125x1 (nI h) pn, 0, (-1))).1 4 = v1_125x1 4)) 61
                          generalize hzs : z_best (fun h => decide ((RS9 j_526 hd9 (z_move v1_125x1 (nI h) pn, 0, (-1))).1 4 = v1_125x1 4)) 61 = zs at hsafe ⊢
                          refine lv_istore (lv' := [(20, .int zs), (19, .int ((RS9 j_526 hd9 (v1_125x1, 0, (-1))).2.2)), (18, .int (nI dW)), (17, .int (nI mm)), (16, .int (nI j_526)), (15, .int (nI j_423)), (14, .int (nI j_414)), (11, .int (nI (k_T v1_125x1))), (9, .long (z_dig pn (nI NR) (nI ac) hd9 v1_125x1 (k_T v1_125x1) (k_N v1_125x1))), (0, .ref (E.2.2.2 108)), (1, .ref n), (2, .ref (n + 55)), (3, .int (nI tm)), (4, .ref N), (6, .ref k_76), (7, .int (nI pn)), (8, .int (nI sp)), (12, .double (FP.i2d (z_sum v1_125x1 pn)))]) hx hb dL_law_561 hl (by decide) rfl (fun ls hl => ?_)
                          refine lv_aload_n hx hb dL_law_563 rfl (lv_at hl 10 rfl) ?_
                          refine lv_iload hx hb dL_law_564 (lv_at hl 4 rfl) ?_
                          refine q_ci (va_runV (As := [.int (nI j_526)]) (rest := []) ⟨hx, hb, hml, hown, hts⟩ (ja_mostServings l E f_558 n_558 n (n + 55) n_65 N k_76 s1_526 (fun _ => False) (BB + 100 + 100) pn NR (nI ac) hd9 v1_125x1 v1_125x1 RS9 j_526 eJ_558 (fun q x e => hW.lt e) (by omega) ej_526) (cwV 1 hts gL_law_X12_mostServings rfl rfl rfl (by decide +kernel) ⟨(Nat.le_of_ble_eq_true rfl), (Nat.le_of_ble_eq_true rfl)⟩) (q_pV hA hW hS (ci := 12) rfl (Classical.choose_spec (Classical.choose_spec (Classical.choose_spec (Classical.choose_spec (Classical.choose_spec (Classical.choose_spec (Classical.choose_spec eJ_558.cell)))))))) rfl rfl hl.1 rfl (lv_room (Nat.le_of_ble_eq_true rfl)) dL_law_566 ⟨(by show _ ≤ 600086; omega), (by show _ ≤ 7301441; omega)⟩) hS (fun r_566 f_566 n_566 H locs hp hW hS => ?_)
                          obtain ⟨rfl, eJ_566, en_566, hfr_566⟩ := hp
                          have hmost := best1_of (P := fun h => decide ((RS9 j_526 hd9 (upd v1_125x1 1 (nI h), 0, (-1))).1 7 = v1_125x1 7)) 12
                          generalize hzm : z_best1 (fun h => decide ((RS9 j_526 hd9 (upd v1_125x1 1 (nI h), 0, (-1))).1 7 = v1_125x1 7)) 12 = zm at hmost ⊢
                          refine lv_istore (lv' := [(21, .int zm), (20, .int zs), (19, .int ((RS9 j_526 hd9 (v1_125x1, 0, (-1))).2.2)), (18, .int (nI dW)), (17, .int (nI mm)), (16, .int (nI j_526)), (15, .int (nI j_423)), (14, .int (nI j_414)), (11, .int (nI (k_T v1_125x1))), (9, .long (z_dig pn (nI NR) (nI ac) hd9 v1_125x1 (k_T v1_125x1) (k_N v1_125x1))), (0, .ref (E.2.2.2 108)), (1, .ref n), (2, .ref (n + 55)), (3, .int (nI tm)), (4, .ref N), (6, .ref k_76), (7, .int (nI pn)), (8, .int (nI sp)), (12, .double (FP.i2d (z_sum v1_125x1 pn)))]) hx hb dL_law_569 hl (by decide) rfl (fun ls hl => ?_)
                          refine lv_iload hx hb dL_law_571 (lv_at hl 16 rfl) ?_
                          have hlt0 : ∀ q x, (f_566) q = some x → q < n_566 := fun q x e => hW.lt e
                          obtain ⟨Lc, gc, Qc, hMc, hQc, hclc⟩ := eJ_566.m hlt0
                          refine q_newa (atype := .int) hx hb hA hW hS (hts (.arrayClass .int) (by decide +kernel)) (ty := .int) rfl 0 rfl (fun C h9 => by cases h9) (N' := pn) (a0 := (pn, .inl (fun _ => 0))) (fun _ => rfl) (nI_pos (by omega)) (nI_clamp (by omega)) (by show pn * 4 ≤ 536870912; omega) (by show _ ≤ 600086; omega) (by show _ ≤ 7301441; omega) dL_law_573 (fun H hW hS => ?_)
                          have hW : q_W E (va_up f_566 n_566 (some (aI E pn (fun _ => 0)))) (n_566 + 1) H := hW
                          refine lv_astore (lv' := [(22, .ref n_566), (21, .int zm), (20, .int zs), (19, .int ((RS9 j_526 hd9 (v1_125x1, 0, (-1))).2.2)), (18, .int (nI dW)), (17, .int (nI mm)), (16, .int (nI j_526)), (15, .int (nI j_423)), (14, .int (nI j_414)), (11, .int (nI (k_T v1_125x1))), (9, .long (z_dig pn (nI NR) (nI ac) hd9 v1_125x1 (k_T v1_125x1) (k_N v1_125x1))), (0, .ref (E.2.2.2 108)), (1, .ref n), (2, .ref (n + 55)), (3, .int (nI tm)), (4, .ref N), (6, .ref k_76), (7, .int (nI pn)), (8, .int (nI sp)), (12, .double (FP.i2d (z_sum v1_125x1 pn)))]) hx hb dL_law_575 hl (by decide) rfl (fun ls hl => ?_)
                          refine lv_iconst (v := 0) hx hb dL_law_577 (by decide) ?_
                          refine lv_istore (lv' := [(23, .int 0), (22, .ref n_566), (21, .int zm), (20, .int zs), (19, .int ((RS9 j_526 hd9 (v1_125x1, 0, (-1))).2.2)), (18, .int (nI dW)), (17, .int (nI mm)), (16, .int (nI j_526)), (15, .int (nI j_423)), (14, .int (nI j_414)), (11, .int (nI (k_T v1_125x1))), (9, .long (z_dig pn (nI NR) (nI ac) hd9 v1_125x1 (k_T v1_125x1) (k_N v1_125x1))), (0, .ref (E.2.2.2 108)), (1, .ref n), (2, .ref (n + 55)), (3, .int (nI tm)), (4, .ref N), (6, .ref k_76), (7, .int (nI pn)), (8, .int (nI sp)), (12, .double (FP.i2d (z_sum v1_125x1 pn)))]) hx hb dL_law_578 hl (by decide) rfl (fun ls hl => ?_)
                          have K580 : ∀ (fu : Nat) (F5 : q_H) (p5 : Nat) (gd : Nat → Int32) (hM5 : CM E n (BB + 100 + 100) F5 (n_566 + 1) Lc gc pn NR (nI ac) hd9 v1_125x1 RS9 Qc) (hfr5 : ∀ q, (q < n ∨ n + 55 ≤ q) → q < n_566 → F5 q = (f_566) q) (hda5 : F5 n_566 = some (aI E pn gd)) (hgd : ∀ q, q < p5 → gd q = (RS9 j_526 hd9 (v1_125x1, 0, (-1))).1 (55 + 4 * q)) (h_p5 : p5 ≤ pn) (hm : pn - p5 < fu) (H : Heap) (locs : List Loc) (ls : Array Slot), q_W E (F5) (n_566 + 1) H → va_S (q_ge E) s0_.heap H locs → lv_has ls 33 [(22, .ref n_566), (21, .int zm), (20, .int zs), (19, .int ((RS9 j_526 hd9 (v1_125x1, 0, (-1))).2.2)), (18, .int (nI dW)), (17, .int (nI mm)), (16, .int (nI j_526)), (15, .int (nI j_423)), (14, .int (nI j_414)), (11, .int (nI (k_T v1_125x1))), (9, .long (z_dig pn (nI NR) (nI ac) hd9 v1_125x1 (k_T v1_125x1) (k_N v1_125x1))), (0, .ref (E.2.2.2 108)), (1, .ref n), (2, .ref (n + 55)), (3, .int (nI tm)), (4, .ref N), (6, .ref k_76), (7, .int (nI pn)), (8, .int (nI sp)), (12, .double (FP.i2d (z_sum v1_125x1 pn))), (23, .int (nI p5))] → W p0_ l e0_ room_1 s0_ m0_ #[Value.ref (E.2.2.2 108)] below0_ meth0_ c0_ H locs (110 + 26000 * tm + 21000 + 450 * sp + 101 + 101 + 1) (6614 + 1700000 * tm + 1480000 + 9000 * sp + 2006 + 2006 + pn) Q9 (F0 m0_ 580 ls []) := by
                            intro fu
                            induction fu with
                            | zero =>
                              intro F5 p5 gd hM5 hfr5 hda5 hgd h_p5 hm
                              exact absurd hm (Nat.not_lt_zero _)
                            | succ fu ih =>
                              intro F5 p5 gd hM5 hfr5 hda5 hgd h_p5 hm H locs ls hW hS hl
                              refine lv_iload hx hb dL_law_580 (lv_at hl 20 rfl) ?_
                              refine lv_iload hx hb dL_law_582 (lv_at hl 17 rfl) ?_
                              refine lv_icmp_ge (tgt := 606) hx hb dL_law_584 (by decide) (fun c_584 => ?_) (fun c_584 => ?_)
                              · have hp5 : p5 = pn := Nat.le_antisymm h_p5 (q_leN (by omega) c_584)
                                obtain ⟨hJ6, -⟩ := hclc F5 (n_566 + 1) (BB + 100 + 100) v1_125x1 (fun q => q = n_566) (Nat.le_refl _) (Nat.le_succ _) hM5 hgm hfr5 (fun q hq => by have hq : q = n_566 := hq; exact Or.inr ⟨by omega, by omega⟩)
                                have hgd9 : ∀ q, q < pn → gd q = (RS9 j_526 hd9 (v1_125x1, 0, (-1))).1 (55 + 4 * q) := fun q hq => hgd q (by omega)
                                refine lv_aload_n hx hb dL_law_606 rfl (lv_at hl 12 rfl) ?_
                                refine q_cl (va_runV (As := []) (rest := []) ⟨hx, hb, hml, hown, hts⟩ (ja_digest l E F5 (n_566 + 1) n (n + 55) n_65 N k_76 s1_526 (fun q => q = n_566) (BB + 100 + 100) pn NR (nI ac) hd9 v1_125x1 v1_125x1 RS9 (k_T v1_125x1) (k_N v1_125x1) hJ6 (fun q x e => hW.lt e) hv4 hkI.v5 hT30.1 hT30.2) (cwV 0 hts gL_law_X12_digest rfl rfl rfl (by decide +kernel) ⟨(Nat.le_of_ble_eq_true rfl), (Nat.le_of_ble_eq_true rfl)⟩) (q_pV hA hW hS (ci := 12) rfl (Classical.choose_spec (Classical.choose_spec (Classical.choose_spec (Classical.choose_spec (Classical.choose_spec (Classical.choose_spec (Classical.choose_spec hJ6.cell)))))))) rfl rfl hl.1 rfl (lv_room (Nat.le_of_ble_eq_true rfl)) dL_law_607 ⟨(by show _ ≤ 600086; omega), (by show _ ≤ 7301441; omega)⟩) hS (fun r_607 f_607 n_607 H locs hp hW hS => ?_)
                                obtain ⟨rfl, rfl, rfl⟩ := hp
                                have hW : q_W E (F5) (n_566 + 1) H := hW
                                refine lv_lload hx hb dL_law_610 (lv_at hl 10 rfl) ?_
                                refine q_lcmp0 hx hb rfl dL_law_612 ?_
                                refine lv_if_ne (tgt := 668) hx hb dL_law_613 (by decide) (fun c_613 => absurd c_613 (by decide)) (fun c_613 => ?_)
                                have J670 : ∀ (H : Heap) (locs : List Loc) (ls : Array Slot), q_W E (F5) (n_566 + 1) H → va_S (q_ge E) s0_.heap H locs → lv_has ls 33 [(22, .ref n_566), (21, .int zm), (20, .int zs), (19, .int ((RS9 j_526 hd9 (v1_125x1, 0, (-1))).2.2)), (18, .int (nI dW)), (17, .int (nI mm)), (16, .int (nI j_526)), (15, .int (nI j_423)), (14, .int (nI j_414)), (11, .int (nI (k_T v1_125x1))), (9, .long (z_dig pn (nI NR) (nI ac) hd9 v1_125x1 (k_T v1_125x1) (k_N v1_125x1))), (0, .ref (E.2.2.2 108)), (1, .ref n), (2, .ref (n + 55)), (3, .int (nI tm)), (4, .ref N), (6, .ref k_76), (7, .int (nI pn)), (8, .int (nI sp)), (12, .double (FP.i2d (z_sum v1_125x1 pn))), (23, .int (nI p5))] → W p0_ l e0_ room_1 s0_ m0_ #[Value.ref (E.2.2.2 108)] below0_ meth0_ c0_ H locs (110 + 26000 * tm + 21000 + 450 * sp + 101 + 101 + 1) (6614 + 1700000 * tm + 1480000 + 9000 * sp + 2006 + 2006 + pn) Q9 (F0 m0_ 670 ls []) := by
                                  intro H locs ls hW hS hl
                                  refine lv_aload_n hx hb dL_law_670 rfl (lv_at hl 12 rfl) ?_
                                  refine q_ci (va_runV (As := []) (rest := []) ⟨hx, hb, hml, hown, hts⟩ (ja_warnings l E F5 (n_566 + 1) n (n + 55) n_65 N k_76 s1_526 (fun q => q = n_566) (BB + 100 + 100) pn NR (nI ac) hd9 v1_125x1 v1_125x1 RS9 hJ6 (fun q x e => hW.lt e)) (cwV 0 hts gL_law_X12_warnings rfl rfl rfl (by decide +kernel) ⟨(Nat.le_of_ble_eq_true rfl), (Nat.le_of_ble_eq_true rfl)⟩) (q_pV hA hW hS (ci := 12) rfl (Classical.choose_spec (Classical.choose_spec (Classical.choose_spec (Classical.choose_spec (Classical.choose_spec (Classical.choose_spec (Classical.choose_spec hJ6.cell)))))))) rfl rfl hl.1 rfl (lv_room (Nat.le_of_ble_eq_true rfl)) dL_law_671 ⟨(by show _ ≤ 600086; omega), (by show _ ≤ 7301441; omega)⟩) hS (fun r_671 f_671 n_671 H locs hp hW hS => ?_)
                                  obtain ⟨rfl, rfl, rfl⟩ := hp
                                  have hW : q_W E (F5) (n_566 + 1) H := hW
                                  refine lv_istore (lv' := [(23, .int (v1_125x1 4)), (22, .ref n_566), (21, .int zm), (20, .int zs), (19, .int ((RS9 j_526 hd9 (v1_125x1, 0, (-1))).2.2)), (18, .int (nI dW)), (17, .int (nI mm)), (16, .int (nI j_526)), (15, .int (nI j_423)), (14, .int (nI j_414)), (11, .int (nI (k_T v1_125x1))), (9, .long (z_dig pn (nI NR) (nI ac) hd9 v1_125x1 (k_T v1_125x1) (k_N v1_125x1))), (0, .ref (E.2.2.2 108)), (1, .ref n), (2, .ref (n + 55)), (3, .int (nI tm)), (4, .ref N), (6, .ref k_76), (7, .int (nI pn)), (8, .int (nI sp)), (12, .double (FP.i2d (z_sum v1_125x1 pn)))]) hx hb dL_law_674 hl (by decide) rfl (fun ls hl => ?_)
                                  refine lv_aload_n hx hb dL_law_676 rfl (lv_at hl 13 rfl) ?_
                                  refine lv_iconst (v := 1) hx hb dL_law_677 (by decide) ?_
                                  refine q_ci (va_runV (As := [.int 1]) (rest := []) ⟨hx, hb, hml, hown, hts⟩ (ja_warningsOf l E F5 (n_566 + 1) n (n + 55) n_65 N k_76 s1_526 (fun q => q = n_566) (BB + 100 + 100) pn NR (nI ac) hd9 v1_125x1 v1_125x1 RS9 1 hJ6 (fun q x e => hW.lt e) (by decide) (by decide)) (cwV 1 hts gL_law_X12_warningsOf rfl rfl rfl (by decide +kernel) ⟨(Nat.le_of_ble_eq_true rfl), (Nat.le_of_ble_eq_true rfl)⟩) (q_pV hA hW hS (ci := 12) rfl (Classical.choose_spec (Classical.choose_spec (Classical.choose_spec (Classical.choose_spec (Classical.choose_spec (Classical.choose_spec (Classical.choose_spec hJ6.cell)))))))) rfl rfl hl.1 rfl (lv_room (Nat.le_of_ble_eq_true rfl)) dL_law_678 ⟨(by show _ ≤ 600086; omega), (by show _ ≤ 7301441; omega)⟩) hS (fun r_678 f_678 n_678 H locs hp hW hS => ?_)
                                  obtain ⟨rfl, rfl, rfl⟩ := hp
                                  have hW : q_W E (F5) (n_566 + 1) H := hW
                                  rw [show v1_125x1 (6 + 1) = v1_125x1 7 from rfl]
                                  refine lv_istore (lv' := [(24, .int (v1_125x1 7)), (23, .int (v1_125x1 4)), (22, .ref n_566), (21, .int zm), (20, .int zs), (19, .int ((RS9 j_526 hd9 (v1_125x1, 0, (-1))).2.2)), (18, .int (nI dW)), (17, .int (nI mm)), (16, .int (nI j_526)), (15, .int (nI j_423)), (14, .int (nI j_414)), (11, .int (nI (k_T v1_125x1))), (9, .long (z_dig pn (nI NR) (nI ac) hd9 v1_125x1 (k_T v1_125x1) (k_N v1_125x1))), (0, .ref (E.2.2.2 108)), (1, .ref n), (2, .ref (n + 55)), (3, .int (nI tm)), (4, .ref N), (6, .ref k_76), (7, .int (nI pn)), (8, .int (nI sp)), (12, .double (FP.i2d (z_sum v1_125x1 pn)))]) hx hb dL_law_681 hl (by decide) rfl (fun ls hl => ?_)
                                  refine lv_aload_n hx hb dL_law_683 rfl (lv_at hl 14 rfl) ?_
                                  refine q_ci (va_runV (As := []) (rest := []) ⟨hx, hb, hml, hown, hts⟩ (ja_minute l E F5 (n_566 + 1) n (n + 55) n_65 N k_76 s1_526 (fun q => q = n_566) (BB + 100 + 100) pn NR (nI ac) hd9 v1_125x1 v1_125x1 RS9 hJ6 (fun q x e => hW.lt e)) (cwV 0 hts gL_law_X12_minute rfl rfl rfl (by decide +kernel) ⟨(Nat.le_of_ble_eq_true rfl), (Nat.le_of_ble_eq_true rfl)⟩) (q_pV hA hW hS (ci := 12) rfl (Classical.choose_spec (Classical.choose_spec (Classical.choose_spec (Classical.choose_spec (Classical.choose_spec (Classical.choose_spec (Classical.choose_spec hJ6.cell)))))))) rfl rfl hl.1 rfl (lv_room (Nat.le_of_ble_eq_true rfl)) dL_law_684 ⟨(by show _ ≤ 600086; omega), (by show _ ≤ 7301441; omega)⟩) hS (fun r_684 f_684 n_684 H locs hp hW hS => ?_)
                                  obtain ⟨rfl, rfl, rfl⟩ := hp
                                  have hW : q_W E (F5) (n_566 + 1) H := hW
                                  refine lv_istore (lv' := [(25, .int (v1_125x1 3)), (24, .int (v1_125x1 7)), (23, .int (v1_125x1 4)), (22, .ref n_566), (21, .int zm), (20, .int zs), (19, .int ((RS9 j_526 hd9 (v1_125x1, 0, (-1))).2.2)), (18, .int (nI dW)), (17, .int (nI mm)), (16, .int (nI j_526)), (15, .int (nI j_423)), (14, .int (nI j_414)), (11, .int (nI (k_T v1_125x1))), (9, .long (z_dig pn (nI NR) (nI ac) hd9 v1_125x1 (k_T v1_125x1) (k_N v1_125x1))), (0, .ref (E.2.2.2 108)), (1, .ref n), (2, .ref (n + 55)), (3, .int (nI tm)), (4, .ref N), (6, .ref k_76), (7, .int (nI pn)), (8, .int (nI sp)), (12, .double (FP.i2d (z_sum v1_125x1 pn)))]) hx hb dL_law_687 hl (by decide) rfl (fun ls hl => ?_)
                                  refine lv_aload_n hx hb dL_law_689 rfl (lv_at hl 15 rfl) ?_
                                  refine q_ci (va_runV (As := []) (rest := []) ⟨hx, hb, hml, hown, hts⟩ (ja_altitude l E F5 (n_566 + 1) n (n + 55) n_65 N k_76 s1_526 (fun q => q = n_566) (BB + 100 + 100) pn NR (nI ac) hd9 v1_125x1 v1_125x1 RS9 hJ6 (fun q x e => hW.lt e)) (cwV 0 hts gL_law_X12_altitude rfl rfl rfl (by decide +kernel) ⟨(Nat.le_of_ble_eq_true rfl), (Nat.le_of_ble_eq_true rfl)⟩) (q_pV hA hW hS (ci := 12) rfl (Classical.choose_spec (Classical.choose_spec (Classical.choose_spec (Classical.choose_spec (Classical.choose_spec (Classical.choose_spec (Classical.choose_spec hJ6.cell)))))))) rfl rfl hl.1 rfl (lv_room (Nat.le_of_ble_eq_true rfl)) dL_law_690 ⟨(by show _ ≤ 600086; omega), (by show _ ≤ 7301441; omega)⟩) hS (fun r_690 f_690 n_690 H locs hp hW hS => ?_)
                                  obtain ⟨rfl, rfl, rfl⟩ := hp
                                  have hW : q_W E (F5) (n_566 + 1) H := hW
                                  refine lv_istore (lv' := [(26, .int (v1_125x1 0)), (25, .int (v1_125x1 3)), (24, .int (v1_125x1 7)), (23, .int (v1_125x1 4)), (22, .ref n_566), (21, .int zm), (20, .int zs), (19, .int ((RS9 j_526 hd9 (v1_125x1, 0, (-1))).2.2)), (18, .int (nI dW)), (17, .int (nI mm)), (16, .int (nI j_526)), (15, .int (nI j_423)), (14, .int (nI j_414)), (11, .int (nI (k_T v1_125x1))), (9, .long (z_dig pn (nI NR) (nI ac) hd9 v1_125x1 (k_T v1_125x1) (k_N v1_125x1))), (0, .ref (E.2.2.2 108)), (1, .ref n), (2, .ref (n + 55)), (3, .int (nI tm)), (4, .ref N), (6, .ref k_76), (7, .int (nI pn)), (8, .int (nI sp)), (12, .double (FP.i2d (z_sum v1_125x1 pn)))]) hx hb dL_law_693 hl (by decide) rfl (fun ls hl => ?_)
                                  refine lv_aload_n hx hb dL_law_695 rfl (lv_at hl 16 rfl) ?_
                                  refine q_ci (va_runV (As := []) (rest := []) ⟨hx, hb, hml, hown, hts⟩ (ja_servings l E F5 (n_566 + 1) n (n + 55) n_65 N k_76 s1_526 (fun q => q = n_566) (BB + 100 + 100) pn NR (nI ac) hd9 v1_125x1 v1_125x1 RS9 hJ6 (fun q x e => hW.lt e)) (cwV 0 hts gL_law_X12_servings rfl rfl rfl (by decide +kernel) ⟨(Nat.le_of_ble_eq_true rfl), (Nat.le_of_ble_eq_true rfl)⟩) (q_pV hA hW hS (ci := 12) rfl (Classical.choose_spec (Classical.choose_spec (Classical.choose_spec (Classical.choose_spec (Classical.choose_spec (Classical.choose_spec (Classical.choose_spec hJ6.cell)))))))) rfl rfl hl.1 rfl (lv_room (Nat.le_of_ble_eq_true rfl)) dL_law_696 ⟨(by show _ ≤ 600086; omega), (by show _ ≤ 7301441; omega)⟩) hS (fun r_696 f_696 n_696 H locs hp hW hS => ?_)
                                  obtain ⟨rfl, rfl, rfl⟩ := hp
                                  have hW : q_W E (F5) (n_566 + 1) H := hW
                                  refine lv_istore (lv' := [(27, .int (v1_125x1 1)), (26, .int (v1_125x1 0)), (25, .int (v1_125x1 3)), (24, .int (v1_125x1 7)), (23, .int (v1_125x1 4)), (22, .ref n_566), (21, .int zm), (20, .int zs), (19, .int ((RS9 j_526 hd9 (v1_125x1, 0, (-1))).2.2)), (18, .int (nI dW)), (17, .int (nI mm)), (16, .int (nI j_526)), (15, .int (nI j_423)), (14, .int (nI j_414)), (11, .int (nI (k_T v1_125x1))), (9, .long (z_dig pn (nI NR) (nI ac) hd9 v1_125x1 (k_T v1_125x1) (k_N v1_125x1))), (0, .ref (E.2.2.2 108)), (1, .ref n), (2, .ref (n + 55)), (3, .int (nI tm)), (4, .ref N), (6, .ref k_76), (7, .int (nI pn)), (8, .int (nI sp)), (12, .double (FP.i2d (z_sum v1_125x1 pn)))]) hx hb dL_law_699 hl (by decide) rfl (fun ls hl => ?_)
                                  refine lv_aload hx hb dL_law_701 (lv_at hl 20 rfl) ?_
                                  refine lv_iconst (v := 4) hx hb dL_law_703 (by decide) ?_
                                  have hlt_704 : ∀ q x, (F5) q = some x → q < n_566 + 1 := fun q x e => hW.lt e
                                  refine q_ci (va_runV (As := [.int 4]) (rest := []) ⟨hx, hb, hml, hown, hts⟩ (kX14_next l E F5 (n_566 + 1) N 4 s1_526 hJ6.dice (by omega) (by omega)) (cwV 1 hts gL_law_X14_next rfl rfl rfl (by decide +kernel) ⟨(Nat.le_of_ble_eq_true rfl), (Nat.le_of_ble_eq_true rfl)⟩) (q_pV hA hW hS (ci := 14) rfl hJ6.dice) rfl rfl hl.1 rfl (lv_room (Nat.le_of_ble_eq_true rfl)) dL_law_704 ⟨(by show _ ≤ 600086; omega), (by show _ ≤ 7301441; omega)⟩) hS (fun r_704 f_704 n_704 H locs hp hW hS => ?_)
                                  obtain ⟨j_704, s1_704, rfl, e0_704, ej_704, en_704, hfr_704⟩ := hp
                                  have l_e0_704 := hW.lt e0_704
                                  have hn_566_704 : f_704 n_566 = some (aI E pn gd) := (hfr_704 _ (by omega)).trans hda5
                                  have hJ_704 : JA E n (n + 55) n_65 N k_76 s1_704 (fun q => q = n_566) f_704 n_704 (BB + 100 + 100) pn NR (nI ac) hd9 v1_125x1 v1_125x1 RS9 := hJ6.out hlt_704 (fun q h1 h2 => hfr_704 q h2) (Nat.le_of_eq en_704.symm) e0_704 (fun q hq => Or.inl hq)
                                  refine lv_istore (lv' := [(28, .int (nI j_704)), (27, .int (v1_125x1 1)), (26, .int (v1_125x1 0)), (25, .int (v1_125x1 3)), (24, .int (v1_125x1 7)), (23, .int (v1_125x1 4)), (22, .ref n_566), (21, .int zm), (20, .int zs), (19, .int ((RS9 j_526 hd9 (v1_125x1, 0, (-1))).2.2)), (18, .int (nI dW)), (17, .int (nI mm)), (16, .int (nI j_526)), (15, .int (nI j_423)), (14, .int (nI j_414)), (11, .int (nI (k_T v1_125x1))), (9, .long (z_dig pn (nI NR) (nI ac) hd9 v1_125x1 (k_T v1_125x1) (k_N v1_125x1))), (0, .ref (E.2.2.2 108)), (1, .ref n), (2, .ref (n + 55)), (3, .int (nI tm)), (4, .ref N), (6, .ref k_76), (7, .int (nI pn)), (8, .int (nI sp)), (12, .double (FP.i2d (z_sum v1_125x1 pn)))]) hx hb dL_law_707 hl (by decide) rfl (fun ls hl => ?_)
                                  have J838 : ∀ (H : Heap) (locs : List Loc) (ls : Array Slot), q_W E (f_704) n_704 H → va_S (q_ge E) s0_.heap H locs → lv_has ls 33 [(28, .int (nI j_704)), (27, .int (v1_125x1 1)), (26, .int (v1_125x1 0)), (25, .int (v1_125x1 3)), (24, .int (v1_125x1 7)), (23, .int (v1_125x1 4)), (22, .ref n_566), (21, .int zm), (20, .int zs), (19, .int ((RS9 j_526 hd9 (v1_125x1, 0, (-1))).2.2)), (18, .int (nI dW)), (17, .int (nI mm)), (16, .int (nI j_526)), (15, .int (nI j_423)), (14, .int (nI j_414)), (11, .int (nI (k_T v1_125x1))), (9, .long (z_dig pn (nI NR) (nI ac) hd9 v1_125x1 (k_T v1_125x1) (k_N v1_125x1))), (0, .ref (E.2.2.2 108)), (1, .ref n), (2, .ref (n + 55)), (3, .int (nI tm)), (4, .ref N), (6, .ref k_76), (7, .int (nI pn)), (8, .int (nI sp)), (12, .double (FP.i2d (z_sum v1_125x1 pn)))] → W p0_ l e0_ room_1 s0_ m0_ #[Value.ref (E.2.2.2 108)] below0_ meth0_ c0_ H locs (110 + 26000 * tm + 21000 + 450 * sp + 101 + 101 + 1) (6614 + 1700000 * tm + 1480000 + 9000 * sp + 2006 + 2006 + pn) Q9 (F0 m0_ 838 ls []) := by
                                    intro H locs ls hW hS hl
                                    refine lv_iload hx hb dL_law_838 (lv_at hl 0 rfl) ?_
                                    refine lv_iconst (v := 3) hx hb dL_law_840 (by decide) ?_
                                    refine lv_icmp_ge (tgt := 928) hx hb dL_law_841 (by decide) (fun c_841 => ?_) (fun c_841 => ?_)
                                    · refine lv_iload hx hb dL_law_928 (lv_at hl 23 rfl) ?_
                                      have hlt7 : ∀ q x, (f_704) q = some x → q < n_704 := fun q x e => hW.lt e
                                      refine q_newa (atype := .int) hx hb hA hW hS (hts (.arrayClass .int) (by decide +kernel)) (ty := .int) rfl 0 rfl (fun C h9 => by cases h9) (N' := pn) (a0 := (pn, .inl (fun _ => 0))) (fun _ => rfl) (nI_pos (by omega)) (nI_clamp (by omega)) (by show pn * 4 ≤ 536870912; omega) (by show _ ≤ 600086; omega) (by show _ ≤ 7301441; omega) dL_law_930 (fun H hW hS => ?_)
                                      have hW : q_W E (va_up f_704 n_704 (some (aI E pn (fun _ => 0)))) (n_704 + 1) H := hW
                                      refine lv_astore (lv' := [(29, .ref n_704), (28, .int (nI j_704)), (27, .int (v1_125x1 1)), (26, .int (v1_125x1 0)), (25, .int (v1_125x1 3)), (24, .int (v1_125x1 7)), (23, .int (v1_125x1 4)), (22, .ref n_566), (21, .int zm), (20, .int zs), (19, .int ((RS9 j_526 hd9 (v1_125x1, 0, (-1))).2.2)), (18, .int (nI dW)), (17, .int (nI mm)), (16, .int (nI j_526)), (15, .int (nI j_423)), (14, .int (nI j_414)), (11, .int (nI (k_T v1_125x1))), (9, .long (z_dig pn (nI NR) (nI ac) hd9 v1_125x1 (k_T v1_125x1) (k_N v1_125x1))), (0, .ref (E.2.2.2 108)), (1, .ref n), (2, .ref (n + 55)), (3, .int (nI tm)), (4, .ref N), (6, .ref k_76), (7, .int (nI pn)), (8, .int (nI sp)), (12, .double (FP.i2d (z_sum v1_125x1 pn)))]) hx hb dL_law_932 hl (by decide) rfl (fun ls hl => ?_)
                                      refine lv_iconst (v := 0) hx hb dL_law_934 (by decide) ?_
                                      refine lv_istore (lv' := [(30, .int 0), (29, .ref n_704), (28, .int (nI j_704)), (27, .int (v1_125x1 1)), (26, .int (v1_125x1 0)), (25, .int (v1_125x1 3)), (24, .int (v1_125x1 7)), (23, .int (v1_125x1 4)), (22, .ref n_566), (21, .int zm), (20, .int zs), (19, .int ((RS9 j_526 hd9 (v1_125x1, 0, (-1))).2.2)), (18, .int (nI dW)), (17, .int (nI mm)), (16, .int (nI j_526)), (15, .int (nI j_423)), (14, .int (nI j_414)), (11, .int (nI (k_T v1_125x1))), (9, .long (z_dig pn (nI NR) (nI ac) hd9 v1_125x1 (k_T v1_125x1) (k_N v1_125x1))), (0, .ref (E.2.2.2 108)), (1, .ref n), (2, .ref (n + 55)), (3, .int (nI tm)), (4, .ref N), (6, .ref k_76), (7, .int (nI pn)), (8, .int (nI sp)), (12, .double (FP.i2d (z_sum v1_125x1 pn)))]) hx hb dL_law_935 hl (by decide) rfl (fun ls hl => ?_)
                                      have K937 : ∀ (fu : Nat) (p7 : Nat) (gh : Nat → Int32) (h_p7 : p7 ≤ pn) (hgh : ∀ q, q < p7 → gh q = v1_125x1 (54 + 4 * q)) (hm : pn - p7 < fu) (H : Heap) (locs : List Loc) (ls : Array Slot), q_W E (va_up f_704 n_704 (some (aI E pn gh))) (n_704 + 1) H → va_S (q_ge E) s0_.heap H locs → lv_has ls 33 [(29, .ref n_704), (28, .int (nI j_704)), (27, .int (v1_125x1 1)), (26, .int (v1_125x1 0)), (25, .int (v1_125x1 3)), (24, .int (v1_125x1 7)), (23, .int (v1_125x1 4)), (22, .ref n_566), (21, .int zm), (20, .int zs), (19, .int ((RS9 j_526 hd9 (v1_125x1, 0, (-1))).2.2)), (18, .int (nI dW)), (17, .int (nI mm)), (16, .int (nI j_526)), (15, .int (nI j_423)), (14, .int (nI j_414)), (11, .int (nI (k_T v1_125x1))), (9, .long (z_dig pn (nI NR) (nI ac) hd9 v1_125x1 (k_T v1_125x1) (k_N v1_125x1))), (0, .ref (E.2.2.2 108)), (1, .ref n), (2, .ref (n + 55)), (3, .int (nI tm)), (4, .ref N), (6, .ref k_76), (7, .int (nI pn)), (8, .int (nI sp)), (12, .double (FP.i2d (z_sum v1_125x1 pn))), (30, .int (nI p7))] → W p0_ l e0_ room_1 s0_ m0_ #[Value.ref (E.2.2.2 108)] below0_ meth0_ c0_ H locs (110 + 26000 * tm + 21000 + 450 * sp + 101 + 101 + 1 + 1) (6614 + 1700000 * tm + 1480000 + 9000 * sp + 2006 + 2006 + pn + pn) Q9 (F0 m0_ 937 ls []) := by
                                        intro fu
                                        induction fu with
                                        | zero =>
                                          intro p7 gh h_p7 hgh hm
                                          exact absurd hm (Nat.not_lt_zero _)
                                        | succ fu ih =>
                                          intro p7 gh h_p7 hgh hm H locs ls hW hS hl
                                          refine lv_iload hx hb dL_law_937 (lv_at hl 27 rfl) ?_
                                          refine lv_iload hx hb dL_law_939 (lv_at hl 24 rfl) ?_
                                          refine lv_icmp_ge (tgt := 961) hx hb dL_law_941 (by decide) (fun c_941 => ?_) (fun c_941 => ?_)
                                          · have hp7 : p7 = pn := Nat.le_antisymm h_p7 (q_leN (by omega) c_941)
                                            have hJ7c : JA E n (n + 55) n_65 N k_76 s1_704 (fun q => q = n_704) (va_up f_704 n_704 (some (aI E pn gh))) (n_704 + 1) (BB + 100 + 100) pn NR (nI ac) hd9 v1_125x1 v1_125x1 RS9 := hJ_704.out hlt7 (fun q h1 h2 => va_up_ne _ _ (by omega)) (Nat.le_succ _) ((va_up_ne _ _ (by have := hlt7 _ _ hJ_704.dice; omega)).trans hJ_704.dice) (fun q hq => by have hq : q = n_704 := hq; exact Or.inr ⟨by omega, by omega⟩)
                                            have hgh9 : ∀ q, q < pn → gh q = v1_125x1 (54 + 4 * q) := fun q hq => hgh q (by omega)
                                            refine lv_iconst (v := 1) hx hb dL_law_961 (by decide) ?_
                                            refine lv_aload hx hb dL_law_962 (lv_at hl 22 rfl) ?_
                                            refine lv_bipush (v := 90) hx hb dL_law_964 (by decide) ?_
                                            have hlt_966 : ∀ q x, (va_up f_704 n_704 (some (aI E pn gh))) q = some x → q < n_704 + 1 := fun q x e => hW.lt e
                                            refine q_ci (va_runV (As := [.int 90]) (rest := [.int 1]) ⟨hx, hb, hml, hown, hts⟩ (kX14_next l E (va_up f_704 n_704 (some (aI E pn gh))) (n_704 + 1) N 90 s1_704 (q_ne (by omega) e0_704) (by omega) (by omega)) (cwV 1 hts gL_law_X14_next rfl rfl rfl (by decide +kernel) ⟨(Nat.le_of_ble_eq_true rfl), (Nat.le_of_ble_eq_true rfl)⟩) (q_pV hA hW hS (ci := 14) rfl (q_ne (by omega) e0_704)) rfl rfl hl.1 rfl (lv_room (Nat.le_of_ble_eq_true rfl)) dL_law_966 ⟨(by show _ ≤ 600086; omega), (by show _ ≤ 7301441; omega)⟩) hS (fun r_966 f_966 n_966 H locs hp hW hS => ?_)
                                            obtain ⟨j_966, s1_966, rfl, e0_966, ej_966, en_966, hfr_966⟩ := hp
                                            have l_e0_966 := hW.lt e0_966
                                            have hn_566_966 : f_966 n_566 = some (aI E pn gd) := (hfr_966 _ (by omega)).trans (q_ne (by omega) hn_566_704)
                                            have hn_704_966 : f_966 n_704 = some (aI E pn gh) := (hfr_966 _ (by have := hlt7 _ _ hJ_704.dice; omega)).trans q_eq
                                            have hJ_966 : JA E n (n + 55) n_65 N k_76 s1_966 (fun q => q = n_704) f_966 n_966 (BB + 100 + 100) pn NR (nI ac) hd9 v1_125x1 v1_125x1 RS9 := hJ7c.out hlt_966 (fun q h1 h2 => hfr_966 q h2) (Nat.le_of_eq en_966.symm) e0_966 (fun q hq => Or.inl hq)
                                            refine lv_iadd hx hb dL_law_969 ?_
                                            rw [show 1 + nI j_966 = nI (1 + j_966) from nI_add 1 j_966]
                                            refine lv_istore (lv' := [(30, .int (nI (1 + j_966))), (29, .ref n_704), (28, .int (nI j_704)), (27, .int (v1_125x1 1)), (26, .int (v1_125x1 0)), (25, .int (v1_125x1 3)), (24, .int (v1_125x1 7)), (23, .int (v1_125x1 4)), (22, .ref n_566), (21, .int zm), (20, .int zs), (19, .int ((RS9 j_526 hd9 (v1_125x1, 0, (-1))).2.2)), (18, .int (nI dW)), (17, .int (nI mm)), (16, .int (nI j_526)), (15, .int (nI j_423)), (14, .int (nI j_414)), (11, .int (nI (k_T v1_125x1))), (9, .long (z_dig pn (nI NR) (nI ac) hd9 v1_125x1 (k_T v1_125x1) (k_N v1_125x1))), (0, .ref (E.2.2.2 108)), (1, .ref n), (2, .ref (n + 55)), (3, .int (nI tm)), (4, .ref N), (6, .ref k_76), (7, .int (nI pn)), (8, .int (nI sp)), (12, .double (FP.i2d (z_sum v1_125x1 pn)))]) hx hb dL_law_970 hl (by decide) rfl (fun ls hl => ?_)
                                            refine lv_aload_n hx hb dL_law_972 rfl (lv_at hl 20 rfl) ?_
                                            refine lv_iload hx hb dL_law_973 (lv_at hl 0 rfl) ?_
                                            refine q_ci (va_runV (As := [.int (nI (1 + j_966))]) (rest := []) ⟨hx, hb, hml, hown, hts⟩ (ja_rest l E f_966 n_966 n (n + 55) n_65 N k_76 s1_966 (fun q => q = n_704) (BB + 100 + 100) pn NR (nI ac) hd9 v1_125x1 v1_125x1 RS9 (nI (1 + j_966)) hJ_966 (fun q x e => hW.lt e) (b_in1 (L := 600) (by decide) (by omega) (by omega)) (hgm.pass (by omega))) (cwV 1 hts gL_law_X12_rest rfl rfl rfl (by decide +kernel) ⟨(Nat.le_of_ble_eq_true rfl), (Nat.le_of_ble_eq_true rfl)⟩) (q_pV hA hW hS (ci := 12) rfl (Classical.choose_spec (Classical.choose_spec (Classical.choose_spec (Classical.choose_spec (Classical.choose_spec (Classical.choose_spec (Classical.choose_spec hJ_966.cell)))))))) rfl rfl hl.1 rfl (lv_room (Nat.le_of_ble_eq_true rfl)) dL_law_975 ⟨(by show _ ≤ 600086; omega), (by show _ ≤ 7301441; omega)⟩) hS (fun r_975 f_975 n_975 H locs hp hW hS => ?_)
                                            obtain ⟨rfl, eJ_975, en_975, hfr_975⟩ := hp
                                            have hn_704_975 : f_975 n_704 = some (aI E pn gh) := (hfr_975 _ rfl).trans hn_704_966
                                            refine lv_istore (lv' := [(31, .int (z_hot (z_pass v1_125x1 (nI (1 + j_966)) 8 pn) pn)), (30, .int (nI (1 + j_966))), (29, .ref n_704), (28, .int (nI j_704)), (27, .int (v1_125x1 1)), (26, .int (v1_125x1 0)), (25, .int (v1_125x1 3)), (24, .int (v1_125x1 7)), (23, .int (v1_125x1 4)), (22, .ref n_566), (21, .int zm), (20, .int zs), (19, .int ((RS9 j_526 hd9 (v1_125x1, 0, (-1))).2.2)), (18, .int (nI dW)), (17, .int (nI mm)), (16, .int (nI j_526)), (15, .int (nI j_423)), (14, .int (nI j_414)), (11, .int (nI (k_T v1_125x1))), (9, .long (z_dig pn (nI NR) (nI ac) hd9 v1_125x1 (k_T v1_125x1) (k_N v1_125x1))), (0, .ref (E.2.2.2 108)), (1, .ref n), (2, .ref (n + 55)), (3, .int (nI tm)), (4, .ref N), (6, .ref k_76), (7, .int (nI pn)), (8, .int (nI sp)), (12, .double (FP.i2d (z_sum v1_125x1 pn)))]) hx hb dL_law_978 hl (by decide) rfl (fun ls hl => ?_)
                                            refine lv_aload hx hb dL_law_980 (lv_at hl 25 rfl) ?_
                                            refine lv_iload hx hb dL_law_982 (lv_at hl 1 rfl) ?_
                                            refine lv_iconst (v := (-1)) hx hb dL_law_984 (by decide) ?_
                                            obtain ⟨P_985, pa_985, re_985, ki_985, wa_985, no_985, pr_985, b_985, w_985, hK_985, hs_985, hR_985, hO_985, hXk_985, hck_985⟩ := eJ_975.k
                                            obtain ⟨hk0_985, ⟨gk_985, hki_985, hkv_985⟩, ⟨gw_985, hwa_985, hwv_985⟩, ⟨gn_985, hno_985, hnv_985⟩, ⟨gp_985, hpa_985, hpv_985⟩, hrow_985⟩ := id hK_985
                                            obtain ⟨gre_985, hPre_985, hre_985, -⟩ := id hR_985
                                            have lk_985 := hW.lt hk0_985
                                            have lki_985 := hW.lt hki_985
                                            have lwa_985 := hW.lt hwa_985
                                            have lno_985 := hW.lt hno_985
                                            have lpa_985 := hW.lt hpa_985
                                            have nk_985 := eJ_975.ne
                                            have npa_985 := ne_ab eJ_975.dice hpa_985
                                            have nre_985 := ne_ab eJ_975.dice hre_985
                                            have nki_985 := ne_ab eJ_975.dice hki_985
                                            have nwa_985 := ne_ab eJ_975.dice hwa_985
                                            have nno_985 := ne_ab eJ_975.dice hno_985
                                            have lre_985 := hW.lt hre_985
                                            refine q_cv (va_runV (As := [.int (nI (1 + j_966)), .int (-1)]) (rest := []) ⟨hx, hb, hml, hown, hts⟩ (kX15_goByN l E f_975 n_975 k_76 pa_985 re_985 ki_985 wa_985 no_985 pn pr_985 hd9 v1_125x1 b_985 w_985 (1 + j_966) hK_985 hs_985 (by omega) (by omega) hvo.hot) (cwV 2 hts gL_law_X15_goBy rfl rfl rfl (by decide +kernel) ⟨(Nat.le_of_ble_eq_true rfl), (Nat.le_of_ble_eq_true rfl)⟩) (q_pV hA hW hS (ci := 15) rfl hk0_985) rfl rfl hl.1 rfl (lv_room (Nat.le_of_ble_eq_true rfl)) dL_law_985 ⟨(by show _ ≤ 600086; omega), (by show _ ≤ 7301441; omega)⟩) hS (fun f_985 n_985 H locs hp hW hS => ?_)
                                            obtain ⟨eK_985, en_985, hfr_985⟩ := hp
                                            obtain ⟨hJ_985, hX_985, hnn_985⟩ := hck_985 f_985 n_985 (BB + 100 + 100) ((z_pass v1_125x1 (nI (1 + j_966)) 8 pn, b_985, w_985)) (by omega) ⟨wa_985, no_985, pr_985, eK_985, hs_985, PRN.rf, (by omega), (fun z a1 a2 a3 a4 a5 => hfr_985 z a1 a4 a5)⟩ (hgm.pass (by omega))
                                            refine lv_iconst (v := 0) hx hb dL_law_988 (by decide) ?_
                                            refine lv_istore (lv' := [(32, .int 0), (31, .int (z_hot (z_pass v1_125x1 (nI (1 + j_966)) 8 pn) pn)), (30, .int (nI (1 + j_966))), (29, .ref n_704), (28, .int (nI j_704)), (27, .int (v1_125x1 1)), (26, .int (v1_125x1 0)), (25, .int (v1_125x1 3)), (24, .int (v1_125x1 7)), (23, .int (v1_125x1 4)), (22, .ref n_566), (21, .int zm), (20, .int zs), (19, .int ((RS9 j_526 hd9 (v1_125x1, 0, (-1))).2.2)), (18, .int (nI dW)), (17, .int (nI mm)), (16, .int (nI j_526)), (15, .int (nI j_423)), (14, .int (nI j_414)), (11, .int (nI (k_T v1_125x1))), (9, .long (z_dig pn (nI NR) (nI ac) hd9 v1_125x1 (k_T v1_125x1) (k_N v1_125x1))), (0, .ref (E.2.2.2 108)), (1, .ref n), (2, .ref (n + 55)), (3, .int (nI tm)), (4, .ref N), (6, .ref k_76), (7, .int (nI pn)), (8, .int (nI sp)), (12, .double (FP.i2d (z_sum v1_125x1 pn)))]) hx hb dL_law_989 hl (by decide) rfl (fun ls hl => ?_)
                                            have K991 : ∀ (fu : Nat) (p8 : Nat) (h_p8 : p8 ≤ pn) (hm : pn - p8 < fu) (H : Heap) (locs : List Loc) (ls : Array Slot), q_W E (f_985) n_985 H → va_S (q_ge E) s0_.heap H locs → lv_has ls 33 [(30, .int (nI (1 + j_966))), (29, .ref n_704), (28, .int (nI j_704)), (27, .int (v1_125x1 1)), (26, .int (v1_125x1 0)), (25, .int (v1_125x1 3)), (24, .int (v1_125x1 7)), (23, .int (v1_125x1 4)), (22, .ref n_566), (21, .int zm), (20, .int zs), (19, .int ((RS9 j_526 hd9 (v1_125x1, 0, (-1))).2.2)), (18, .int (nI dW)), (17, .int (nI mm)), (16, .int (nI j_526)), (15, .int (nI j_423)), (14, .int (nI j_414)), (11, .int (nI (k_T v1_125x1))), (9, .long (z_dig pn (nI NR) (nI ac) hd9 v1_125x1 (k_T v1_125x1) (k_N v1_125x1))), (0, .ref (E.2.2.2 108)), (1, .ref n), (2, .ref (n + 55)), (3, .int (nI tm)), (4, .ref N), (6, .ref k_76), (7, .int (nI pn)), (8, .int (nI sp)), (12, .double (FP.i2d (z_sum v1_125x1 pn))), (31, .int (z_hot (z_pass v1_125x1 (nI (1 + j_966)) 8 pn) pn - z_hot (z_pass v1_125x1 (nI (1 + j_966)) 8 pn) p8)), (32, .int (nI p8))] → W p0_ l e0_ room_1 s0_ m0_ #[Value.ref (E.2.2.2 108)] below0_ meth0_ c0_ H locs (110 + 26000 * tm + 21000 + 450 * sp + 101 + 101 + 1 + 1) (6614 + 1700000 * tm + 1480000 + 9000 * sp + 2006 + 2006 + pn + pn) Q9 (F0 m0_ 991 ls []) := by
                                              intro fu
                                              induction fu with
                                              | zero =>
                                                intro p8 h_p8 hm
                                                exact absurd hm (Nat.not_lt_zero _)
                                              | succ fu ih =>
                                                intro p8 h_p8 hm H locs ls hW hS hl
                                                refine lv_iload hx hb dL_law_991 (lv_at hl 29 rfl) ?_
                                                refine lv_iload hx hb dL_law_993 (lv_at hl 25 rfl) ?_
                                                refine lv_icmp_ge (tgt := 1071) hx hb dL_law_995 (by decide) (fun c_995 => ?_) (fun c_995 => ?_)
                                                · have hpp8 : p8 = pn := Nat.le_antisymm h_p8 (q_leN (by omega) c_995)
                                                  rw [hpp8, Int32.sub_self] at hl
                                                  refine lv_iload hx hb dL_law_1071 (lv_at hl 28 rfl) ?_
                                                  refine lv_if_ne (tgt := 1088) hx hb dL_law_1073 (by decide) (fun c_1073 => absurd c_1073 (by decide)) (fun c_1073 => ?_)
                                                  refine lv_aload_n hx hb dL_law_1076 rfl (lv_at hl 20 rfl) ?_
                                                  refine q_ci (va_runV (As := []) (rest := []) ⟨hx, hb, hml, hown, hts⟩ (ja_minute l E f_985 n_985 n (n + 55) n_65 N k_76 s1_966 (fun q => q = n_704) (BB + 100 + 100) pn NR (nI ac) hd9 (z_pass v1_125x1 (nI (1 + j_966)) 8 pn) (z_pass v1_125x1 (nI (1 + j_966)) 8 pn) RS9 hJ_985 (fun q x e => hW.lt e)) (cwV 0 hts gL_law_X12_minute rfl rfl rfl (by decide +kernel) ⟨(Nat.le_of_ble_eq_true rfl), (Nat.le_of_ble_eq_true rfl)⟩) (q_pV hA hW hS (ci := 12) rfl (Classical.choose_spec (Classical.choose_spec (Classical.choose_spec (Classical.choose_spec (Classical.choose_spec (Classical.choose_spec (Classical.choose_spec hJ_985.cell)))))))) rfl rfl hl.1 rfl (lv_room (Nat.le_of_ble_eq_true rfl)) dL_law_1077 ⟨(by show _ ≤ 600086; omega), (by show _ ≤ 7301441; omega)⟩) hS (fun r_1077 f_1077 n_1077 H locs hp hW hS => ?_)
                                                  obtain ⟨rfl, rfl, rfl⟩ := hp
                                                  have hW : q_W E (f_985) n_985 H := hW
                                                  refine lv_iload hx hb dL_law_1080 (lv_at hl 5 rfl) ?_
                                                  refine lv_iload hx hb dL_law_1082 (lv_at hl 0 rfl) ?_
                                                  refine lv_iadd hx hb dL_law_1084 ?_
                                                  refine lv_icmp_eq (tgt := 1090) hx hb dL_law_1085 (by decide) (fun c_1085 => ?_) (fun c_1085 => False.elim ((fun h9 => h9 rfl) c_1085))
                                                  refine lv_iinc (v := nI (sp + 1)) (lv' := [(8, .int (nI (sp + 1))), (30, .int (nI (1 + j_966))), (29, .ref n_704), (28, .int (nI j_704)), (27, .int (v1_125x1 1)), (26, .int (v1_125x1 0)), (25, .int (v1_125x1 3)), (24, .int (v1_125x1 7)), (23, .int (v1_125x1 4)), (22, .ref n_566), (21, .int zm), (20, .int zs), (19, .int ((RS9 j_526 hd9 (v1_125x1, 0, (-1))).2.2)), (18, .int (nI dW)), (17, .int (nI mm)), (16, .int (nI j_526)), (15, .int (nI j_423)), (14, .int (nI j_414)), (11, .int (nI (k_T v1_125x1))), (9, .long (z_dig pn (nI NR) (nI ac) hd9 v1_125x1 (k_T v1_125x1) (k_N v1_125x1))), (0, .ref (E.2.2.2 108)), (1, .ref n), (2, .ref (n + 55)), (3, .int (nI tm)), (4, .ref N), (6, .ref k_76), (7, .int (nI pn)), (12, .double (FP.i2d (z_sum v1_125x1 pn))), (31, .int 0), (32, .int (nI pn))]) hx hb dL_law_1090 hl (k := 26) rfl (nI_1 sp) (by decide) rfl (fun ls hl => ?_)
                                                  refine lv_goto (tgt := 104) hx hb dL_law_1093 (by decide) ?_
                                                  refine W.widen (k := 110 + 26000 * tm + 21000 + 450 * (sp + 1)) (n := 6614 + 1700000 * tm + 1480000 + 9000 * (sp + 1)) (by omega) (by omega) ?_
                                                  exact ihS f_985 n_985 (sp + 1) (z_pass v1_125x1 (nI (1 + j_966)) 8 pn) s1_966 (BB + 100 + 100) hJ_985.drop (by omega) hsl (by omega) (ms_lt hmS hsl) _ _ _ hW hS (lv_sub hl [20, 21, 22, 23, 24, 25, 26, 0] rfl)
                                                · have hl_p8 : p8 < pn := q_gtn (by omega) c_995
                                                  obtain ⟨ta9, f4, b3, b4⟩ := hvo.hot p8 hl_p8
                                                  obtain ⟨u9, u1, u2, u3, u4⟩ := cool_nI b3 b4 (show 1 + j_966 ≤ 4000 by omega)
                                                  have hz9 : (z_pass v1_125x1 (nI (1 + j_966)) 8 pn) (54 + 4 * p8) = nI u9 := by
                                                    show z_pass _ _ 8 pn (54 + 4 * p8) = _
                                                    unfold z_pass
                                                    rw [if_neg (by omega), if_pos ⟨by omega, by omega, by omega, by omega⟩, f4]
                                                    exact u4
                                                  refine lv_iload hx hb dL_law_998 (lv_at hl 28 rfl) ?_
                                                  refine lv_aload_n hx hb dL_law_1000 rfl (lv_at hl 20 rfl) ?_
                                                  refine lv_iload hx hb dL_law_1001 (lv_at hl 29 rfl) ?_
                                                  refine q_ci (va_runV (As := [.int (nI p8)]) (rest := [.int (z_hot (z_pass v1_125x1 (nI (1 + j_966)) 8 pn) pn - z_hot (z_pass v1_125x1 (nI (1 + j_966)) 8 pn) p8)]) ⟨hx, hb, hml, hown, hts⟩ (ja_heatOf l E f_985 n_985 n (n + 55) n_65 N k_76 s1_966 (fun q => q = n_704) (BB + 100 + 100) pn NR (nI ac) hd9 (z_pass v1_125x1 (nI (1 + j_966)) 8 pn) (z_pass v1_125x1 (nI (1 + j_966)) 8 pn) RS9 p8 hJ_985 (fun q x e => hW.lt e) hl_p8) (cwV 1 hts gL_law_X12_heatOf rfl rfl rfl (by decide +kernel) ⟨(Nat.le_of_ble_eq_true rfl), (Nat.le_of_ble_eq_true rfl)⟩) (q_pV hA hW hS (ci := 12) rfl (Classical.choose_spec (Classical.choose_spec (Classical.choose_spec (Classical.choose_spec (Classical.choose_spec (Classical.choose_spec (Classical.choose_spec hJ_985.cell)))))))) rfl rfl hl.1 rfl (lv_room (Nat.le_of_ble_eq_true rfl)) dL_law_1003 ⟨(by show _ ≤ 600086; omega), (by show _ ≤ 7301441; omega)⟩) hS (fun r_1003 f_1003 n_1003 H locs hp hW hS => ?_)
                                                  obtain ⟨rfl, rfl, rfl⟩ := hp
                                                  have hW : q_W E (f_985) n_985 H := hW
                                                  rw [hz9]
                                                  refine lv_bipush (v := 20) hx hb dL_law_1006 (by decide) ?_
                                                  refine lv_icmp_le (tgt := 1015) hx hb dL_law_1008 (by decide) (fun c_1008 => ?_) (fun c_1008 => ?_)
                                                  · have hot9 : z_hot (z_pass v1_125x1 (nI (1 + j_966)) 8 pn) (p8 + 1) = z_hot (z_pass v1_125x1 (nI (1 + j_966)) 8 pn) p8 + 0 := (if_neg (by rw [hz9]; exact Int32.not_lt.mpr c_1008)).trans (Int32.add_zero _).symm
                                                    refine lv_iconst (v := 0) hx hb dL_law_1015 (by decide) ?_
                                                    refine lv_isub hx hb dL_law_1016 ?_
                                                    rw [isub3, ← hot9]
                                                    refine lv_istore (lv' := [(31, .int (z_hot (z_pass v1_125x1 (nI (1 + j_966)) 8 pn) pn - z_hot (z_pass v1_125x1 (nI (1 + j_966)) 8 pn) (p8 + 1))), (30, .int (nI (1 + j_966))), (29, .ref n_704), (28, .int (nI j_704)), (27, .int (v1_125x1 1)), (26, .int (v1_125x1 0)), (25, .int (v1_125x1 3)), (24, .int (v1_125x1 7)), (23, .int (v1_125x1 4)), (22, .ref n_566), (21, .int zm), (20, .int zs), (19, .int ((RS9 j_526 hd9 (v1_125x1, 0, (-1))).2.2)), (18, .int (nI dW)), (17, .int (nI mm)), (16, .int (nI j_526)), (15, .int (nI j_423)), (14, .int (nI j_414)), (11, .int (nI (k_T v1_125x1))), (9, .long (z_dig pn (nI NR) (nI ac) hd9 v1_125x1 (k_T v1_125x1) (k_N v1_125x1))), (0, .ref (E.2.2.2 108)), (1, .ref n), (2, .ref (n + 55)), (3, .int (nI tm)), (4, .ref N), (6, .ref k_76), (7, .int (nI pn)), (8, .int (nI sp)), (12, .double (FP.i2d (z_sum v1_125x1 pn))), (32, .int (nI p8))]) hx hb dL_law_1017 hl (by decide) rfl (fun ls hl => ?_)
                                                    refine lv_aload_n hx hb dL_law_1019 rfl (lv_at hl 21 rfl) ?_
                                                    refine lv_iload hx hb dL_law_1020 (lv_at hl 29 rfl) ?_
                                                    refine q_ci (va_runV (As := [.int (nI p8)]) (rest := []) ⟨hx, hb, hml, hown, hts⟩ (ja_heatOf l E f_985 n_985 n (n + 55) n_65 N k_76 s1_966 (fun q => q = n_704) (BB + 100 + 100) pn NR (nI ac) hd9 (z_pass v1_125x1 (nI (1 + j_966)) 8 pn) (z_pass v1_125x1 (nI (1 + j_966)) 8 pn) RS9 p8 hJ_985 (fun q x e => hW.lt e) hl_p8) (cwV 1 hts gL_law_X12_heatOf rfl rfl rfl (by decide +kernel) ⟨(Nat.le_of_ble_eq_true rfl), (Nat.le_of_ble_eq_true rfl)⟩) (q_pV hA hW hS (ci := 12) rfl (Classical.choose_spec (Classical.choose_spec (Classical.choose_spec (Classical.choose_spec (Classical.choose_spec (Classical.choose_spec (Classical.choose_spec hJ_985.cell)))))))) rfl rfl hl.1 rfl (lv_room (Nat.le_of_ble_eq_true rfl)) dL_law_1022 ⟨(by show _ ≤ 600086; omega), (by show _ ≤ 7301441; omega)⟩) hS (fun r_1022 f_1022 n_1022 H locs hp hW hS => ?_)
                                                    obtain ⟨rfl, rfl, rfl⟩ := hp
                                                    have hW : q_W E (f_985) n_985 H := hW
                                                    rw [hz9]
                                                    refine lv_aload hx hb dL_law_1025 (lv_at hl 2 rfl) ?_
                                                    refine lv_iload hx hb dL_law_1027 (lv_at hl 29 rfl) ?_
                                                    refine q_iald hx hb hA hW ((hX_985 _ rfl).trans hn_704_975) (vp_in_nI hl_p8 (by omega)) dL_law_1029 ?_
                                                    rw [show gh (nI p8).toNatClampNeg = nI ta9 from by rw [nI_clamp (by omega)]; exact (hgh9 p8 hl_p8).trans f4]
                                                    refine lv_icmp_gt (tgt := 1063) hx hb dL_law_1030 (by decide) (fun c_1030 => absurd c_1030 (nI_nlt (a := ta9) (b := u9) u2 (by omega))) (fun c_1030 => ?_)
                                                    refine lv_aload_n hx hb dL_law_1033 rfl (lv_at hl 21 rfl) ?_
                                                    refine lv_iload hx hb dL_law_1034 (lv_at hl 29 rfl) ?_
                                                    refine q_ci (va_runV (As := [.int (nI p8)]) (rest := []) ⟨hx, hb, hml, hown, hts⟩ (ja_heatOf l E f_985 n_985 n (n + 55) n_65 N k_76 s1_966 (fun q => q = n_704) (BB + 100 + 100) pn NR (nI ac) hd9 (z_pass v1_125x1 (nI (1 + j_966)) 8 pn) (z_pass v1_125x1 (nI (1 + j_966)) 8 pn) RS9 p8 hJ_985 (fun q x e => hW.lt e) hl_p8) (cwV 1 hts gL_law_X12_heatOf rfl rfl rfl (by decide +kernel) ⟨(Nat.le_of_ble_eq_true rfl), (Nat.le_of_ble_eq_true rfl)⟩) (q_pV hA hW hS (ci := 12) rfl (Classical.choose_spec (Classical.choose_spec (Classical.choose_spec (Classical.choose_spec (Classical.choose_spec (Classical.choose_spec (Classical.choose_spec hJ_985.cell)))))))) rfl rfl hl.1 rfl (lv_room (Nat.le_of_ble_eq_true rfl)) dL_law_1036 ⟨(by show _ ≤ 600086; omega), (by show _ ≤ 7301441; omega)⟩) hS (fun r_1036 f_1036 n_1036 H locs hp hW hS => ?_)
                                                    obtain ⟨rfl, rfl, rfl⟩ := hp
                                                    have hW : q_W E (f_985) n_985 H := hW
                                                    rw [hz9]
                                                    refine lv_bipush (v := 20) hx hb dL_law_1039 (by decide) ?_
                                                    refine lv_icmp_lt (tgt := 1063) hx hb dL_law_1041 (by decide) (fun c_1041 => absurd c_1041 (nI_nlt (a := u9) (b := 20) u1 (by omega))) (fun c_1041 => ?_)
                                                    refine lv_aload hx hb dL_law_1044 (lv_at hl 2 rfl) ?_
                                                    refine lv_iload hx hb dL_law_1046 (lv_at hl 29 rfl) ?_
                                                    refine q_iald hx hb hA hW ((hX_985 _ rfl).trans hn_704_975) (vp_in_nI hl_p8 (by omega)) dL_law_1048 ?_
                                                    rw [show gh (nI p8).toNatClampNeg = nI ta9 from by rw [nI_clamp (by omega)]; exact (hgh9 p8 hl_p8).trans f4]
                                                    refine lv_aload_n hx hb dL_law_1049 rfl (lv_at hl 21 rfl) ?_
                                                    refine lv_iload hx hb dL_law_1050 (lv_at hl 29 rfl) ?_
                                                    refine q_ci (va_runV (As := [.int (nI p8)]) (rest := [.int (nI ta9)]) ⟨hx, hb, hml, hown, hts⟩ (ja_heatOf l E f_985 n_985 n (n + 55) n_65 N k_76 s1_966 (fun q => q = n_704) (BB + 100 + 100) pn NR (nI ac) hd9 (z_pass v1_125x1 (nI (1 + j_966)) 8 pn) (z_pass v1_125x1 (nI (1 + j_966)) 8 pn) RS9 p8 hJ_985 (fun q x e => hW.lt e) hl_p8) (cwV 1 hts gL_law_X12_heatOf rfl rfl rfl (by decide +kernel) ⟨(Nat.le_of_ble_eq_true rfl), (Nat.le_of_ble_eq_true rfl)⟩) (q_pV hA hW hS (ci := 12) rfl (Classical.choose_spec (Classical.choose_spec (Classical.choose_spec (Classical.choose_spec (Classical.choose_spec (Classical.choose_spec (Classical.choose_spec hJ_985.cell)))))))) rfl rfl hl.1 rfl (lv_room (Nat.le_of_ble_eq_true rfl)) dL_law_1052 ⟨(by show _ ≤ 600086; omega), (by show _ ≤ 7301441; omega)⟩) hS (fun r_1052 f_1052 n_1052 H locs hp hW hS => ?_)
                                                    obtain ⟨rfl, rfl, rfl⟩ := hp
                                                    have hW : q_W E (f_985) n_985 H := hW
                                                    rw [hz9]
                                                    refine lv_isub hx hb dL_law_1055 ?_
                                                    rw [show nI ta9 - nI u9 = nI (ta9 - u9) from pk_sub u2]
                                                    refine lv_iload hx hb dL_law_1056 (lv_at hl 1 rfl) ?_
                                                    refine lv_iconst (v := 2) hx hb dL_law_1058 (by decide) ?_
                                                    refine lv_idiv hx hb dL_law_1059 (by decide) ?_
                                                    rw [show nI (1 + j_966) / 2 = nI ((1 + j_966) / 2) from pk_div (d := 2) (by omega) (by decide) (by decide)]
                                                    refine lv_icmp_le (tgt := 1065) hx hb dL_law_1060 (by decide) (fun c_1060 => ?_) (fun c_1060 => absurd (nI_le (by omega) (by omega)) c_1060)
                                                    refine lv_iinc (v := nI (p8 + 1)) (lv' := [(32, .int (nI (p8 + 1))), (31, .int (z_hot (z_pass v1_125x1 (nI (1 + j_966)) 8 pn) pn - z_hot (z_pass v1_125x1 (nI (1 + j_966)) 8 pn) (p8 + 1))), (30, .int (nI (1 + j_966))), (29, .ref n_704), (28, .int (nI j_704)), (27, .int (v1_125x1 1)), (26, .int (v1_125x1 0)), (25, .int (v1_125x1 3)), (24, .int (v1_125x1 7)), (23, .int (v1_125x1 4)), (22, .ref n_566), (21, .int zm), (20, .int zs), (19, .int ((RS9 j_526 hd9 (v1_125x1, 0, (-1))).2.2)), (18, .int (nI dW)), (17, .int (nI mm)), (16, .int (nI j_526)), (15, .int (nI j_423)), (14, .int (nI j_414)), (11, .int (nI (k_T v1_125x1))), (9, .long (z_dig pn (nI NR) (nI ac) hd9 v1_125x1 (k_T v1_125x1) (k_N v1_125x1))), (0, .ref (E.2.2.2 108)), (1, .ref n), (2, .ref (n + 55)), (3, .int (nI tm)), (4, .ref N), (6, .ref k_76), (7, .int (nI pn)), (8, .int (nI sp)), (12, .double (FP.i2d (z_sum v1_125x1 pn)))]) hx hb dL_law_1065 hl (k := 29) rfl (nI_1 p8) (by decide) rfl (fun ls hl => ?_)
                                                    refine lv_goto (tgt := 991) hx hb dL_law_1068 (by decide) ?_
                                                    exact ih (p8 + 1) hl_p8 (by omega) _ _ _ hW hS (lv_sub hl [2, 3, 4, 5, 6, 7, 8, 9, 10, 11, 12, 13, 14, 15, 16, 17, 18, 19, 20, 21, 22, 23, 24, 25, 26, 27, 28, 29, 1, 0] rfl)
                                                  · have hot9 : z_hot (z_pass v1_125x1 (nI (1 + j_966)) 8 pn) (p8 + 1) = z_hot (z_pass v1_125x1 (nI (1 + j_966)) 8 pn) p8 + 1 := if_pos (by rw [hz9]; exact Int32.not_le.mp c_1008)
                                                    refine lv_iconst (v := 1) hx hb dL_law_1011 (by decide) ?_
                                                    refine lv_goto (tgt := 1016) hx hb dL_law_1012 (by decide) ?_
                                                    refine lv_isub hx hb dL_law_1016 ?_
                                                    rw [isub3, ← hot9]
                                                    refine lv_istore (lv' := [(31, .int (z_hot (z_pass v1_125x1 (nI (1 + j_966)) 8 pn) pn - z_hot (z_pass v1_125x1 (nI (1 + j_966)) 8 pn) (p8 + 1))), (30, .int (nI (1 + j_966))), (29, .ref n_704), (28, .int (nI j_704)), (27, .int (v1_125x1 1)), (26, .int (v1_125x1 0)), (25, .int (v1_125x1 3)), (24, .int (v1_125x1 7)), (23, .int (v1_125x1 4)), (22, .ref n_566), (21, .int zm), (20, .int zs), (19, .int ((RS9 j_526 hd9 (v1_125x1, 0, (-1))).2.2)), (18, .int (nI dW)), (17, .int (nI mm)), (16, .int (nI j_526)), (15, .int (nI j_423)), (14, .int (nI j_414)), (11, .int (nI (k_T v1_125x1))), (9, .long (z_dig pn (nI NR) (nI ac) hd9 v1_125x1 (k_T v1_125x1) (k_N v1_125x1))), (0, .ref (E.2.2.2 108)), (1, .ref n), (2, .ref (n + 55)), (3, .int (nI tm)), (4, .ref N), (6, .ref k_76), (7, .int (nI pn)), (8, .int (nI sp)), (12, .double (FP.i2d (z_sum v1_125x1 pn))), (32, .int (nI p8))]) hx hb dL_law_1017 hl (by decide) rfl (fun ls hl => ?_)
                                                    refine lv_aload_n hx hb dL_law_1019 rfl (lv_at hl 21 rfl) ?_
                                                    refine lv_iload hx hb dL_law_1020 (lv_at hl 29 rfl) ?_
                                                    refine q_ci (va_runV (As := [.int (nI p8)]) (rest := []) ⟨hx, hb, hml, hown, hts⟩ (ja_heatOf l E f_985 n_985 n (n + 55) n_65 N k_76 s1_966 (fun q => q = n_704) (BB + 100 + 100) pn NR (nI ac) hd9 (z_pass v1_125x1 (nI (1 + j_966)) 8 pn) (z_pass v1_125x1 (nI (1 + j_966)) 8 pn) RS9 p8 hJ_985 (fun q x e => hW.lt e) hl_p8) (cwV 1 hts gL_law_X12_heatOf rfl rfl rfl (by decide +kernel) ⟨(Nat.le_of_ble_eq_true rfl), (Nat.le_of_ble_eq_true rfl)⟩) (q_pV hA hW hS (ci := 12) rfl (Classical.choose_spec (Classical.choose_spec (Classical.choose_spec (Classical.choose_spec (Classical.choose_spec (Classical.choose_spec (Classical.choose_spec hJ_985.cell)))))))) rfl rfl hl.1 rfl (lv_room (Nat.le_of_ble_eq_true rfl)) dL_law_1022 ⟨(by show _ ≤ 600086; omega), (by show _ ≤ 7301441; omega)⟩) hS (fun r_1022 f_1022 n_1022 H locs hp hW hS => ?_)
                                                    obtain ⟨rfl, rfl, rfl⟩ := hp
                                                    have hW : q_W E (f_985) n_985 H := hW
                                                    rw [hz9]
                                                    refine lv_aload hx hb dL_law_1025 (lv_at hl 2 rfl) ?_
                                                    refine lv_iload hx hb dL_law_1027 (lv_at hl 29 rfl) ?_
                                                    refine q_iald hx hb hA hW ((hX_985 _ rfl).trans hn_704_975) (vp_in_nI hl_p8 (by omega)) dL_law_1029 ?_
                                                    rw [show gh (nI p8).toNatClampNeg = nI ta9 from by rw [nI_clamp (by omega)]; exact (hgh9 p8 hl_p8).trans f4]
                                                    refine lv_icmp_gt (tgt := 1063) hx hb dL_law_1030 (by decide) (fun c_1030 => absurd c_1030 (nI_nlt (a := ta9) (b := u9) u2 (by omega))) (fun c_1030 => ?_)
                                                    refine lv_aload_n hx hb dL_law_1033 rfl (lv_at hl 21 rfl) ?_
                                                    refine lv_iload hx hb dL_law_1034 (lv_at hl 29 rfl) ?_
                                                    refine q_ci (va_runV (As := [.int (nI p8)]) (rest := []) ⟨hx, hb, hml, hown, hts⟩ (ja_heatOf l E f_985 n_985 n (n + 55) n_65 N k_76 s1_966 (fun q => q = n_704) (BB + 100 + 100) pn NR (nI ac) hd9 (z_pass v1_125x1 (nI (1 + j_966)) 8 pn) (z_pass v1_125x1 (nI (1 + j_966)) 8 pn) RS9 p8 hJ_985 (fun q x e => hW.lt e) hl_p8) (cwV 1 hts gL_law_X12_heatOf rfl rfl rfl (by decide +kernel) ⟨(Nat.le_of_ble_eq_true rfl), (Nat.le_of_ble_eq_true rfl)⟩) (q_pV hA hW hS (ci := 12) rfl (Classical.choose_spec (Classical.choose_spec (Classical.choose_spec (Classical.choose_spec (Classical.choose_spec (Classical.choose_spec (Classical.choose_spec hJ_985.cell)))))))) rfl rfl hl.1 rfl (lv_room (Nat.le_of_ble_eq_true rfl)) dL_law_1036 ⟨(by show _ ≤ 600086; omega), (by show _ ≤ 7301441; omega)⟩) hS (fun r_1036 f_1036 n_1036 H locs hp hW hS => ?_)
                                                    obtain ⟨rfl, rfl, rfl⟩ := hp
                                                    have hW : q_W E (f_985) n_985 H := hW
                                                    rw [hz9]
                                                    refine lv_bipush (v := 20) hx hb dL_law_1039 (by decide) ?_
                                                    refine lv_icmp_lt (tgt := 1063) hx hb dL_law_1041 (by decide) (fun c_1041 => absurd c_1041 (nI_nlt (a := u9) (b := 20) u1 (by omega))) (fun c_1041 => ?_)
                                                    refine lv_aload hx hb dL_law_1044 (lv_at hl 2 rfl) ?_
                                                    refine lv_iload hx hb dL_law_1046 (lv_at hl 29 rfl) ?_
                                                    refine q_iald hx hb hA hW ((hX_985 _ rfl).trans hn_704_975) (vp_in_nI hl_p8 (by omega)) dL_law_1048 ?_
                                                    rw [show gh (nI p8).toNatClampNeg = nI ta9 from by rw [nI_clamp (by omega)]; exact (hgh9 p8 hl_p8).trans f4]
                                                    refine lv_aload_n hx hb dL_law_1049 rfl (lv_at hl 21 rfl) ?_
                                                    refine lv_iload hx hb dL_law_1050 (lv_at hl 29 rfl) ?_
                                                    refine q_ci (va_runV (As := [.int (nI p8)]) (rest := [.int (nI ta9)]) ⟨hx, hb, hml, hown, hts⟩ (ja_heatOf l E f_985 n_985 n (n + 55) n_65 N k_76 s1_966 (fun q => q = n_704) (BB + 100 + 100) pn NR (nI ac) hd9 (z_pass v1_125x1 (nI (1 + j_966)) 8 pn) (z_pass v1_125x1 (nI (1 + j_966)) 8 pn) RS9 p8 hJ_985 (fun q x e => hW.lt e) hl_p8) (cwV 1 hts gL_law_X12_heatOf rfl rfl rfl (by decide +kernel) ⟨(Nat.le_of_ble_eq_true rfl), (Nat.le_of_ble_eq_true rfl)⟩) (q_pV hA hW hS (ci := 12) rfl (Classical.choose_spec (Classical.choose_spec (Classical.choose_spec (Classical.choose_spec (Classical.choose_spec (Classical.choose_spec (Classical.choose_spec hJ_985.cell)))))))) rfl rfl hl.1 rfl (lv_room (Nat.le_of_ble_eq_true rfl)) dL_law_1052 ⟨(by show _ ≤ 600086; omega), (by show _ ≤ 7301441; omega)⟩) hS (fun r_1052 f_1052 n_1052 H locs hp hW hS => ?_)
                                                    obtain ⟨rfl, rfl, rfl⟩ := hp
                                                    have hW : q_W E (f_985) n_985 H := hW
                                                    rw [hz9]
                                                    refine lv_isub hx hb dL_law_1055 ?_
                                                    rw [show nI ta9 - nI u9 = nI (ta9 - u9) from pk_sub u2]
                                                    refine lv_iload hx hb dL_law_1056 (lv_at hl 1 rfl) ?_
                                                    refine lv_iconst (v := 2) hx hb dL_law_1058 (by decide) ?_
                                                    refine lv_idiv hx hb dL_law_1059 (by decide) ?_
                                                    rw [show nI (1 + j_966) / 2 = nI ((1 + j_966) / 2) from pk_div (d := 2) (by omega) (by decide) (by decide)]
                                                    refine lv_icmp_le (tgt := 1065) hx hb dL_law_1060 (by decide) (fun c_1060 => ?_) (fun c_1060 => absurd (nI_le (by omega) (by omega)) c_1060)
                                                    refine lv_iinc (v := nI (p8 + 1)) (lv' := [(32, .int (nI (p8 + 1))), (31, .int (z_hot (z_pass v1_125x1 (nI (1 + j_966)) 8 pn) pn - z_hot (z_pass v1_125x1 (nI (1 + j_966)) 8 pn) (p8 + 1))), (30, .int (nI (1 + j_966))), (29, .ref n_704), (28, .int (nI j_704)), (27, .int (v1_125x1 1)), (26, .int (v1_125x1 0)), (25, .int (v1_125x1 3)), (24, .int (v1_125x1 7)), (23, .int (v1_125x1 4)), (22, .ref n_566), (21, .int zm), (20, .int zs), (19, .int ((RS9 j_526 hd9 (v1_125x1, 0, (-1))).2.2)), (18, .int (nI dW)), (17, .int (nI mm)), (16, .int (nI j_526)), (15, .int (nI j_423)), (14, .int (nI j_414)), (11, .int (nI (k_T v1_125x1))), (9, .long (z_dig pn (nI NR) (nI ac) hd9 v1_125x1 (k_T v1_125x1) (k_N v1_125x1))), (0, .ref (E.2.2.2 108)), (1, .ref n), (2, .ref (n + 55)), (3, .int (nI tm)), (4, .ref N), (6, .ref k_76), (7, .int (nI pn)), (8, .int (nI sp)), (12, .double (FP.i2d (z_sum v1_125x1 pn)))]) hx hb dL_law_1065 hl (k := 29) rfl (nI_1 p8) (by decide) rfl (fun ls hl => ?_)
                                                    refine lv_goto (tgt := 991) hx hb dL_law_1068 (by decide) ?_
                                                    exact ih (p8 + 1) hl_p8 (by omega) _ _ _ hW hS (lv_sub hl [2, 3, 4, 5, 6, 7, 8, 9, 10, 11, 12, 13, 14, 15, 16, 17, 18, 19, 20, 21, 22, 23, 24, 25, 26, 27, 28, 29, 1, 0] rfl)
                                            rw [show z_hot (z_pass v1_125x1 (nI (1 + j_966)) 8 pn) pn = z_hot (z_pass v1_125x1 (nI (1 + j_966)) 8 pn) pn - z_hot (z_pass v1_125x1 (nI (1 + j_966)) 8 pn) 0 from (Int32.sub_zero _).symm] at hl
                                            exact K991 _ 0 (Nat.zero_le _) (Nat.lt_succ_self _) _ _ _ hW hS (lv_sub hl [2, 3, 4, 5, 6, 7, 8, 9, 10, 11, 12, 13, 14, 15, 16, 17, 18, 19, 20, 21, 22, 23, 24, 25, 26, 27, 28, 29, 1, 0] rfl)
                                          · have hl_p7 : p7 < pn := q_gtn (by omega) c_941
                                            refine lv_aload hx hb dL_law_944 (lv_at hl 0 rfl) ?_
                                            refine lv_iload hx hb dL_law_946 (lv_at hl 27 rfl) ?_
                                            refine lv_aload_n hx hb dL_law_948 rfl (lv_at hl 19 rfl) ?_
                                            refine lv_iload hx hb dL_law_949 (lv_at hl 27 rfl) ?_
                                            have hJ7b : JA E n (n + 55) n_65 N k_76 s1_704 (fun q => q = n_704) (va_up f_704 n_704 (some (aI E pn gh))) (n_704 + 1) (BB + 100 + 100) pn NR (nI ac) hd9 v1_125x1 v1_125x1 RS9 := hJ_704.out hlt7 (fun q h1 h2 => va_up_ne _ _ (by omega)) (Nat.le_succ _) ((va_up_ne _ _ (by have := hlt7 _ _ hJ_704.dice; omega)).trans hJ_704.dice) (fun q hq => by have hq : q = n_704 := hq; exact Or.inr ⟨by omega, by omega⟩)
                                            refine q_ci (va_runV (As := [.int (nI p7)]) (rest := [.int (nI p7), .ref n_704]) ⟨hx, hb, hml, hown, hts⟩ (ja_heatOf l E (va_up f_704 n_704 (some (aI E pn gh))) (n_704 + 1) n (n + 55) n_65 N k_76 s1_704 (fun q => q = n_704) (BB + 100 + 100) pn NR (nI ac) hd9 v1_125x1 v1_125x1 RS9 p7 hJ7b (fun q x e => hW.lt e) hl_p7) (cwV 1 hts gL_law_X12_heatOf rfl rfl rfl (by decide +kernel) ⟨(Nat.le_of_ble_eq_true rfl), (Nat.le_of_ble_eq_true rfl)⟩) (q_pV hA hW hS (ci := 12) rfl (Classical.choose_spec (Classical.choose_spec (Classical.choose_spec (Classical.choose_spec (Classical.choose_spec (Classical.choose_spec (Classical.choose_spec hJ7b.cell)))))))) rfl rfl hl.1 rfl (lv_room (Nat.le_of_ble_eq_true rfl)) dL_law_951 ⟨(by show _ ≤ 600086; omega), (by show _ ≤ 7301441; omega)⟩) hS (fun r_951 f_951 n_951 H locs hp hW hS => ?_)
                                            obtain ⟨rfl, rfl, rfl⟩ := hp
                                            have hW : q_W E (va_up f_704 n_704 (some (aI E pn gh))) (n_704 + 1) H := hW
                                            refine q_iast hx hb hA hW hS q_eq (vp_in_nI hl_p7 (by omega)) dL_law_954 (fun H locs hW hS => ?_)
                                            rw [show (nI p7).toNatClampNeg = p7 from (nI_clamp (by omega))] at hW
                                            rw [q_upup] at hW
                                            have hW : q_W E (va_up f_704 n_704 (some (aI E pn (upd gh p7 (v1_125x1 (54 + 4 * p7)))))) (n_704 + 1) H := hW
                                            refine lv_iinc (v := nI (p7 + 1)) (lv' := [(30, .int (nI (p7 + 1))), (29, .ref n_704), (28, .int (nI j_704)), (27, .int (v1_125x1 1)), (26, .int (v1_125x1 0)), (25, .int (v1_125x1 3)), (24, .int (v1_125x1 7)), (23, .int (v1_125x1 4)), (22, .ref n_566), (21, .int zm), (20, .int zs), (19, .int ((RS9 j_526 hd9 (v1_125x1, 0, (-1))).2.2)), (18, .int (nI dW)), (17, .int (nI mm)), (16, .int (nI j_526)), (15, .int (nI j_423)), (14, .int (nI j_414)), (11, .int (nI (k_T v1_125x1))), (9, .long (z_dig pn (nI NR) (nI ac) hd9 v1_125x1 (k_T v1_125x1) (k_N v1_125x1))), (0, .ref (E.2.2.2 108)), (1, .ref n), (2, .ref (n + 55)), (3, .int (nI tm)), (4, .ref N), (6, .ref k_76), (7, .int (nI pn)), (8, .int (nI sp)), (12, .double (FP.i2d (z_sum v1_125x1 pn)))]) hx hb dL_law_955 hl (k := 27) rfl (nI_1 p7) (by decide) rfl (fun ls hl => ?_)
                                            refine lv_goto (tgt := 937) hx hb dL_law_958 (by decide) ?_
                                            exact ih (p7 + 1) (upd gh p7 (v1_125x1 (54 + 4 * p7))) hl_p7 (fun q hq => by by_cases e8 : q = p7; (rw [e8]; exact if_pos rfl); (exact (if_neg e8).trans (hgh q (by omega)))) (by omega) _ _ _ hW hS (lv_sub hl [1, 2, 3, 4, 5, 6, 7, 8, 9, 10, 11, 12, 13, 14, 15, 16, 17, 18, 19, 20, 21, 22, 23, 24, 25, 26, 27, 0] rfl)
                                      exact K937 _ 0 (fun _ => 0) (Nat.zero_le _) (fun q hq => absurd hq (Nat.not_lt_zero _)) (Nat.lt_succ_self _) _ _ _ hW hS (lv_sub hl [1, 2, 3, 4, 5, 6, 7, 8, 9, 10, 11, 12, 13, 14, 15, 16, 17, 18, 19, 20, 21, 22, 23, 24, 25, 26, 27, 0] rfl)
                                    · refine lv_aload_n hx hb dL_law_844 rfl (lv_at hl 18 rfl) ?_
                                      refine lv_iload hx hb dL_law_845 (lv_at hl 12 rfl) ?_
                                      have hgk9 : ∀ u, VG (BB + 100 + 100) pn hd9 u → VG (BB + 100 + 100 + 100) pn hd9 (RS9 j_526 hd9 (u, 0, (-1))).1 := fun u hu => VG.of_ev hev1 hev2 (by omega) hu
                                      refine q_ci (va_runV (As := [.int (nI j_526)]) (rest := []) ⟨hx, hb, hml, hown, hts⟩ (ja_cook l E f_704 n_704 n (n + 55) n_65 N k_76 s1_704 (fun q => q = n_566) (BB + 100 + 100) pn NR (nI ac) hd9 v1_125x1 v1_125x1 RS9 j_526 hJ_704 (fun q x e => hW.lt e) (by omega) ej_526 (hgk9 _ hgm)) (cwV 1 hts gL_law_X12_cook rfl rfl rfl (by decide +kernel) ⟨(Nat.le_of_ble_eq_true rfl), (Nat.le_of_ble_eq_true rfl)⟩) (q_pV hA hW hS (ci := 12) rfl (Classical.choose_spec (Classical.choose_spec (Classical.choose_spec (Classical.choose_spec (Classical.choose_spec (Classical.choose_spec (Classical.choose_spec hJ_704.cell)))))))) rfl rfl hl.1 rfl (lv_room (Nat.le_of_ble_eq_true rfl)) dL_law_847 ⟨(by show _ ≤ 600086; omega), (by show _ ≤ 7301441; omega)⟩) hS (fun r_847 f_847 n_847 H locs hp hW hS => ?_)
                                      obtain ⟨rfl, eJ_847, en_847, hfr_847⟩ := hp
                                      have hn_566_847 : f_847 n_566 = some (aI E pn gd) := (hfr_847 _ rfl).trans hn_566_704
                                      rw [hr1]
                                      refine lv_iload hx hb dL_law_850 (lv_at hl 11 rfl) ?_
                                      refine lv_icmp_ne (tgt := 891) hx hb dL_law_852 (by decide) (fun c_852 => False.elim ((fun h9 => h9 rfl) c_852)) (fun c_852 => ?_)
                                      refine lv_aload hx hb dL_law_855 (lv_at hl 22 rfl) ?_
                                      refine lv_iload hx hb dL_law_857 (lv_at hl 12 rfl) ?_
                                      obtain ⟨P_859, pa_859, re_859, ki_859, wa_859, no_859, pr_859, b_859, w_859, hK_859, hs_859, hR_859, hO_859, hXk_859, hck_859⟩ := eJ_847.k
                                      obtain ⟨hk0_859, ⟨gk_859, hki_859, hkv_859⟩, ⟨gw_859, hwa_859, hwv_859⟩, ⟨gn_859, hno_859, hnv_859⟩, ⟨gp_859, hpa_859, hpv_859⟩, hrow_859⟩ := id hK_859
                                      obtain ⟨gre_859, hPre_859, hre_859, -⟩ := id hR_859
                                      have lk_859 := hW.lt hk0_859
                                      have lki_859 := hW.lt hki_859
                                      have lwa_859 := hW.lt hwa_859
                                      have lno_859 := hW.lt hno_859
                                      have lpa_859 := hW.lt hpa_859
                                      have nk_859 := eJ_847.ne
                                      have npa_859 := ne_ab eJ_847.dice hpa_859
                                      have nre_859 := ne_ab eJ_847.dice hre_859
                                      have nki_859 := ne_ab eJ_847.dice hki_859
                                      have nwa_859 := ne_ab eJ_847.dice hwa_859
                                      have nno_859 := ne_ab eJ_847.dice hno_859
                                      have lre_859 := hW.lt hre_859
                                      refine q_ci (va_runV (As := [.int (nI j_526)]) (rest := []) ⟨hx, hb, hml, hown, hts⟩ (kX15_cook l E f_847 n_847 k_76 pa_859 re_859 ki_859 wa_859 no_859 pn pr_859 hd9 v1_125x1 b_859 w_859 (BB + 100 + 100) P_859 NR j_526 RS9 hK_859 hs_859 (by omega) hvo (by omega) hkI hO_859 hR_859 ej_526) (cwV 1 hts gL_law_X15_cook rfl rfl rfl (by decide +kernel) ⟨(Nat.le_of_ble_eq_true rfl), (Nat.le_of_ble_eq_true rfl)⟩) (q_pV hA hW hS (ci := 15) rfl hk0_859) rfl rfl hl.1 rfl (lv_room (Nat.le_of_ble_eq_true rfl)) dL_law_859 ⟨(by show _ ≤ 600086; omega), (by show _ ≤ 7301441; omega)⟩) hS (fun r_859 f_859 n_859 H locs hp hW hS => ?_)
                                      obtain ⟨rfl, hB_859⟩ := hp
                                      obtain ⟨hJ_859, hX_859, hnn_859⟩ := hck_859 f_859 n_859 (BB + 100 + 100 + 100) (RS9 j_526 hd9 (v1_125x1, 0, (-1))) (by omega) hB_859 (hgk9 _ hgm)
                                      refine lv_iload hx hb dL_law_862 (lv_at hl 11 rfl) ?_
                                      refine lv_icmp_ne (tgt := 891) hx hb dL_law_864 (by decide) (fun c_864 => False.elim ((fun h9 => h9 hr1) c_864)) (fun c_864 => ?_)
                                      refine lv_aload_n hx hb dL_law_867 rfl (lv_at hl 18 rfl) ?_
                                      refine q_ci (va_runV (As := []) (rest := []) ⟨hx, hb, hml, hown, hts⟩ (ja_minute l E f_859 n_859 n (n + 55) n_65 N k_76 s1_704 (fun q => q = n_566) (BB + 100 + 100 + 100) pn NR (nI ac) hd9 ((RS9 j_526 hd9 (v1_125x1, 0, (-1))).1) ((RS9 j_526 hd9 (v1_125x1, 0, (-1))).1) RS9 hJ_859 (fun q x e => hW.lt e)) (cwV 0 hts gL_law_X12_minute rfl rfl rfl (by decide +kernel) ⟨(Nat.le_of_ble_eq_true rfl), (Nat.le_of_ble_eq_true rfl)⟩) (q_pV hA hW hS (ci := 12) rfl (Classical.choose_spec (Classical.choose_spec (Classical.choose_spec (Classical.choose_spec (Classical.choose_spec (Classical.choose_spec (Classical.choose_spec hJ_859.cell)))))))) rfl rfl hl.1 rfl (lv_room (Nat.le_of_ble_eq_true rfl)) dL_law_868 ⟨(by show _ ≤ 600086; omega), (by show _ ≤ 7301441; omega)⟩) hS (fun r_868 f_868 n_868 H locs hp hW hS => ?_)
                                      obtain ⟨rfl, rfl, rfl⟩ := hp
                                      have hW : q_W E (f_859) n_859 H := hW
                                      refine lv_iload hx hb dL_law_871 (lv_at hl 3 rfl) ?_
                                      refine lv_iload hx hb dL_law_873 (lv_at hl 11 rfl) ?_
                                      refine lv_iadd hx hb dL_law_875 ?_
                                      refine lv_icmp_ne (tgt := 891) hx hb dL_law_876 (by decide) (fun c_876 => False.elim ((fun h9 => h9 hm3) c_876)) (fun c_876 => ?_)
                                      refine lv_aload_n hx hb dL_law_879 rfl (lv_at hl 18 rfl) ?_
                                      refine q_ci (va_runV (As := []) (rest := []) ⟨hx, hb, hml, hown, hts⟩ (ja_warnings l E f_859 n_859 n (n + 55) n_65 N k_76 s1_704 (fun q => q = n_566) (BB + 100 + 100 + 100) pn NR (nI ac) hd9 ((RS9 j_526 hd9 (v1_125x1, 0, (-1))).1) ((RS9 j_526 hd9 (v1_125x1, 0, (-1))).1) RS9 hJ_859 (fun q x e => hW.lt e)) (cwV 0 hts gL_law_X12_warnings rfl rfl rfl (by decide +kernel) ⟨(Nat.le_of_ble_eq_true rfl), (Nat.le_of_ble_eq_true rfl)⟩) (q_pV hA hW hS (ci := 12) rfl (Classical.choose_spec (Classical.choose_spec (Classical.choose_spec (Classical.choose_spec (Classical.choose_spec (Classical.choose_spec (Classical.choose_spec hJ_859.cell)))))))) rfl rfl hl.1 rfl (lv_room (Nat.le_of_ble_eq_true rfl)) dL_law_880 ⟨(by show _ ≤ 600086; omega), (by show _ ≤ 7301441; omega)⟩) hS (fun r_880 f_880 n_880 H locs hp hW hS => ?_)
                                      obtain ⟨rfl, rfl, rfl⟩ := hp
                                      have hW : q_W E (f_859) n_859 H := hW
                                      refine lv_iload hx hb dL_law_883 (lv_at hl 5 rfl) ?_
                                      refine lv_iload hx hb dL_law_885 (lv_at hl 10 rfl) ?_
                                      refine lv_iadd hx hb dL_law_887 ?_
                                      refine lv_icmp_eq (tgt := 893) hx hb dL_law_888 (by decide) (fun c_888 => ?_) (fun c_888 => False.elim ((fun h9 => h9 hm4) c_888))
                                      refine lv_iconst (v := 0) hx hb dL_law_893 (by decide) ?_
                                      refine lv_istore (lv' := [(29, .int 0), (28, .int (nI j_704)), (27, .int (v1_125x1 1)), (26, .int (v1_125x1 0)), (25, .int (v1_125x1 3)), (24, .int (v1_125x1 7)), (23, .int (v1_125x1 4)), (22, .ref n_566), (21, .int zm), (20, .int zs), (19, .int ((RS9 j_526 hd9 (v1_125x1, 0, (-1))).2.2)), (18, .int (nI dW)), (17, .int (nI mm)), (16, .int (nI j_526)), (15, .int (nI j_423)), (14, .int (nI j_414)), (11, .int (nI (k_T v1_125x1))), (9, .long (z_dig pn (nI NR) (nI ac) hd9 v1_125x1 (k_T v1_125x1) (k_N v1_125x1))), (0, .ref (E.2.2.2 108)), (1, .ref n), (2, .ref (n + 55)), (3, .int (nI tm)), (4, .ref N), (6, .ref k_76), (7, .int (nI pn)), (8, .int (nI sp)), (12, .double (FP.i2d (z_sum v1_125x1 pn)))]) hx hb dL_law_894 hl (by decide) rfl (fun ls hl => ?_)
                                      have K896 : ∀ (fu : Nat) (p6 : Nat) (h_p6 : p6 ≤ pn) (hm : pn - p6 < fu) (H : Heap) (locs : List Loc) (ls : Array Slot), q_W E (f_859) n_859 H → va_S (q_ge E) s0_.heap H locs → lv_has ls 33 [(28, .int (nI j_704)), (27, .int (v1_125x1 1)), (26, .int (v1_125x1 0)), (25, .int (v1_125x1 3)), (24, .int (v1_125x1 7)), (23, .int (v1_125x1 4)), (22, .ref n_566), (21, .int zm), (20, .int zs), (19, .int ((RS9 j_526 hd9 (v1_125x1, 0, (-1))).2.2)), (18, .int (nI dW)), (17, .int (nI mm)), (16, .int (nI j_526)), (15, .int (nI j_423)), (14, .int (nI j_414)), (11, .int (nI (k_T v1_125x1))), (9, .long (z_dig pn (nI NR) (nI ac) hd9 v1_125x1 (k_T v1_125x1) (k_N v1_125x1))), (0, .ref (E.2.2.2 108)), (1, .ref n), (2, .ref (n + 55)), (3, .int (nI tm)), (4, .ref N), (6, .ref k_76), (7, .int (nI pn)), (8, .int (nI sp)), (12, .double (FP.i2d (z_sum v1_125x1 pn))), (29, .int (nI p6))] → W p0_ l e0_ room_1 s0_ m0_ #[Value.ref (E.2.2.2 108)] below0_ meth0_ c0_ H locs (110 + 26000 * tm + 21000 + 450 * sp + 101 + 101 + 1 + 100) (6614 + 1700000 * tm + 1480000 + 9000 * sp + 2006 + 2006 + pn + 2000) Q9 (F0 m0_ 896 ls []) := by
                                        intro fu
                                        induction fu with
                                        | zero =>
                                          intro p6 h_p6 hm
                                          exact absurd hm (Nat.not_lt_zero _)
                                        | succ fu ih =>
                                          intro p6 h_p6 hm H locs ls hW hS hl
                                          refine lv_iload hx hb dL_law_896 (lv_at hl 26 rfl) ?_
                                          refine lv_iload hx hb dL_law_898 (lv_at hl 23 rfl) ?_
                                          refine lv_icmp_ge (tgt := 925) hx hb dL_law_900 (by decide) (fun c_900 => ?_) (fun c_900 => ?_)
                                          · refine lv_goto (tgt := 1090) hx hb dL_law_925 (by decide) ?_
                                            refine lv_iinc (v := nI (sp + 1)) (lv' := [(8, .int (nI (sp + 1))), (28, .int (nI j_704)), (27, .int (v1_125x1 1)), (26, .int (v1_125x1 0)), (25, .int (v1_125x1 3)), (24, .int (v1_125x1 7)), (23, .int (v1_125x1 4)), (22, .ref n_566), (21, .int zm), (20, .int zs), (19, .int ((RS9 j_526 hd9 (v1_125x1, 0, (-1))).2.2)), (18, .int (nI dW)), (17, .int (nI mm)), (16, .int (nI j_526)), (15, .int (nI j_423)), (14, .int (nI j_414)), (11, .int (nI (k_T v1_125x1))), (9, .long (z_dig pn (nI NR) (nI ac) hd9 v1_125x1 (k_T v1_125x1) (k_N v1_125x1))), (0, .ref (E.2.2.2 108)), (1, .ref n), (2, .ref (n + 55)), (3, .int (nI tm)), (4, .ref N), (6, .ref k_76), (7, .int (nI pn)), (12, .double (FP.i2d (z_sum v1_125x1 pn))), (29, .int (nI p6))]) hx hb dL_law_1090 hl (k := 24) rfl (nI_1 sp) (by decide) rfl (fun ls hl => ?_)
                                            refine lv_goto (tgt := 104) hx hb dL_law_1093 (by decide) ?_
                                            refine W.widen (k := 110 + 26000 * tm + 21000 + 450 * (sp + 1)) (n := 6614 + 1700000 * tm + 1480000 + 9000 * (sp + 1)) (by omega) (by omega) ?_
                                            exact ihS f_859 n_859 (sp + 1) ((RS9 j_526 hd9 (v1_125x1, 0, (-1))).1) s1_704 (BB + 100 + 100 + 100) hJ_859.drop (by omega) hsl (by omega) (ms_lt hmS hsl) _ _ _ hW hS (lv_sub hl [18, 19, 20, 21, 22, 23, 24, 0] rfl)
                                          · have hl_p6 : p6 < pn := q_gtn (by omega) c_900
                                            refine lv_aload_n hx hb dL_law_903 rfl (lv_at hl 18 rfl) ?_
                                            refine lv_iload hx hb dL_law_904 (lv_at hl 26 rfl) ?_
                                            refine q_ci (va_runV (As := [.int (nI p6)]) (rest := []) ⟨hx, hb, hml, hown, hts⟩ (ja_doneIn l E f_859 n_859 n (n + 55) n_65 N k_76 s1_704 (fun q => q = n_566) (BB + 100 + 100 + 100) pn NR (nI ac) hd9 ((RS9 j_526 hd9 (v1_125x1, 0, (-1))).1) ((RS9 j_526 hd9 (v1_125x1, 0, (-1))).1) RS9 p6 hJ_859 (fun q x e => hW.lt e) hl_p6) (cwV 1 hts gL_law_X12_doneIn rfl rfl rfl (by decide +kernel) ⟨(Nat.le_of_ble_eq_true rfl), (Nat.le_of_ble_eq_true rfl)⟩) (q_pV hA hW hS (ci := 12) rfl (Classical.choose_spec (Classical.choose_spec (Classical.choose_spec (Classical.choose_spec (Classical.choose_spec (Classical.choose_spec (Classical.choose_spec hJ_859.cell)))))))) rfl rfl hl.1 rfl (lv_room (Nat.le_of_ble_eq_true rfl)) dL_law_906 ⟨(by show _ ≤ 600086; omega), (by show _ ≤ 7301441; omega)⟩) hS (fun r_906 f_906 n_906 H locs hp hW hS => ?_)
                                            obtain ⟨rfl, rfl, rfl⟩ := hp
                                            have hW : q_W E (f_859) n_859 H := hW
                                            refine lv_aload hx hb dL_law_909 (lv_at hl 6 rfl) ?_
                                            refine lv_iload hx hb dL_law_911 (lv_at hl 26 rfl) ?_
                                            refine q_iald hx hb hA hW ((hX_859 _ rfl).trans hn_566_847) (vp_in_nI hl_p6 (by omega)) dL_law_913 ?_
                                            rw [show gd (nI p6).toNatClampNeg = (RS9 j_526 hd9 (v1_125x1, 0, (-1))).1 (55 + 4 * p6) from by rw [nI_clamp (by omega)]; exact hgd9 p6 hl_p6]
                                            refine lv_icmp_eq (tgt := 919) hx hb dL_law_914 (by decide) (fun c_914 => ?_) (fun c_914 => False.elim ((fun h9 => h9 rfl) c_914))
                                            refine lv_iinc (v := nI (p6 + 1)) (lv' := [(29, .int (nI (p6 + 1))), (28, .int (nI j_704)), (27, .int (v1_125x1 1)), (26, .int (v1_125x1 0)), (25, .int (v1_125x1 3)), (24, .int (v1_125x1 7)), (23, .int (v1_125x1 4)), (22, .ref n_566), (21, .int zm), (20, .int zs), (19, .int ((RS9 j_526 hd9 (v1_125x1, 0, (-1))).2.2)), (18, .int (nI dW)), (17, .int (nI mm)), (16, .int (nI j_526)), (15, .int (nI j_423)), (14, .int (nI j_414)), (11, .int (nI (k_T v1_125x1))), (9, .long (z_dig pn (nI NR) (nI ac) hd9 v1_125x1 (k_T v1_125x1) (k_N v1_125x1))), (0, .ref (E.2.2.2 108)), (1, .ref n), (2, .ref (n + 55)), (3, .int (nI tm)), (4, .ref N), (6, .ref k_76), (7, .int (nI pn)), (8, .int (nI sp)), (12, .double (FP.i2d (z_sum v1_125x1 pn)))]) hx hb dL_law_919 hl (k := 26) rfl (nI_1 p6) (by decide) rfl (fun ls hl => ?_)
                                            refine lv_goto (tgt := 896) hx hb dL_law_922 (by decide) ?_
                                            exact ih (p6 + 1) hl_p6 (by omega) _ _ _ hW hS (lv_sub hl [1, 2, 3, 4, 5, 6, 7, 8, 9, 10, 11, 12, 13, 14, 15, 16, 17, 18, 19, 20, 21, 22, 23, 24, 25, 26, 0] rfl)
                                      exact K896 _ 0 (Nat.zero_le _) (Nat.lt_succ_self _) _ _ _ hW hS (lv_sub hl [1, 2, 3, 4, 5, 6, 7, 8, 9, 10, 11, 12, 13, 14, 15, 16, 17, 18, 19, 20, 21, 22, 23, 24, 25, 26, 0] rfl)
                                  have J777 : ∀ (H : Heap) (locs : List Loc) (ls : Array Slot), q_W E (f_704) n_704 H → va_S (q_ge E) s0_.heap H locs → lv_has ls 33 [(28, .int (nI j_704)), (27, .int (v1_125x1 1)), (26, .int (v1_125x1 0)), (25, .int (v1_125x1 3)), (24, .int (v1_125x1 7)), (23, .int (v1_125x1 4)), (22, .ref n_566), (21, .int zm), (20, .int zs), (19, .int ((RS9 j_526 hd9 (v1_125x1, 0, (-1))).2.2)), (18, .int (nI dW)), (17, .int (nI mm)), (16, .int (nI j_526)), (15, .int (nI j_423)), (14, .int (nI j_414)), (11, .int (nI (k_T v1_125x1))), (9, .long (z_dig pn (nI NR) (nI ac) hd9 v1_125x1 (k_T v1_125x1) (k_N v1_125x1))), (0, .ref (E.2.2.2 108)), (1, .ref n), (2, .ref (n + 55)), (3, .int (nI tm)), (4, .ref N), (6, .ref k_76), (7, .int (nI pn)), (8, .int (nI sp)), (12, .double (FP.i2d (z_sum v1_125x1 pn)))] → W p0_ l e0_ room_1 s0_ m0_ #[Value.ref (E.2.2.2 108)] below0_ meth0_ c0_ H locs (110 + 26000 * tm + 21000 + 450 * sp + 101 + 101 + 1) (6614 + 1700000 * tm + 1480000 + 9000 * sp + 2006 + 2006 + pn) Q9 (F0 m0_ 777 ls []) := by
                                    intro H locs ls hW hS hl
                                    refine lv_iload hx hb dL_law_777 (lv_at hl 0 rfl) ?_
                                    refine lv_iconst (v := 1) hx hb dL_law_779 (by decide) ?_
                                    refine lv_icmp_ne (tgt := 838) hx hb dL_law_780 (by decide) (fun c_780 => ?_) (fun c_780 => ?_)
                                    · exact J838 _ _ _ hW hS (lv_sub hl [0, 1, 2, 3, 4, 5, 6, 7, 8, 9, 10, 11, 12, 13, 14, 15, 16, 17, 18, 19, 20, 21, 22, 23, 24, 25] rfl)
                                    · refine lv_iload hx hb dL_law_783 (lv_at hl 7 rfl) ?_
                                      refine lv_if_le (tgt := 838) hx hb dL_law_785 (by decide) (fun c_785 => ?_) (fun c_785 => ?_)
                                      · exact J838 _ _ _ hW hS (lv_sub hl [0, 1, 2, 3, 4, 5, 6, 7, 8, 9, 10, 11, 12, 13, 14, 15, 16, 17, 18, 19, 20, 21, 22, 23, 24, 25] rfl)
                                      · obtain ⟨hh, hh1, hh12, hhe, hhp⟩ : ∃ h, 1 ≤ h ∧ h ≤ 12 ∧ zm = nI h ∧ (RS9 j_526 hd9 (upd v1_125x1 1 (nI h), 0, (-1))).1 7 = v1_125x1 7 := by
                                          rcases hmost with e9 | ⟨h9, z1, z2, z3, z4⟩
                                          · exact absurd (show zm ≤ 0 from by rw [e9]; decide) c_785
                                          · exact ⟨h9, z1, z2, z3, of_decide_eq_true z4⟩
                                        rw [hhe] at hl
                                        refine lv_aload_n hx hb dL_law_788 rfl (lv_at hl 18 rfl) ?_
                                        refine lv_iload hx hb dL_law_789 (lv_at hl 7 rfl) ?_
                                        refine q_ci (va_runV (As := [.int (nI hh)]) (rest := []) ⟨hx, hb, hml, hown, hts⟩ (ja_setServings l E f_704 n_704 n (n + 55) n_65 N k_76 s1_704 (fun q => q = n_566) (BB + 100 + 100) pn NR (nI ac) hd9 v1_125x1 v1_125x1 RS9 (nI hh) hJ_704 (fun q x e => hW.lt e) (b_in1 (L := 12) (by decide) hh1 hh12) (hgm.serv hh1 hh12)) (cwV 1 hts gL_law_X12_setServings rfl rfl rfl (by decide +kernel) ⟨(Nat.le_of_ble_eq_true rfl), (Nat.le_of_ble_eq_true rfl)⟩) (q_pV hA hW hS (ci := 12) rfl (Classical.choose_spec (Classical.choose_spec (Classical.choose_spec (Classical.choose_spec (Classical.choose_spec (Classical.choose_spec (Classical.choose_spec hJ_704.cell)))))))) rfl rfl hl.1 rfl (lv_room (Nat.le_of_ble_eq_true rfl)) dL_law_791 ⟨(by show _ ≤ 600086; omega), (by show _ ≤ 7301441; omega)⟩) hS (fun r_791 f_791 n_791 H locs hp hW hS => ?_)
                                        obtain ⟨rfl, eJ_791, en_791, hfr_791⟩ := hp
                                        refine lv_iload hx hb dL_law_794 (lv_at hl 1 rfl) ?_
                                        refine lv_icmp_ne (tgt := 818) hx hb dL_law_796 (by decide) (fun c_796 => False.elim ((fun h9 => h9 rfl) c_796)) (fun c_796 => ?_)
                                        refine lv_aload_n hx hb dL_law_799 rfl (lv_at hl 18 rfl) ?_
                                        refine lv_iload hx hb dL_law_800 (lv_at hl 12 rfl) ?_
                                        have hgk9 : ∀ u, VG (BB + 100 + 100) pn hd9 u → VG (BB + 100 + 100 + 100) pn hd9 (RS9 j_526 hd9 (u, 0, (-1))).1 := fun u hu => VG.of_ev hev1 hev2 (by omega) hu
                                        refine q_ci (va_runV (As := [.int (nI j_526)]) (rest := []) ⟨hx, hb, hml, hown, hts⟩ (ja_cook l E f_791 n_791 n (n + 55) n_65 N k_76 s1_704 (fun q => q = n_566) (BB + 100 + 100) pn NR (nI ac) hd9 (upd v1_125x1 1 (nI hh)) v1_125x1 RS9 j_526 eJ_791 (fun q x e => hW.lt e) (by omega) ej_526 (hgk9 _ (hgm.serv hh1 hh12))) (cwV 1 hts gL_law_X12_cook rfl rfl rfl (by decide +kernel) ⟨(Nat.le_of_ble_eq_true rfl), (Nat.le_of_ble_eq_true rfl)⟩) (q_pV hA hW hS (ci := 12) rfl (Classical.choose_spec (Classical.choose_spec (Classical.choose_spec (Classical.choose_spec (Classical.choose_spec (Classical.choose_spec (Classical.choose_spec eJ_791.cell)))))))) rfl rfl hl.1 rfl (lv_room (Nat.le_of_ble_eq_true rfl)) dL_law_802 ⟨(by show _ ≤ 600086; omega), (by show _ ≤ 7301441; omega)⟩) hS (fun r_802 f_802 n_802 H locs hp hW hS => ?_)
                                        obtain ⟨rfl, eJ_802, en_802, hfr_802⟩ := hp
                                        obtain ⟨mm8, dW8, hmm8, -, hm38, -, -⟩ := rec_f hev1 hev2 (show BB + 100 + 100 ≤ 2 ^ 29 by omega) (hgm.serv hh1 hh12)
                                        rw [show (RS9 j_526 hd9 (upd v1_125x1 1 (nI hh), 0, (-1))).1 3 - (upd v1_125x1 1 (nI hh)) 3 = nI mm8 from by rw [hm38]; exact sub_add_nI]
                                        refine lv_if_lt (tgt := 818) hx hb dL_law_805 (by decide) (fun c_805 => absurd c_805 (nI_pos (by omega))) (fun c_805 => ?_)
                                        refine lv_aload_n hx hb dL_law_808 rfl (lv_at hl 18 rfl) ?_
                                        refine lv_iconst (v := 1) hx hb dL_law_809 (by decide) ?_
                                        refine q_ci (va_runV (As := [.int 1]) (rest := []) ⟨hx, hb, hml, hown, hts⟩ (ja_warningsOf l E f_802 n_802 n (n + 55) n_65 N k_76 s1_704 (fun q => q = n_566) (BB + 100 + 100 + 100) pn NR (nI ac) hd9 ((RS9 j_526 hd9 (upd v1_125x1 1 (nI hh), 0, (-1))).1) v1_125x1 RS9 1 eJ_802 (fun q x e => hW.lt e) (by decide) (by decide)) (cwV 1 hts gL_law_X12_warningsOf rfl rfl rfl (by decide +kernel) ⟨(Nat.le_of_ble_eq_true rfl), (Nat.le_of_ble_eq_true rfl)⟩) (q_pV hA hW hS (ci := 12) rfl (Classical.choose_spec (Classical.choose_spec (Classical.choose_spec (Classical.choose_spec (Classical.choose_spec (Classical.choose_spec (Classical.choose_spec eJ_802.cell)))))))) rfl rfl hl.1 rfl (lv_room (Nat.le_of_ble_eq_true rfl)) dL_law_810 ⟨(by show _ ≤ 600086; omega), (by show _ ≤ 7301441; omega)⟩) hS (fun r_810 f_810 n_810 H locs hp hW hS => ?_)
                                        obtain ⟨rfl, rfl, rfl⟩ := hp
                                        have hW : q_W E (f_802) n_802 H := hW
                                        rw [show (RS9 j_526 hd9 (upd v1_125x1 1 (nI hh), 0, (-1))).1 (6 + 1) = v1_125x1 7 from hhp]
                                        refine lv_iload hx hb dL_law_813 (lv_at hl 4 rfl) ?_
                                        refine lv_icmp_eq (tgt := 820) hx hb dL_law_815 (by decide) (fun c_815 => ?_) (fun c_815 => False.elim ((fun h9 => h9 rfl) c_815))
                                        refine lv_aload hx hb dL_law_820 (lv_at hl 22 rfl) ?_
                                        refine lv_iload hx hb dL_law_822 (lv_at hl 7 rfl) ?_
                                        obtain ⟨P_824, pa_824, re_824, ki_824, wa_824, no_824, pr_824, b_824, w_824, hK_824, hs_824, hR_824, hO_824, hXk_824, hck_824⟩ := eJ_802.k
                                        obtain ⟨hk0_824, ⟨gk_824, hki_824, hkv_824⟩, ⟨gw_824, hwa_824, hwv_824⟩, ⟨gn_824, hno_824, hnv_824⟩, ⟨gp_824, hpa_824, hpv_824⟩, hrow_824⟩ := id hK_824
                                        obtain ⟨gre_824, hPre_824, hre_824, -⟩ := id hR_824
                                        have lk_824 := hW.lt hk0_824
                                        have lki_824 := hW.lt hki_824
                                        have lwa_824 := hW.lt hwa_824
                                        have lno_824 := hW.lt hno_824
                                        have lpa_824 := hW.lt hpa_824
                                        have nk_824 := eJ_802.ne
                                        have npa_824 := ne_ab eJ_802.dice hpa_824
                                        have nre_824 := ne_ab eJ_802.dice hre_824
                                        have nki_824 := ne_ab eJ_802.dice hki_824
                                        have nwa_824 := ne_ab eJ_802.dice hwa_824
                                        have nno_824 := ne_ab eJ_802.dice hno_824
                                        have lre_824 := hW.lt hre_824
                                        refine q_put hx hb hts hown hA hW hS iX15 tyX15 tyX15_ok nmX15 hk0_824 rfl 1 (by decide) (hts (.fieldLink RL 108 "HighRecipesLaw$Kitchen" "servings" "I") (by decide +kernel)) (fun _ h9 => h9) rfl rfl rfl (Nat.le_of_ble_eq_true rfl) dL_law_824 (fun H locs hW hS => ?_)
                                        have hW : q_W E (va_up f_802 k_76 (some (cLK (v1_125x1 0) (nI hh) (v1_125x1 2) (v1_125x1 3) (some pa_824) (some re_824) (some ki_824) (some wa_824) (some no_824) (v1_125x1 5) (nI b_824) w_824))) n_802 H := hW
                                        obtain ⟨hJ_824, hX_824, -⟩ := hck_824 _ n_802 (BB + 100 + 100 + 100) (upd v1_125x1 1 (nI hh), b_824, w_824) (Nat.le_refl _) ⟨wa_824, no_824, pr_824, (LK.head (b' := b_824) (w' := w_824) hK_824 (v' := upd v1_125x1 1 (nI hh)) rfl (fun q hq => if_neg (by omega))), hs_824, PRN.rf, Nat.le_refl _, (fun z a1 a2 a3 a4 a5 => va_up_ne _ _ a1)⟩ ((hgm.serv hh1 hh12).more (by omega))
                                        refine lv_aload hx hb dL_law_827 (lv_at hl 22 rfl) ?_
                                        refine lv_iload hx hb dL_law_829 (lv_at hl 12 rfl) ?_
                                        obtain ⟨P_831, pa_831, re_831, ki_831, wa_831, no_831, pr_831, b_831, w_831, hK_831, hs_831, hR_831, hO_831, hXk_831, hck_831⟩ := hJ_824.k
                                        obtain ⟨hk0_831, ⟨gk_831, hki_831, hkv_831⟩, ⟨gw_831, hwa_831, hwv_831⟩, ⟨gn_831, hno_831, hnv_831⟩, ⟨gp_831, hpa_831, hpv_831⟩, hrow_831⟩ := id hK_831
                                        obtain ⟨gre_831, hPre_831, hre_831, -⟩ := id hR_831
                                        have lk_831 := hW.lt hk0_831
                                        have lki_831 := hW.lt hki_831
                                        have lwa_831 := hW.lt hwa_831
                                        have lno_831 := hW.lt hno_831
                                        have lpa_831 := hW.lt hpa_831
                                        have nk_831 := hJ_824.ne
                                        have npa_831 := ne_ab hJ_824.dice hpa_831
                                        have nre_831 := ne_ab hJ_824.dice hre_831
                                        have nki_831 := ne_ab hJ_824.dice hki_831
                                        have nwa_831 := ne_ab hJ_824.dice hwa_831
                                        have nno_831 := ne_ab hJ_824.dice hno_831
                                        have lre_831 := hW.lt hre_831
                                        refine q_ci (va_runV (As := [.int (nI j_526)]) (rest := []) ⟨hx, hb, hml, hown, hts⟩ (kX15_cook l E (va_up f_802 k_76 (some (cLK (v1_125x1 0) (nI hh) (v1_125x1 2) (v1_125x1 3) (some pa_824) (some re_824) (some ki_824) (some wa_824) (some no_824) (v1_125x1 5) (nI b_824) w_824))) n_802 k_76 pa_831 re_831 ki_831 wa_831 no_831 pn pr_831 hd9 (upd v1_125x1 1 (nI hh)) b_831 w_831 (BB + 100 + 100) P_831 NR j_526 RS9 hK_831 hs_831 (by omega) (hgm.serv hh1 hh12).1 (by omega) (hgm.serv hh1 hh12).2.2 hO_831 hR_831 ej_526) (cwV 1 hts gL_law_X15_cook rfl rfl rfl (by decide +kernel) ⟨(Nat.le_of_ble_eq_true rfl), (Nat.le_of_ble_eq_true rfl)⟩) (q_pV hA hW hS (ci := 15) rfl q_eq) rfl rfl hl.1 rfl (lv_room (Nat.le_of_ble_eq_true rfl)) dL_law_831 ⟨(by show _ ≤ 600086; omega), (by show _ ≤ 7301441; omega)⟩) hS (fun r_831 f_831 n_831 H locs hp hW hS => ?_)
                                        obtain ⟨rfl, hB_831⟩ := hp
                                        obtain ⟨hJ_831, hX_831, hnn_831⟩ := hck_831 f_831 n_831 (BB + 100 + 100 + 100) (RS9 j_526 hd9 (upd v1_125x1 1 (nI hh), 0, (-1))) (by omega) hB_831 (hgk9 _ (hgm.serv hh1 hh12))
                                        refine lv_pop hx hb dL_law_834 rfl ?_
                                        refine lv_goto (tgt := 1090) hx hb dL_law_835 (by decide) ?_
                                        refine lv_iinc (v := nI (sp + 1)) (lv' := [(8, .int (nI (sp + 1))), (28, .int (nI j_704)), (27, .int (v1_125x1 1)), (26, .int (v1_125x1 0)), (25, .int (v1_125x1 3)), (24, .int (v1_125x1 7)), (23, .int (v1_125x1 4)), (22, .ref n_566), (21, .int (nI hh)), (20, .int zs), (19, .int ((RS9 j_526 hd9 (v1_125x1, 0, (-1))).2.2)), (18, .int (nI dW)), (17, .int (nI mm)), (16, .int (nI j_526)), (15, .int (nI j_423)), (14, .int (nI j_414)), (11, .int (nI (k_T v1_125x1))), (9, .long (z_dig pn (nI NR) (nI ac) hd9 v1_125x1 (k_T v1_125x1) (k_N v1_125x1))), (0, .ref (E.2.2.2 108)), (1, .ref n), (2, .ref (n + 55)), (3, .int (nI tm)), (4, .ref N), (6, .ref k_76), (7, .int (nI pn)), (12, .double (FP.i2d (z_sum v1_125x1 pn)))]) hx hb dL_law_1090 hl (k := 24) rfl (nI_1 sp) (by decide) rfl (fun ls hl => ?_)
                                        refine lv_goto (tgt := 104) hx hb dL_law_1093 (by decide) ?_
                                        refine W.widen (k := 110 + 26000 * tm + 21000 + 450 * (sp + 1)) (n := 6614 + 1700000 * tm + 1480000 + 9000 * (sp + 1)) (by omega) (by omega) ?_
                                        exact ihS f_831 n_831 (sp + 1) ((RS9 j_526 hd9 (upd v1_125x1 1 (nI hh), 0, (-1))).1) s1_704 (BB + 100 + 100 + 100) hJ_831.drop (by omega) hsl (by omega) (ms_lt hmS hsl) _ _ _ hW hS (lv_sub hl [18, 19, 20, 21, 22, 23, 24, 0] rfl)
                                  refine lv_iload hx hb dL_law_709 (lv_at hl 0 rfl) ?_
                                  refine lv_if_ne (tgt := 777) hx hb dL_law_711 (by decide) (fun c_711 => ?_) (fun c_711 => ?_)
                                  · exact J777 _ _ _ hW hS (lv_sub hl [0, 1, 2, 3, 4, 5, 6, 7, 8, 9, 10, 11, 12, 13, 14, 15, 16, 17, 18, 19, 20, 21, 22, 23, 24, 25] rfl)
                                  · refine lv_iload hx hb dL_law_714 (lv_at hl 8 rfl) ?_
                                    refine lv_if_lt (tgt := 777) hx hb dL_law_716 (by decide) (fun c_716 => ?_) (fun c_716 => ?_)
                                    · exact J777 _ _ _ hW hS (lv_sub hl [0, 1, 2, 3, 4, 5, 6, 7, 8, 9, 10, 11, 12, 13, 14, 15, 16, 17, 18, 19, 20, 21, 22, 23, 24, 25] rfl)
                                    · obtain ⟨hh, hh61, hhe, hhp⟩ : ∃ h, h < 61 ∧ zs = nI h ∧ (RS9 j_526 hd9 (z_move v1_125x1 (nI h) pn, 0, (-1))).1 4 = v1_125x1 4 := by
                                        rcases hsafe with e9 | ⟨h9, z1, z2, z3⟩
                                        · exact absurd (show zs < 0 from by rw [e9]; decide) c_716
                                        · exact ⟨h9, z1, z2, of_decide_eq_true z3⟩
                                      rw [hhe] at hl
                                      refine lv_aload_n hx hb dL_law_719 rfl (lv_at hl 18 rfl) ?_
                                      refine lv_iload hx hb dL_law_720 (lv_at hl 8 rfl) ?_
                                      refine q_ci (va_runV (As := [.int (nI hh)]) (rest := []) ⟨hx, hb, hml, hown, hts⟩ (ja_setAltitude l E f_704 n_704 n (n + 55) n_65 N k_76 s1_704 (fun q => q = n_566) (BB + 100 + 100) pn NR (nI ac) hd9 v1_125x1 v1_125x1 RS9 (nI hh) hJ_704 (fun q x e => hW.lt e) (b_in_nI (L := 60) (by decide) (by omega)) (hgm.move (by omega))) (cwV 1 hts gL_law_X12_setAltitude rfl rfl rfl (by decide +kernel) ⟨(Nat.le_of_ble_eq_true rfl), (Nat.le_of_ble_eq_true rfl)⟩) (q_pV hA hW hS (ci := 12) rfl (Classical.choose_spec (Classical.choose_spec (Classical.choose_spec (Classical.choose_spec (Classical.choose_spec (Classical.choose_spec (Classical.choose_spec hJ_704.cell)))))))) rfl rfl hl.1 rfl (lv_room (Nat.le_of_ble_eq_true rfl)) dL_law_722 ⟨(by show _ ≤ 600086; omega), (by show _ ≤ 7301441; omega)⟩) hS (fun r_722 f_722 n_722 H locs hp hW hS => ?_)
                                      obtain ⟨rfl, eJ_722, en_722, hfr_722⟩ := hp
                                      refine lv_iload hx hb dL_law_725 (lv_at hl 2 rfl) ?_
                                      refine lv_icmp_ne (tgt := 757) hx hb dL_law_727 (by decide) (fun c_727 => False.elim ((fun h9 => h9 rfl) c_727)) (fun c_727 => ?_)
                                      refine lv_aload_n hx hb dL_law_730 rfl (lv_at hl 18 rfl) ?_
                                      refine lv_iload hx hb dL_law_731 (lv_at hl 12 rfl) ?_
                                      have hmv4 : (z_move v1_125x1 (nI hh) pn) 4 = v1_125x1 4 := z_move_n (i := 0) (by decide) (by omega)
                                      refine q_ci (va_runV (As := [.int (nI j_526)]) (rest := []) ⟨hx, hb, hml, hown, hts⟩ (ja_warningsOfRecipe l E f_722 n_722 n (n + 55) n_65 N k_76 s1_704 (fun q => q = n_566) (BB + 100 + 100) pn NR (nI ac) hd9 (z_move v1_125x1 (nI hh) pn) v1_125x1 RS9 j_526 eJ_722 (fun q x e => hW.lt e) (by omega) ej_526) (cwV 1 hts gL_law_X12_warningsOfRecipe rfl rfl rfl (by decide +kernel) ⟨(Nat.le_of_ble_eq_true rfl), (Nat.le_of_ble_eq_true rfl)⟩) (q_pV hA hW hS (ci := 12) rfl (Classical.choose_spec (Classical.choose_spec (Classical.choose_spec (Classical.choose_spec (Classical.choose_spec (Classical.choose_spec (Classical.choose_spec eJ_722.cell)))))))) rfl rfl hl.1 rfl (lv_room (Nat.le_of_ble_eq_true rfl)) dL_law_733 ⟨(by show _ ≤ 600086; omega), (by show _ ≤ 7301441; omega)⟩) hS (fun r_733 f_733 n_733 H locs hp hW hS => ?_)
                                      obtain ⟨rfl, eJ_733, en_733, hfr_733⟩ := hp
                                      rw [hhp, hmv4, Int32.sub_self]
                                      refine lv_if_ne (tgt := 757) hx hb dL_law_736 (by decide) (fun c_736 => absurd c_736 (by decide)) (fun c_736 => ?_)
                                      refine lv_aload_n hx hb dL_law_739 rfl (lv_at hl 18 rfl) ?_
                                      refine lv_iload hx hb dL_law_740 (lv_at hl 12 rfl) ?_
                                      have hgk9 : ∀ u, VG (BB + 100 + 100) pn hd9 u → VG (BB + 100 + 100 + 100) pn hd9 (RS9 j_526 hd9 (u, 0, (-1))).1 := fun u hu => VG.of_ev hev1 hev2 (by omega) hu
                                      refine q_ci (va_runV (As := [.int (nI j_526)]) (rest := []) ⟨hx, hb, hml, hown, hts⟩ (ja_cook l E f_733 n_733 n (n + 55) n_65 N k_76 s1_704 (fun q => q = n_566) (BB + 100 + 100) pn NR (nI ac) hd9 (z_move v1_125x1 (nI hh) pn) v1_125x1 RS9 j_526 eJ_733 (fun q x e => hW.lt e) (by omega) ej_526 (hgk9 _ (hgm.move (by omega)))) (cwV 1 hts gL_law_X12_cook rfl rfl rfl (by decide +kernel) ⟨(Nat.le_of_ble_eq_true rfl), (Nat.le_of_ble_eq_true rfl)⟩) (q_pV hA hW hS (ci := 12) rfl (Classical.choose_spec (Classical.choose_spec (Classical.choose_spec (Classical.choose_spec (Classical.choose_spec (Classical.choose_spec (Classical.choose_spec eJ_733.cell)))))))) rfl rfl hl.1 rfl (lv_room (Nat.le_of_ble_eq_true rfl)) dL_law_742 ⟨(by show _ ≤ 600086; omega), (by show _ ≤ 7301441; omega)⟩) hS (fun r_742 f_742 n_742 H locs hp hW hS => ?_)
                                      obtain ⟨rfl, eJ_742, en_742, hfr_742⟩ := hp
                                      obtain ⟨mm8, dW8, hmm8, -, hm38, -, -⟩ := rec_f hev1 hev2 (show BB + 100 + 100 ≤ 2 ^ 29 by omega) (hgm.move (al := hh) (by omega))
                                      rw [show (RS9 j_526 hd9 (z_move v1_125x1 (nI hh) pn, 0, (-1))).1 3 - (z_move v1_125x1 (nI hh) pn) 3 = nI mm8 from by rw [hm38]; exact sub_add_nI]
                                      refine lv_if_lt (tgt := 757) hx hb dL_law_745 (by decide) (fun c_745 => absurd c_745 (nI_pos (by omega))) (fun c_745 => ?_)
                                      refine lv_aload_n hx hb dL_law_748 rfl (lv_at hl 18 rfl) ?_
                                      refine q_ci (va_runV (As := []) (rest := []) ⟨hx, hb, hml, hown, hts⟩ (ja_warnings l E f_742 n_742 n (n + 55) n_65 N k_76 s1_704 (fun q => q = n_566) (BB + 100 + 100 + 100) pn NR (nI ac) hd9 ((RS9 j_526 hd9 (z_move v1_125x1 (nI hh) pn, 0, (-1))).1) v1_125x1 RS9 eJ_742 (fun q x e => hW.lt e)) (cwV 0 hts gL_law_X12_warnings rfl rfl rfl (by decide +kernel) ⟨(Nat.le_of_ble_eq_true rfl), (Nat.le_of_ble_eq_true rfl)⟩) (q_pV hA hW hS (ci := 12) rfl (Classical.choose_spec (Classical.choose_spec (Classical.choose_spec (Classical.choose_spec (Classical.choose_spec (Classical.choose_spec (Classical.choose_spec eJ_742.cell)))))))) rfl rfl hl.1 rfl (lv_room (Nat.le_of_ble_eq_true rfl)) dL_law_749 ⟨(by show _ ≤ 600086; omega), (by show _ ≤ 7301441; omega)⟩) hS (fun r_749 f_749 n_749 H locs hp hW hS => ?_)
                                      obtain ⟨rfl, rfl, rfl⟩ := hp
                                      have hW : q_W E (f_742) n_742 H := hW
                                      rw [hhp]
                                      refine lv_iload hx hb dL_law_752 (lv_at hl 5 rfl) ?_
                                      refine lv_icmp_eq (tgt := 759) hx hb dL_law_754 (by decide) (fun c_754 => ?_) (fun c_754 => False.elim ((fun h9 => h9 rfl) c_754))
                                      refine lv_aload hx hb dL_law_759 (lv_at hl 22 rfl) ?_
                                      refine lv_iload hx hb dL_law_761 (lv_at hl 8 rfl) ?_
                                      obtain ⟨P_763, pa_763, re_763, ki_763, wa_763, no_763, pr_763, b_763, w_763, hK_763, hs_763, hR_763, hO_763, hXk_763, hck_763⟩ := eJ_742.k
                                      obtain ⟨hk0_763, ⟨gk_763, hki_763, hkv_763⟩, ⟨gw_763, hwa_763, hwv_763⟩, ⟨gn_763, hno_763, hnv_763⟩, ⟨gp_763, hpa_763, hpv_763⟩, hrow_763⟩ := id hK_763
                                      obtain ⟨gre_763, hPre_763, hre_763, -⟩ := id hR_763
                                      have lk_763 := hW.lt hk0_763
                                      have lki_763 := hW.lt hki_763
                                      have lwa_763 := hW.lt hwa_763
                                      have lno_763 := hW.lt hno_763
                                      have lpa_763 := hW.lt hpa_763
                                      have nk_763 := eJ_742.ne
                                      have npa_763 := ne_ab eJ_742.dice hpa_763
                                      have nre_763 := ne_ab eJ_742.dice hre_763
                                      have nki_763 := ne_ab eJ_742.dice hki_763
                                      have nwa_763 := ne_ab eJ_742.dice hwa_763
                                      have nno_763 := ne_ab eJ_742.dice hno_763
                                      have lre_763 := hW.lt hre_763
                                      refine q_cv (va_runV (As := [.int (nI hh)]) (rest := []) ⟨hx, hb, hml, hown, hts⟩ (kX15_climb l E f_742 n_742 k_76 pa_763 re_763 ki_763 wa_763 no_763 pn pr_763 hd9 v1_125x1 b_763 w_763 hh hK_763 hs_763 (by omega) (by omega) hvo) (cwV 1 hts gL_law_X15_climb rfl rfl rfl (by decide +kernel) ⟨(Nat.le_of_ble_eq_true rfl), (Nat.le_of_ble_eq_true rfl)⟩) (q_pV hA hW hS (ci := 15) rfl hk0_763) rfl rfl hl.1 rfl (lv_room (Nat.le_of_ble_eq_true rfl)) dL_law_763 ⟨(by show _ ≤ 600086; omega), (by show _ ≤ 7301441; omega)⟩) hS (fun f_763 n_763 H locs hp hW hS => ?_)
                                      obtain ⟨eK_763, en_763, hfr_763⟩ := hp
                                      obtain ⟨hJ_763, hX_763, hnn_763⟩ := hck_763 f_763 n_763 (BB + 100 + 100 + 100) ((z_move v1_125x1 (nI hh) pn, b_763, w_763)) (by omega) ⟨wa_763, no_763, pr_763, eK_763, hs_763, PRN.rf, (by omega), (fun z a1 a2 a3 a4 a5 => hfr_763 z a1 a4 a5)⟩ ((hgm.move (by omega)).more (by omega))
                                      refine lv_aload hx hb dL_law_766 (lv_at hl 22 rfl) ?_
                                      refine lv_iload hx hb dL_law_768 (lv_at hl 12 rfl) ?_
                                      obtain ⟨P_770, pa_770, re_770, ki_770, wa_770, no_770, pr_770, b_770, w_770, hK_770, hs_770, hR_770, hO_770, hXk_770, hck_770⟩ := hJ_763.k
                                      obtain ⟨hk0_770, ⟨gk_770, hki_770, hkv_770⟩, ⟨gw_770, hwa_770, hwv_770⟩, ⟨gn_770, hno_770, hnv_770⟩, ⟨gp_770, hpa_770, hpv_770⟩, hrow_770⟩ := id hK_770
                                      obtain ⟨gre_770, hPre_770, hre_770, -⟩ := id hR_770
                                      have lk_770 := hW.lt hk0_770
                                      have lki_770 := hW.lt hki_770
                                      have lwa_770 := hW.lt hwa_770
                                      have lno_770 := hW.lt hno_770
                                      have lpa_770 := hW.lt hpa_770
                                      have nk_770 := hJ_763.ne
                                      have npa_770 := ne_ab hJ_763.dice hpa_770
                                      have nre_770 := ne_ab hJ_763.dice hre_770
                                      have nki_770 := ne_ab hJ_763.dice hki_770
                                      have nwa_770 := ne_ab hJ_763.dice hwa_770
                                      have nno_770 := ne_ab hJ_763.dice hno_770
                                      have lre_770 := hW.lt hre_770
                                      refine q_ci (va_runV (As := [.int (nI j_526)]) (rest := []) ⟨hx, hb, hml, hown, hts⟩ (kX15_cook l E f_763 n_763 k_76 pa_770 re_770 ki_770 wa_770 no_770 pn pr_770 hd9 (z_move v1_125x1 (nI hh) pn) b_770 w_770 (BB + 100 + 100) P_770 NR j_526 RS9 hK_770 hs_770 (by omega) (hgm.move (by omega)).1 (by omega) (hgm.move (by omega)).2.2 hO_770 hR_770 ej_526) (cwV 1 hts gL_law_X15_cook rfl rfl rfl (by decide +kernel) ⟨(Nat.le_of_ble_eq_true rfl), (Nat.le_of_ble_eq_true rfl)⟩) (q_pV hA hW hS (ci := 15) rfl hk0_770) rfl rfl hl.1 rfl (lv_room (Nat.le_of_ble_eq_true rfl)) dL_law_770 ⟨(by show _ ≤ 600086; omega), (by show _ ≤ 7301441; omega)⟩) hS (fun r_770 f_770 n_770 H locs hp hW hS => ?_)
                                      obtain ⟨rfl, hB_770⟩ := hp
                                      obtain ⟨hJ_770, hX_770, hnn_770⟩ := hck_770 f_770 n_770 (BB + 100 + 100 + 100) (RS9 j_526 hd9 (z_move v1_125x1 (nI hh) pn, 0, (-1))) (by omega) hB_770 (hgk9 _ (hgm.move (by omega)))
                                      refine lv_pop hx hb dL_law_773 rfl ?_
                                      refine lv_goto (tgt := 1090) hx hb dL_law_774 (by decide) ?_
                                      refine lv_iinc (v := nI (sp + 1)) (lv' := [(8, .int (nI (sp + 1))), (28, .int (nI j_704)), (27, .int (v1_125x1 1)), (26, .int (v1_125x1 0)), (25, .int (v1_125x1 3)), (24, .int (v1_125x1 7)), (23, .int (v1_125x1 4)), (22, .ref n_566), (21, .int zm), (20, .int (nI hh)), (19, .int ((RS9 j_526 hd9 (v1_125x1, 0, (-1))).2.2)), (18, .int (nI dW)), (17, .int (nI mm)), (16, .int (nI j_526)), (15, .int (nI j_423)), (14, .int (nI j_414)), (11, .int (nI (k_T v1_125x1))), (9, .long (z_dig pn (nI NR) (nI ac) hd9 v1_125x1 (k_T v1_125x1) (k_N v1_125x1))), (0, .ref (E.2.2.2 108)), (1, .ref n), (2, .ref (n + 55)), (3, .int (nI tm)), (4, .ref N), (6, .ref k_76), (7, .int (nI pn)), (12, .double (FP.i2d (z_sum v1_125x1 pn)))]) hx hb dL_law_1090 hl (k := 24) rfl (nI_1 sp) (by decide) rfl (fun ls hl => ?_)
                                      refine lv_goto (tgt := 104) hx hb dL_law_1093 (by decide) ?_
                                      refine W.widen (k := 110 + 26000 * tm + 21000 + 450 * (sp + 1)) (n := 6614 + 1700000 * tm + 1480000 + 9000 * (sp + 1)) (by omega) (by omega) ?_
                                      exact ihS f_770 n_770 (sp + 1) ((RS9 j_526 hd9 (z_move v1_125x1 (nI hh) pn, 0, (-1))).1) s1_704 (BB + 100 + 100 + 100) hJ_770.drop (by omega) hsl (by omega) (ms_lt hmS hsl) _ _ _ hW hS (lv_sub hl [18, 19, 20, 21, 22, 23, 24, 0] rfl)
                                refine lv_iload hx hb dL_law_616 (lv_at hl 5 rfl) ?_
                                refine lv_if_lt (tgt := 668) hx hb dL_law_618 (by decide) (fun c_618 => absurd c_618 (nI_pos (by omega))) (fun c_618 => ?_)
                                refine lv_iload hx hb dL_law_621 (lv_at hl 4 rfl) ?_
                                refine lv_if_lt (tgt := 668) hx hb dL_law_623 (by decide) (fun c_623 => absurd c_623 (nI_pos (by omega))) (fun c_623 => ?_)
                                refine lv_iload hx hb dL_law_626 (lv_at hl 4 rfl) ?_
                                refine lv_bipush (v := 100) hx hb dL_law_628 (by decide) ?_
                                refine lv_icmp_gt (tgt := 668) hx hb dL_law_630 (by decide) (fun c_630 => absurd c_630 (nI_nlt (a := 100) (b := dW) hdW (by decide))) (fun c_630 => ?_)
                                rcases hfw with ⟨hf1, hf2⟩ | ⟨jw, hf1, hf2, hf3, hf4⟩
                                · have hl0 := hl
                                  rw [hf1, hf2, show nI 0 = 0 from rfl] at hl
                                  refine lv_iload hx hb dL_law_633 (lv_at hl 3 rfl) ?_
                                  refine lv_if_ge (tgt := 642) hx hb dL_law_635 (by decide) (fun c_635 => absurd c_635 (by decide)) (fun c_635 => ?_)
                                  refine lv_iconst (v := 1) hx hb dL_law_638 (by decide) ?_
                                  refine lv_goto (tgt := 643) hx hb dL_law_639 (by decide) ?_
                                  refine lv_iload hx hb dL_law_643 (lv_at hl 4 rfl) ?_
                                  refine lv_if_ne (tgt := 652) hx hb dL_law_645 (by decide) (fun c_645 => absurd c_645 (by decide)) (fun c_645 => ?_)
                                  refine lv_iconst (v := 1) hx hb dL_law_648 (by decide) ?_
                                  refine lv_goto (tgt := 653) hx hb dL_law_649 (by decide) ?_
                                  refine lv_icmp_ne (tgt := 668) hx hb dL_law_653 (by decide) (fun c_653 => absurd c_653 (by decide)) (fun c_653 => ?_)
                                  refine lv_iload hx hb dL_law_656 (lv_at hl 3 rfl) ?_
                                  refine lv_if_eq (tgt := 668) hx hb dL_law_658 (by decide) (fun c_658 => absurd c_658 (by decide)) (fun c_658 => ?_)
                                  refine lv_iload hx hb dL_law_661 (lv_at hl 3 rfl) ?_
                                  refine lv_bipush (v := 100) hx hb dL_law_663 (by decide) ?_
                                  refine lv_icmp_le (tgt := 670) hx hb dL_law_665 (by decide) (fun c_665 => ?_) (fun c_665 => absurd c_665 (by decide))
                                  exact J670 _ _ _ hW hS (lv_sub hl0 [0, 1, 2, 3, 4, 5, 6, 7, 8, 9, 10, 11, 12, 13, 14, 15, 16, 17, 18, 19, 20] rfl)
                                · have hl0 := hl
                                  rw [hf1] at hl
                                  refine lv_iload hx hb dL_law_633 (lv_at hl 3 rfl) ?_
                                  refine lv_if_ge (tgt := 642) hx hb dL_law_635 (by decide) (fun c_635 => ?_) (fun c_635 => absurd (nI_pos' (by omega)) c_635)
                                  refine lv_iconst (v := 0) hx hb dL_law_642 (by decide) ?_
                                  refine lv_iload hx hb dL_law_643 (lv_at hl 4 rfl) ?_
                                  refine lv_if_ne (tgt := 652) hx hb dL_law_645 (by decide) (fun c_645 => ?_) (fun c_645 => False.elim ((fun h9 => nI_ne (a := dW) (b := 0) (by omega) (by decide) (by omega) h9) c_645))
                                  refine lv_iconst (v := 0) hx hb dL_law_652 (by decide) ?_
                                  refine lv_icmp_ne (tgt := 668) hx hb dL_law_653 (by decide) (fun c_653 => absurd c_653 (by decide)) (fun c_653 => ?_)
                                  refine lv_iload hx hb dL_law_656 (lv_at hl 3 rfl) ?_
                                  refine lv_if_eq (tgt := 668) hx hb dL_law_658 (by decide) (fun c_658 => absurd c_658 (nI_ne (b := 0) (by omega) (by decide) (by omega))) (fun c_658 => ?_)
                                  refine lv_iload hx hb dL_law_661 (lv_at hl 3 rfl) ?_
                                  refine lv_bipush (v := 100) hx hb dL_law_663 (by decide) ?_
                                  refine lv_icmp_le (tgt := 670) hx hb dL_law_665 (by decide) (fun c_665 => ?_) (fun c_665 => absurd (nI_le (b := 100) hf3 (by decide)) c_665)
                                  exact J670 _ _ _ hW hS (lv_sub hl0 [0, 1, 2, 3, 4, 5, 6, 7, 8, 9, 10, 11, 12, 13, 14, 15, 16, 17, 18, 19, 20] rfl)
                              · have hl_p5 : p5 < pn := q_gtn (by omega) c_584
                                refine lv_aload hx hb dL_law_587 (lv_at hl 0 rfl) ?_
                                refine lv_iload hx hb dL_law_589 (lv_at hl 20 rfl) ?_
                                refine lv_aload_n hx hb dL_law_591 rfl (lv_at hl 12 rfl) ?_
                                refine lv_iload hx hb dL_law_592 (lv_at hl 6 rfl) ?_
                                refine lv_iload hx hb dL_law_594 (lv_at hl 20 rfl) ?_
                                refine q_ci (va_runV (As := [.int (nI j_526), .int (nI p5)]) (rest := [.int (nI p5), .ref n_566]) ⟨hx, hb, hml, hown, hts⟩ (cm_doneBehind l E F5 (n_566 + 1) n (BB + 100 + 100) Lc gc pn NR (nI ac) hd9 v1_125x1 RS9 Qc j_526 p5 hM5 (by omega) ej_526 hl_p5) (cwV 2 hts gL_law_X12_doneBehind rfl rfl rfl (by decide +kernel) ⟨(Nat.le_of_ble_eq_true rfl), (Nat.le_of_ble_eq_true rfl)⟩) (q_pV hA hW hS (ci := 12) rfl (Classical.choose_spec (Classical.choose_spec (Classical.choose_spec (Classical.choose_spec (Classical.choose_spec (Classical.choose_spec (Classical.choose_spec hM5.cell)))))))) rfl rfl hl.1 rfl (lv_room (Nat.le_of_ble_eq_true rfl)) dL_law_596 ⟨(by show _ ≤ 600086; omega), (by show _ ≤ 7301441; omega)⟩) hS (fun r_596 f_596 n_596 H locs hp hW hS => ?_)
                                obtain ⟨rfl, eM_596, en_596, hfr_596⟩ := hp
                                have hn_566_596 : f_596 n_566 = some (aI E pn gd) := (hfr_596 _ (by omega) (by omega)).trans hda5
                                refine q_iast hx hb hA hW hS hn_566_596 (vp_in_nI hl_p5 (by omega)) dL_law_599 (fun H locs hW hS => ?_)
                                rw [show (nI p5).toNatClampNeg = p5 from (nI_clamp (by omega))] at hW
                                have hW : q_W E (va_up f_596 n_566 (some (aI E pn (upd gd p5 ((RS9 j_526 hd9 (v1_125x1, 0, (-1))).1 (55 + 4 * p5)))))) n_596 H := hW
                                refine lv_iinc (v := nI (p5 + 1)) (lv' := [(23, .int (nI (p5 + 1))), (22, .ref n_566), (21, .int zm), (20, .int zs), (19, .int ((RS9 j_526 hd9 (v1_125x1, 0, (-1))).2.2)), (18, .int (nI dW)), (17, .int (nI mm)), (16, .int (nI j_526)), (15, .int (nI j_423)), (14, .int (nI j_414)), (11, .int (nI (k_T v1_125x1))), (9, .long (z_dig pn (nI NR) (nI ac) hd9 v1_125x1 (k_T v1_125x1) (k_N v1_125x1))), (0, .ref (E.2.2.2 108)), (1, .ref n), (2, .ref (n + 55)), (3, .int (nI tm)), (4, .ref N), (6, .ref k_76), (7, .int (nI pn)), (8, .int (nI sp)), (12, .double (FP.i2d (z_sum v1_125x1 pn)))]) hx hb dL_law_600 hl (k := 20) rfl (nI_1 p5) (by decide) rfl (fun ls hl => ?_)
                                refine lv_goto (tgt := 580) hx hb dL_law_603 (by decide) ?_
                                rw [en_596] at hW
                                exact ih (va_up f_596 n_566 (some (aI E pn (upd gd p5 ((RS9 j_526 hd9 (v1_125x1, 0, (-1))).1 (55 + 4 * p5)))))) (p5 + 1) (upd gd p5 ((RS9 j_526 hd9 (v1_125x1, 0, (-1))).1 (55 + 4 * p5))) (by have h8 := eM_596.frame (f1 := va_up f_596 n_566 (some (aI E pn (upd gd p5 ((RS9 j_526 hd9 (v1_125x1, 0, (-1))).1 (55 + 4 * p5)))))) (n1 := n_566 + 1) (fun q hq => va_up_ne _ _ (by have := hQc q hq; omega)) (by omega) (Nat.le_refl _); exact h8) (fun q h1 h2 => (va_up_ne _ _ (by omega)).trans ((hfr_596 q h1 (by omega)).trans (hfr5 q h1 h2))) q_eq (fun q hq => by by_cases e8 : q = p5; (rw [e8]; exact if_pos rfl); (exact (if_neg e8).trans (hgd q (by omega)))) hl_p5 (by omega) _ _ _ hW hS (lv_sub hl [1, 2, 3, 4, 5, 6, 7, 8, 9, 10, 11, 12, 13, 14, 15, 16, 17, 18, 19, 20, 0] rfl)
                          exact K580 _ (va_up f_566 n_566 (some (aI E pn (fun _ => 0)))) 0 (fun _ => 0) (hMc.frame (fun q hq => va_up_ne _ _ (by have := hQc q hq; omega)) (Nat.le_succ _) (Nat.le_refl _)) (fun q h1 h2 => va_up_ne _ _ (by omega)) q_eq (fun q hq => absurd hq (Nat.not_lt_zero _)) (Nat.zero_le _) (Nat.lt_succ_self _) _ _ _ hW hS (lv_sub hl [1, 2, 3, 4, 5, 6, 7, 8, 9, 10, 11, 12, 13, 14, 15, 16, 17, 18, 19, 20, 0] rfl)
                        · have hl_p9 : p9 < pn := q_gtn (by omega) c_254
                          have hda := da_heat hvo hl_p9 hp4
                          obtain ⟨hx9, wa9, ma9, ta9, da9, f1, f2, f3, f4, f5, b1, b2, b3, b4, b5, b6⟩ := id (hvo.2.2.2.2 p9 hl_p9)
                          refine lv_dload hx hb dL_law_257 (lv_at hl 10 rfl) ?_
                          refine lv_aload_n hx hb dL_law_259 rfl (lv_at hl 3 rfl) ?_
                          refine lv_iload hx hb dL_law_260 (lv_at hl 11 rfl) ?_
                          refine q_ci (va_runV (As := [.int (nI p9)]) (rest := [.double (FP.i2d (z_sum v1_125x1 p9))]) ⟨hx, hb, hml, hown, hts⟩ (ja_heatOf l E f_125x1 n_125x1 n (n + 55) n_65 N k_76 s1_125x1 (fun _ => False) (BB + 100 + 100) pn NR (nI ac) hd9 v1_125x1 v1_125x1 RS9 p9 eJ_125x1 (fun q x e => hW.lt e) hl_p9) (cwV 1 hts gL_law_X12_heatOf rfl rfl rfl (by decide +kernel) ⟨(Nat.le_of_ble_eq_true rfl), (Nat.le_of_ble_eq_true rfl)⟩) (q_pV hA hW hS (ci := 12) rfl (Classical.choose_spec (Classical.choose_spec (Classical.choose_spec (Classical.choose_spec (Classical.choose_spec (Classical.choose_spec (Classical.choose_spec eJ_125x1.cell)))))))) rfl rfl hl.1 rfl (lv_room (Nat.le_of_ble_eq_true rfl)) dL_law_262 ⟨(by show _ ≤ 600086; omega), (by show _ ≤ 7301441; omega)⟩) hS (fun r_262 f_262 n_262 H locs hp hW hS => ?_)
                          obtain ⟨rfl, rfl, rfl⟩ := hp
                          have hW : q_W E (f_125x1) n_125x1 H := hW
                          refine lv_i2d hx hb dL_law_265 ?_
                          refine lv_dadd hx hb dL_law_266 (by rw [hda]; exact i2d_nn _) ?_
                          rw [hda]
                          refine lv_dstore (lv' := [(12, .double (FP.i2d (z_sum v1_125x1 (p9 + 1)))), (11, .int (nI (k_T v1_125x1))), (9, .long (z_dig pn (nI NR) (nI ac) hd9 v1_125x1 (k_T v1_125x1) (k_N v1_125x1))), (0, .ref (E.2.2.2 108)), (1, .ref n), (2, .ref (n + 55)), (3, .int (nI tm)), (4, .ref N), (6, .ref k_76), (7, .int (nI pn)), (8, .int (nI sp)), (14, .int (nI p9))]) hx hb dL_law_267 hl (by decide) rfl (fun ls hl => ?_)
                          refine lv_aload_n hx hb dL_law_269 rfl (lv_at hl 4 rfl) ?_
                          refine lv_iload hx hb dL_law_270 (lv_at hl 11 rfl) ?_
                          refine q_ci (va_runV (As := [.int (nI p9)]) (rest := []) ⟨hx, hb, hml, hown, hts⟩ (ja_waterIn l E f_125x1 n_125x1 n (n + 55) n_65 N k_76 s1_125x1 (fun _ => False) (BB + 100 + 100) pn NR (nI ac) hd9 v1_125x1 v1_125x1 RS9 p9 eJ_125x1 (fun q x e => hW.lt e) hl_p9) (cwV 1 hts gL_law_X12_waterIn rfl rfl rfl (by decide +kernel) ⟨(Nat.le_of_ble_eq_true rfl), (Nat.le_of_ble_eq_true rfl)⟩) (q_pV hA hW hS (ci := 12) rfl (Classical.choose_spec (Classical.choose_spec (Classical.choose_spec (Classical.choose_spec (Classical.choose_spec (Classical.choose_spec (Classical.choose_spec eJ_125x1.cell)))))))) rfl rfl hl.1 rfl (lv_room (Nat.le_of_ble_eq_true rfl)) dL_law_272 ⟨(by show _ ≤ 600086; omega), (by show _ ≤ 7301441; omega)⟩) hS (fun r_272 f_272 n_272 H locs hp hW hS => ?_)
                          obtain ⟨rfl, rfl, rfl⟩ := hp
                          have hW : q_W E (f_125x1) n_125x1 H := hW
                          rw [f2]
                          refine lv_if_lt (tgt := 385) hx hb dL_law_275 (by decide) (fun c_275 => absurd c_275 (nI_pos (by omega))) (fun c_275 => ?_)
                          refine lv_aload_n hx hb dL_law_278 rfl (lv_at hl 4 rfl) ?_
                          refine lv_iload hx hb dL_law_279 (lv_at hl 11 rfl) ?_
                          refine q_ci (va_runV (As := [.int (nI p9)]) (rest := []) ⟨hx, hb, hml, hown, hts⟩ (ja_mealIn l E f_125x1 n_125x1 n (n + 55) n_65 N k_76 s1_125x1 (fun _ => False) (BB + 100 + 100) pn NR (nI ac) hd9 v1_125x1 v1_125x1 RS9 p9 eJ_125x1 (fun q x e => hW.lt e) hl_p9) (cwV 1 hts gL_law_X12_mealIn rfl rfl rfl (by decide +kernel) ⟨(Nat.le_of_ble_eq_true rfl), (Nat.le_of_ble_eq_true rfl)⟩) (q_pV hA hW hS (ci := 12) rfl (Classical.choose_spec (Classical.choose_spec (Classical.choose_spec (Classical.choose_spec (Classical.choose_spec (Classical.choose_spec (Classical.choose_spec eJ_125x1.cell)))))))) rfl rfl hl.1 rfl (lv_room (Nat.le_of_ble_eq_true rfl)) dL_law_281 ⟨(by show _ ≤ 600086; omega), (by show _ ≤ 7301441; omega)⟩) hS (fun r_281 f_281 n_281 H locs hp hW hS => ?_)
                          obtain ⟨rfl, rfl, rfl⟩ := hp
                          have hW : q_W E (f_125x1) n_125x1 H := hW
                          rw [f3]
                          refine lv_if_lt (tgt := 385) hx hb dL_law_284 (by decide) (fun c_284 => absurd c_284 (nI_pos (by omega))) (fun c_284 => ?_)
                          refine lv_aload_n hx hb dL_law_287 rfl (lv_at hl 4 rfl) ?_
                          refine lv_iload hx hb dL_law_288 (lv_at hl 11 rfl) ?_
                          refine q_ci (va_runV (As := [.int (nI p9)]) (rest := []) ⟨hx, hb, hml, hown, hts⟩ (ja_waterIn l E f_125x1 n_125x1 n (n + 55) n_65 N k_76 s1_125x1 (fun _ => False) (BB + 100 + 100) pn NR (nI ac) hd9 v1_125x1 v1_125x1 RS9 p9 eJ_125x1 (fun q x e => hW.lt e) hl_p9) (cwV 1 hts gL_law_X12_waterIn rfl rfl rfl (by decide +kernel) ⟨(Nat.le_of_ble_eq_true rfl), (Nat.le_of_ble_eq_true rfl)⟩) (q_pV hA hW hS (ci := 12) rfl (Classical.choose_spec (Classical.choose_spec (Classical.choose_spec (Classical.choose_spec (Classical.choose_spec (Classical.choose_spec (Classical.choose_spec eJ_125x1.cell)))))))) rfl rfl hl.1 rfl (lv_room (Nat.le_of_ble_eq_true rfl)) dL_law_290 ⟨(by show _ ≤ 600086; omega), (by show _ ≤ 7301441; omega)⟩) hS (fun r_290 f_290 n_290 H locs hp hW hS => ?_)
                          obtain ⟨rfl, rfl, rfl⟩ := hp
                          have hW : q_W E (f_125x1) n_125x1 H := hW
                          rw [f2]
                          refine lv_aload_n hx hb dL_law_293 rfl (lv_at hl 4 rfl) ?_
                          refine lv_iload hx hb dL_law_294 (lv_at hl 11 rfl) ?_
                          refine q_ci (va_runV (As := [.int (nI p9)]) (rest := [.int (nI wa9)]) ⟨hx, hb, hml, hown, hts⟩ (ja_mealIn l E f_125x1 n_125x1 n (n + 55) n_65 N k_76 s1_125x1 (fun _ => False) (BB + 100 + 100) pn NR (nI ac) hd9 v1_125x1 v1_125x1 RS9 p9 eJ_125x1 (fun q x e => hW.lt e) hl_p9) (cwV 1 hts gL_law_X12_mealIn rfl rfl rfl (by decide +kernel) ⟨(Nat.le_of_ble_eq_true rfl), (Nat.le_of_ble_eq_true rfl)⟩) (q_pV hA hW hS (ci := 12) rfl (Classical.choose_spec (Classical.choose_spec (Classical.choose_spec (Classical.choose_spec (Classical.choose_spec (Classical.choose_spec (Classical.choose_spec eJ_125x1.cell)))))))) rfl rfl hl.1 rfl (lv_room (Nat.le_of_ble_eq_true rfl)) dL_law_296 ⟨(by show _ ≤ 600086; omega), (by show _ ≤ 7301441; omega)⟩) hS (fun r_296 f_296 n_296 H locs hp hW hS => ?_)
                          obtain ⟨rfl, rfl, rfl⟩ := hp
                          have hW : q_W E (f_125x1) n_125x1 H := hW
                          rw [f3]
                          refine lv_iadd hx hb dL_law_299 ?_
                          rw [nI_add]
                          refine lv_aload_n hx hb dL_law_300 rfl (lv_at hl 4 rfl) ?_
                          refine lv_iload hx hb dL_law_301 (lv_at hl 11 rfl) ?_
                          refine q_ci (va_runV (As := [.int (nI p9)]) (rest := [.int (nI (wa9 + ma9))]) ⟨hx, hb, hml, hown, hts⟩ (ja_roomIn l E f_125x1 n_125x1 n (n + 55) n_65 N k_76 s1_125x1 (fun _ => False) (BB + 100 + 100) pn NR (nI ac) hd9 v1_125x1 v1_125x1 RS9 p9 eJ_125x1 (fun q x e => hW.lt e) hl_p9) (cwV 1 hts gL_law_X12_roomIn rfl rfl rfl (by decide +kernel) ⟨(Nat.le_of_ble_eq_true rfl), (Nat.le_of_ble_eq_true rfl)⟩) (q_pV hA hW hS (ci := 12) rfl (Classical.choose_spec (Classical.choose_spec (Classical.choose_spec (Classical.choose_spec (Classical.choose_spec (Classical.choose_spec (Classical.choose_spec eJ_125x1.cell)))))))) rfl rfl hl.1 rfl (lv_room (Nat.le_of_ble_eq_true rfl)) dL_law_303 ⟨(by show _ ≤ 600086; omega), (by show _ ≤ 7301441; omega)⟩) hS (fun r_303 f_303 n_303 H locs hp hW hS => ?_)
                          obtain ⟨rfl, rfl, rfl⟩ := hp
                          have hW : q_W E (f_125x1) n_125x1 H := hW
                          rw [f1, f2, f3, room_nI b2]
                          refine lv_iadd hx hb dL_law_306 ?_
                          rw [nI_add]
                          refine lv_aload_n hx hb dL_law_307 rfl (lv_at hl 4 rfl) ?_
                          refine lv_iload hx hb dL_law_308 (lv_at hl 11 rfl) ?_
                          refine q_ci (va_runV (As := [.int (nI p9)]) (rest := [.int (nI (wa9 + ma9 + (hx9 - wa9 - ma9)))]) ⟨hx, hb, hml, hown, hts⟩ (ja_holdsOf l E f_125x1 n_125x1 n (n + 55) n_65 N k_76 s1_125x1 (fun _ => False) (BB + 100 + 100) pn NR (nI ac) hd9 v1_125x1 v1_125x1 RS9 p9 eJ_125x1 (fun q x e => hW.lt e) hl_p9) (cwV 1 hts gL_law_X12_holdsOf rfl rfl rfl (by decide +kernel) ⟨(Nat.le_of_ble_eq_true rfl), (Nat.le_of_ble_eq_true rfl)⟩) (q_pV hA hW hS (ci := 12) rfl (Classical.choose_spec (Classical.choose_spec (Classical.choose_spec (Classical.choose_spec (Classical.choose_spec (Classical.choose_spec (Classical.choose_spec eJ_125x1.cell)))))))) rfl rfl hl.1 rfl (lv_room (Nat.le_of_ble_eq_true rfl)) dL_law_310 ⟨(by show _ ≤ 600086; omega), (by show _ ≤ 7301441; omega)⟩) hS (fun r_310 f_310 n_310 H locs hp hW hS => ?_)
                          obtain ⟨rfl, rfl, rfl⟩ := hp
                          have hW : q_W E (f_125x1) n_125x1 H := hW
                          rw [f1]
                          refine lv_icmp_ne (tgt := 385) hx hb dL_law_313 (by decide) (fun c_313 => False.elim ((fun h9 => h9 (congrArg nI (by omega))) c_313)) (fun c_313 => ?_)
                          refine lv_aload_n hx hb dL_law_316 rfl (lv_at hl 4 rfl) ?_
                          refine lv_iload hx hb dL_law_317 (lv_at hl 11 rfl) ?_
                          refine q_ci (va_runV (As := [.int (nI p9)]) (rest := []) ⟨hx, hb, hml, hown, hts⟩ (ja_roomIn l E f_125x1 n_125x1 n (n + 55) n_65 N k_76 s1_125x1 (fun _ => False) (BB + 100 + 100) pn NR (nI ac) hd9 v1_125x1 v1_125x1 RS9 p9 eJ_125x1 (fun q x e => hW.lt e) hl_p9) (cwV 1 hts gL_law_X12_roomIn rfl rfl rfl (by decide +kernel) ⟨(Nat.le_of_ble_eq_true rfl), (Nat.le_of_ble_eq_true rfl)⟩) (q_pV hA hW hS (ci := 12) rfl (Classical.choose_spec (Classical.choose_spec (Classical.choose_spec (Classical.choose_spec (Classical.choose_spec (Classical.choose_spec (Classical.choose_spec eJ_125x1.cell)))))))) rfl rfl hl.1 rfl (lv_room (Nat.le_of_ble_eq_true rfl)) dL_law_319 ⟨(by show _ ≤ 600086; omega), (by show _ ≤ 7301441; omega)⟩) hS (fun r_319 f_319 n_319 H locs hp hW hS => ?_)
                          obtain ⟨rfl, rfl, rfl⟩ := hp
                          have hW : q_W E (f_125x1) n_125x1 H := hW
                          rw [f1, f2, f3, room_nI b2]
                          refine lv_if_lt (tgt := 385) hx hb dL_law_322 (by decide) (fun c_322 => absurd c_322 (nI_pos (by omega))) (fun c_322 => ?_)
                          refine lv_aload_n hx hb dL_law_325 rfl (lv_at hl 4 rfl) ?_
                          refine lv_iload hx hb dL_law_326 (lv_at hl 11 rfl) ?_
                          refine q_ci (va_runV (As := [.int (nI p9)]) (rest := []) ⟨hx, hb, hml, hown, hts⟩ (ja_heatOf l E f_125x1 n_125x1 n (n + 55) n_65 N k_76 s1_125x1 (fun _ => False) (BB + 100 + 100) pn NR (nI ac) hd9 v1_125x1 v1_125x1 RS9 p9 eJ_125x1 (fun q x e => hW.lt e) hl_p9) (cwV 1 hts gL_law_X12_heatOf rfl rfl rfl (by decide +kernel) ⟨(Nat.le_of_ble_eq_true rfl), (Nat.le_of_ble_eq_true rfl)⟩) (q_pV hA hW hS (ci := 12) rfl (Classical.choose_spec (Classical.choose_spec (Classical.choose_spec (Classical.choose_spec (Classical.choose_spec (Classical.choose_spec (Classical.choose_spec eJ_125x1.cell)))))))) rfl rfl hl.1 rfl (lv_room (Nat.le_of_ble_eq_true rfl)) dL_law_328 ⟨(by show _ ≤ 600086; omega), (by show _ ≤ 7301441; omega)⟩) hS (fun r_328 f_328 n_328 H locs hp hW hS => ?_)
                          obtain ⟨rfl, rfl, rfl⟩ := hp
                          have hW : q_W E (f_125x1) n_125x1 H := hW
                          rw [f4]
                          refine lv_bipush (v := 20) hx hb dL_law_331 (by decide) ?_
                          refine lv_icmp_lt (tgt := 385) hx hb dL_law_333 (by decide) (fun c_333 => absurd c_333 (nI_nlt (a := ta9) (b := 20) b3 (by omega))) (fun c_333 => ?_)
                          refine lv_aload_n hx hb dL_law_336 rfl (lv_at hl 4 rfl) ?_
                          refine lv_iload hx hb dL_law_337 (lv_at hl 11 rfl) ?_
                          refine q_ci (va_runV (As := [.int (nI p9)]) (rest := []) ⟨hx, hb, hml, hown, hts⟩ (ja_heatOf l E f_125x1 n_125x1 n (n + 55) n_65 N k_76 s1_125x1 (fun _ => False) (BB + 100 + 100) pn NR (nI ac) hd9 v1_125x1 v1_125x1 RS9 p9 eJ_125x1 (fun q x e => hW.lt e) hl_p9) (cwV 1 hts gL_law_X12_heatOf rfl rfl rfl (by decide +kernel) ⟨(Nat.le_of_ble_eq_true rfl), (Nat.le_of_ble_eq_true rfl)⟩) (q_pV hA hW hS (ci := 12) rfl (Classical.choose_spec (Classical.choose_spec (Classical.choose_spec (Classical.choose_spec (Classical.choose_spec (Classical.choose_spec (Classical.choose_spec eJ_125x1.cell)))))))) rfl rfl hl.1 rfl (lv_room (Nat.le_of_ble_eq_true rfl)) dL_law_339 ⟨(by show _ ≤ 600086; omega), (by show _ ≤ 7301441; omega)⟩) hS (fun r_339 f_339 n_339 H locs hp hW hS => ?_)
                          obtain ⟨rfl, rfl, rfl⟩ := hp
                          have hW : q_W E (f_125x1) n_125x1 H := hW
                          rw [f4]
                          refine lv_bipush (v := 100) hx hb dL_law_342 (by decide) ?_
                          refine lv_icmp_gt (tgt := 385) hx hb dL_law_344 (by decide) (fun c_344 => absurd c_344 (nI_nlt (a := 100) (b := ta9) b4 (by decide))) (fun c_344 => ?_)
                          refine lv_aload_n hx hb dL_law_347 rfl (lv_at hl 4 rfl) ?_
                          refine lv_iload hx hb dL_law_348 (lv_at hl 11 rfl) ?_
                          refine q_ci (va_runV (As := [.int (nI p9)]) (rest := []) ⟨hx, hb, hml, hown, hts⟩ (ja_doneIn l E f_125x1 n_125x1 n (n + 55) n_65 N k_76 s1_125x1 (fun _ => False) (BB + 100 + 100) pn NR (nI ac) hd9 v1_125x1 v1_125x1 RS9 p9 eJ_125x1 (fun q x e => hW.lt e) hl_p9) (cwV 1 hts gL_law_X12_doneIn rfl rfl rfl (by decide +kernel) ⟨(Nat.le_of_ble_eq_true rfl), (Nat.le_of_ble_eq_true rfl)⟩) (q_pV hA hW hS (ci := 12) rfl (Classical.choose_spec (Classical.choose_spec (Classical.choose_spec (Classical.choose_spec (Classical.choose_spec (Classical.choose_spec (Classical.choose_spec eJ_125x1.cell)))))))) rfl rfl hl.1 rfl (lv_room (Nat.le_of_ble_eq_true rfl)) dL_law_350 ⟨(by show _ ≤ 600086; omega), (by show _ ≤ 7301441; omega)⟩) hS (fun r_350 f_350 n_350 H locs hp hW hS => ?_)
                          obtain ⟨rfl, rfl, rfl⟩ := hp
                          have hW : q_W E (f_125x1) n_125x1 H := hW
                          rw [f5]
                          refine lv_if_lt (tgt := 385) hx hb dL_law_353 (by decide) (fun c_353 => absurd c_353 (nI_pos (by omega))) (fun c_353 => ?_)
                          refine lv_aload_n hx hb dL_law_356 rfl (lv_at hl 4 rfl) ?_
                          refine lv_iload hx hb dL_law_357 (lv_at hl 11 rfl) ?_
                          refine q_ci (va_runV (As := [.int (nI p9)]) (rest := []) ⟨hx, hb, hml, hown, hts⟩ (ja_doneIn l E f_125x1 n_125x1 n (n + 55) n_65 N k_76 s1_125x1 (fun _ => False) (BB + 100 + 100) pn NR (nI ac) hd9 v1_125x1 v1_125x1 RS9 p9 eJ_125x1 (fun q x e => hW.lt e) hl_p9) (cwV 1 hts gL_law_X12_doneIn rfl rfl rfl (by decide +kernel) ⟨(Nat.le_of_ble_eq_true rfl), (Nat.le_of_ble_eq_true rfl)⟩) (q_pV hA hW hS (ci := 12) rfl (Classical.choose_spec (Classical.choose_spec (Classical.choose_spec (Classical.choose_spec (Classical.choose_spec (Classical.choose_spec (Classical.choose_spec eJ_125x1.cell)))))))) rfl rfl hl.1 rfl (lv_room (Nat.le_of_ble_eq_true rfl)) dL_law_359 ⟨(by show _ ≤ 600086; omega), (by show _ ≤ 7301441; omega)⟩) hS (fun r_359 f_359 n_359 H locs hp hW hS => ?_)
                          obtain ⟨rfl, rfl, rfl⟩ := hp
                          have hW : q_W E (f_125x1) n_125x1 H := hW
                          rw [f5]
                          refine lv_bipush (v := 100) hx hb dL_law_362 (by decide) ?_
                          refine lv_icmp_gt (tgt := 385) hx hb dL_law_364 (by decide) (fun c_364 => absurd c_364 (nI_nlt (a := 100) (b := da9) b5 (by decide))) (fun c_364 => ?_)
                          refine lv_aload_n hx hb dL_law_367 rfl (lv_at hl 4 rfl) ?_
                          refine lv_iload hx hb dL_law_368 (lv_at hl 11 rfl) ?_
                          refine q_ci (va_runV (As := [.int (nI p9)]) (rest := []) ⟨hx, hb, hml, hown, hts⟩ (ja_mealIn l E f_125x1 n_125x1 n (n + 55) n_65 N k_76 s1_125x1 (fun _ => False) (BB + 100 + 100) pn NR (nI ac) hd9 v1_125x1 v1_125x1 RS9 p9 eJ_125x1 (fun q x e => hW.lt e) hl_p9) (cwV 1 hts gL_law_X12_mealIn rfl rfl rfl (by decide +kernel) ⟨(Nat.le_of_ble_eq_true rfl), (Nat.le_of_ble_eq_true rfl)⟩) (q_pV hA hW hS (ci := 12) rfl (Classical.choose_spec (Classical.choose_spec (Classical.choose_spec (Classical.choose_spec (Classical.choose_spec (Classical.choose_spec (Classical.choose_spec eJ_125x1.cell)))))))) rfl rfl hl.1 rfl (lv_room (Nat.le_of_ble_eq_true rfl)) dL_law_370 ⟨(by show _ ≤ 600086; omega), (by show _ ≤ 7301441; omega)⟩) hS (fun r_370 f_370 n_370 H locs hp hW hS => ?_)
                          obtain ⟨rfl, rfl, rfl⟩ := hp
                          have hW : q_W E (f_125x1) n_125x1 H := hW
                          rw [f3]
                          refine lv_if_ne (tgt := 387) hx hb dL_law_373 (by decide) (fun c_373 => ?_) (fun c_373 => ?_)
                          · refine lv_iinc (v := nI (p9 + 1)) (lv' := [(14, .int (nI (p9 + 1))), (12, .double (FP.i2d (z_sum v1_125x1 (p9 + 1)))), (11, .int (nI (k_T v1_125x1))), (9, .long (z_dig pn (nI NR) (nI ac) hd9 v1_125x1 (k_T v1_125x1) (k_N v1_125x1))), (0, .ref (E.2.2.2 108)), (1, .ref n), (2, .ref (n + 55)), (3, .int (nI tm)), (4, .ref N), (6, .ref k_76), (7, .int (nI pn)), (8, .int (nI sp))]) hx hb dL_law_387 hl (k := 11) rfl (nI_1 p9) (by decide) rfl (fun ls hl => ?_)
                            refine lv_goto (tgt := 250) hx hb dL_law_390 (by decide) ?_
                            exact ih (p9 + 1) hl_p9 (by omega) _ _ _ hW hS (lv_sub hl [2, 3, 4, 5, 6, 7, 8, 9, 10, 11, 1, 0] rfl)
                          · have hm0 : ma9 = 0 := (nI_eq (b := 0) (by omega) (by decide)).mp c_373
                            refine lv_aload_n hx hb dL_law_376 rfl (lv_at hl 4 rfl) ?_
                            refine lv_iload hx hb dL_law_377 (lv_at hl 11 rfl) ?_
                            refine q_ci (va_runV (As := [.int (nI p9)]) (rest := []) ⟨hx, hb, hml, hown, hts⟩ (ja_doneIn l E f_125x1 n_125x1 n (n + 55) n_65 N k_76 s1_125x1 (fun _ => False) (BB + 100 + 100) pn NR (nI ac) hd9 v1_125x1 v1_125x1 RS9 p9 eJ_125x1 (fun q x e => hW.lt e) hl_p9) (cwV 1 hts gL_law_X12_doneIn rfl rfl rfl (by decide +kernel) ⟨(Nat.le_of_ble_eq_true rfl), (Nat.le_of_ble_eq_true rfl)⟩) (q_pV hA hW hS (ci := 12) rfl (Classical.choose_spec (Classical.choose_spec (Classical.choose_spec (Classical.choose_spec (Classical.choose_spec (Classical.choose_spec (Classical.choose_spec eJ_125x1.cell)))))))) rfl rfl hl.1 rfl (lv_room (Nat.le_of_ble_eq_true rfl)) dL_law_379 ⟨(by show _ ≤ 600086; omega), (by show _ ≤ 7301441; omega)⟩) hS (fun r_379 f_379 n_379 H locs hp hW hS => ?_)
                            obtain ⟨rfl, rfl, rfl⟩ := hp
                            have hW : q_W E (f_125x1) n_125x1 H := hW
                            rw [f5]
                            refine lv_if_le (tgt := 387) hx hb dL_law_382 (by decide) (fun c_382 => ?_) (fun c_382 => absurd (show nI da9 ≤ 0 from by rw [b6 hm0]; decide) c_382)
                            refine lv_iinc (v := nI (p9 + 1)) (lv' := [(14, .int (nI (p9 + 1))), (12, .double (FP.i2d (z_sum v1_125x1 (p9 + 1)))), (11, .int (nI (k_T v1_125x1))), (9, .long (z_dig pn (nI NR) (nI ac) hd9 v1_125x1 (k_T v1_125x1) (k_N v1_125x1))), (0, .ref (E.2.2.2 108)), (1, .ref n), (2, .ref (n + 55)), (3, .int (nI tm)), (4, .ref N), (6, .ref k_76), (7, .int (nI pn)), (8, .int (nI sp))]) hx hb dL_law_387 hl (k := 11) rfl (nI_1 p9) (by decide) rfl (fun ls hl => ?_)
                            refine lv_goto (tgt := 250) hx hb dL_law_390 (by decide) ?_
                            exact ih (p9 + 1) hl_p9 (by omega) _ _ _ hW hS (lv_sub hl [2, 3, 4, 5, 6, 7, 8, 9, 10, 11, 1, 0] rfl)
                    exact K250 _ 0 (Nat.zero_le _) (Nat.lt_succ_self _) _ _ _ hW hS (lv_sub hl [2, 3, 4, 5, 6, 7, 8, 9, 10, 11, 1, 0] rfl)
                  · have hl_w9 : w9 < min 20 (k_T v1_125x1) := q_gtn (by omega) c_213
                    obtain ⟨kd, hk1, hk5, hkv⟩ := hsm.2.2 ((k_T v1_125x1 - 1 - w9) % 20) (Nat.mod_lt _ (by decide)) (Nat.lt_of_le_of_lt (Nat.mod_le _ _) (by omega))
                    refine lv_aload_n hx hb dL_law_216 rfl (lv_at hl 3 rfl) ?_
                    refine lv_iload hx hb dL_law_217 (lv_at hl 10 rfl) ?_
                    refine q_ci (va_runV (As := [.int (nI w9)]) (rest := []) ⟨hx, hb, hml, hown, hts⟩ (ja_warningAt l E f_125x1 n_125x1 n (n + 55) n_65 N k_76 s1_125x1 (fun _ => False) (BB + 100 + 100) pn NR (nI ac) hd9 v1_125x1 v1_125x1 RS9 (k_T v1_125x1) w9 eJ_125x1 (fun q x e => hW.lt e) hv4 hT30.1 (by omega)) (cwV 1 hts gL_law_X12_warningAt rfl rfl rfl (by decide +kernel) ⟨(Nat.le_of_ble_eq_true rfl), (Nat.le_of_ble_eq_true rfl)⟩) (q_pV hA hW hS (ci := 12) rfl (Classical.choose_spec (Classical.choose_spec (Classical.choose_spec (Classical.choose_spec (Classical.choose_spec (Classical.choose_spec (Classical.choose_spec eJ_125x1.cell)))))))) rfl rfl hl.1 rfl (lv_room (Nat.le_of_ble_eq_true rfl)) dL_law_219 ⟨(by show _ ≤ 600086; omega), (by show _ ≤ 7301441; omega)⟩) hS (fun r_219 f_219 n_219 H locs hp hW hS => ?_)
                    obtain ⟨rfl, rfl, rfl⟩ := hp
                    have hW : q_W E (f_125x1) n_125x1 H := hW
                    rw [hkv]
                    refine lv_iconst (v := 1) hx hb dL_law_222 (by decide) ?_
                    refine lv_icmp_lt (tgt := 236) hx hb dL_law_223 (by decide) (fun c_223 => absurd c_223 (nI_nlt (a := kd) (b := 1) hk1 (by omega))) (fun c_223 => ?_)
                    refine lv_aload_n hx hb dL_law_226 rfl (lv_at hl 3 rfl) ?_
                    refine lv_iload hx hb dL_law_227 (lv_at hl 10 rfl) ?_
                    refine q_ci (va_runV (As := [.int (nI w9)]) (rest := []) ⟨hx, hb, hml, hown, hts⟩ (ja_warningAt l E f_125x1 n_125x1 n (n + 55) n_65 N k_76 s1_125x1 (fun _ => False) (BB + 100 + 100) pn NR (nI ac) hd9 v1_125x1 v1_125x1 RS9 (k_T v1_125x1) w9 eJ_125x1 (fun q x e => hW.lt e) hv4 hT30.1 (by omega)) (cwV 1 hts gL_law_X12_warningAt rfl rfl rfl (by decide +kernel) ⟨(Nat.le_of_ble_eq_true rfl), (Nat.le_of_ble_eq_true rfl)⟩) (q_pV hA hW hS (ci := 12) rfl (Classical.choose_spec (Classical.choose_spec (Classical.choose_spec (Classical.choose_spec (Classical.choose_spec (Classical.choose_spec (Classical.choose_spec eJ_125x1.cell)))))))) rfl rfl hl.1 rfl (lv_room (Nat.le_of_ble_eq_true rfl)) dL_law_229 ⟨(by show _ ≤ 600086; omega), (by show _ ≤ 7301441; omega)⟩) hS (fun r_229 f_229 n_229 H locs hp hW hS => ?_)
                    obtain ⟨rfl, rfl, rfl⟩ := hp
                    have hW : q_W E (f_125x1) n_125x1 H := hW
                    rw [hkv]
                    refine lv_iconst (v := 5) hx hb dL_law_232 (by decide) ?_
                    refine lv_icmp_le (tgt := 238) hx hb dL_law_233 (by decide) (fun c_233 => ?_) (fun c_233 => absurd (nI_le (b := 5) hk5 (by decide)) c_233)
                    refine lv_iinc (v := nI (w9 + 1)) (lv' := [(12, .int (nI (w9 + 1))), (11, .int (nI (k_T v1_125x1))), (9, .long (z_dig pn (nI NR) (nI ac) hd9 v1_125x1 (k_T v1_125x1) (k_N v1_125x1))), (0, .ref (E.2.2.2 108)), (1, .ref n), (2, .ref (n + 55)), (3, .int (nI tm)), (4, .ref N), (6, .ref k_76), (7, .int (nI pn)), (8, .int (nI sp))]) hx hb dL_law_238 hl (k := 10) rfl (nI_1 w9) (by decide) rfl (fun ls hl => ?_)
                    refine lv_goto (tgt := 204) hx hb dL_law_241 (by decide) ?_
                    exact ih (w9 + 1) hl_w9 (by omega) _ _ _ hW hS (lv_sub hl [1, 2, 3, 4, 5, 6, 7, 8, 9, 10, 0] rfl)
              exact K204 _ 0 (Nat.zero_le _) (Nat.lt_succ_self _) _ _ _ hW hS (lv_sub hl [1, 2, 3, 4, 5, 6, 7, 8, 9, 10, 0] rfl)
        refine W.widen (k := 110 + 26000 * tm + 21000 + 450 * 0) (n := 6614 + 1700000 * tm + 1480000 + 9000 * 0) (by omega) (by omega) ?_
        exact K104 _ f_87 n_87 0 (z_bgn vm pn) s1_76 100 hJ87 (by decide) (by decide) (by omega) (Nat.lt_succ_self _) _ _ _ hW hS (lv_sub hl [5, 6, 7, 8, 4, 2, 1, 0] rfl)
  refine W.widen (k := 110 + 26000 * 0) (n := 6614 + 1700000 * 0) (by omega) (by omega) ?_
  exact K18 _ f_12 (n + 110) 0 (⟨_, _, ⟨100, _, _, _, _, _, _, _, eI_4.frame (fun q (hq : n ≤ q ∧ q < n + 55) => (hfr_12 q (by omega)).trans (va_up_ne _ _ (by omega))) (by omega) (Nat.le_refl _)⟩, ⟨100, _, _, _, _, _, _, _, eI_12⟩, (fun q (hq : n ≤ q ∧ q < n + 55) => ⟨by omega, by omega⟩), (fun q (hq : n + 55 ≤ q ∧ q < n + 55 + 55) => ⟨by omega, by omega⟩)⟩) (by decide) (Nat.le_refl _) (Nat.lt_succ_self _) _ _ _ hW hS (lv_sub hl [3, 2, 1, 0] rfl)

