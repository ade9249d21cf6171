/-! the law's acts as text -/
theorem bV_app : ∀ (L M : List LT), bV (L ++ M) = bV L ++ bV M
  | [], _ => rfl
  | x :: L, M => by show x.2.2.1 ++ bV (L ++ M) = (x.2.2.1 ++ bV L) ++ bV M; rw [bV_app L M, List.append_assoc]
theorem bC_app2 : ∀ (L M : List LT), bC (L ++ M) = bC L + bC M
  | [], M => (Nat.zero_add _).symm
  | x :: L, M => by show 1 + x.2.2.2 + bC (L ++ M) = 1 + x.2.2.2 + bC L + bC M; rw [bC_app2 L M]; omega
theorem take_s {L : List LT} {i : Nat} {x : LT} (h : L[i]? = some x) : L.take (i + 1) = L.take i ++ [x] := by
  rw [List.take_add_one, h]
  rfl
theorem bC_take {L : List LT} (i : Nat) : bC (L.take i) ≤ bC L := by
  have h := bC_app2 (L.take i) (L.drop i)
  rw [List.take_append_drop] at h
  omega
theorem cV1_len {pn : Nat} {P : Nat → Prop} {f : q_H} {x : CT} (h0 : x.1 < 3) (h1 : NODE pn P f 0 x.2.1.1 x.2.1.2.1 x.2.1.2.2) (h2 : NODE pn P f 0 x.2.2.1 x.2.2.2.1 x.2.2.2.2) : (cV1 x).length ≤ 29 := by
  have := h1.len0
  have := h2.len0
  have h : ∀ s, s < 3 → (kt (47 + s)).length = 1 := by decide +kernel
  unfold cV1
  rw [List.length_append, List.length_append, h _ h0]
  omega
theorem CMPS.two {pn : Nat} {P : Nat → Prop} {E : q_E} {f : q_H} {sg on ot : Nat} {C : List CT} (h : CMPS pn P E f sg on ot C) (h1 : 1 ≤ C.length) (h2 : C.length ≤ 2) : (cV C).length ≤ 70 ∧ (pn ≤ 8 → okb (cV C)) := by
  obtain ⟨gs, go, gt, -, -, -, -, -, -, r⟩ := h
  have ok1 : ∀ x : CT, x.1 < 3 → NODE pn P f 0 x.2.1.1 x.2.1.2.1 x.2.1.2.2 → NODE pn P f 0 x.2.2.1 x.2.2.2.1 x.2.2.2.2 → pn ≤ 8 → okb (cV1 x) := fun x h0 n1 n2 hp => okb_app (okb_app (n1.okb hp) (kt_okb (by omega))) (n2.okb hp)
  match C, h1, h2, r with
  | [x], _, _, r =>
    obtain ⟨-, a2, -, -, a5, a6⟩ := r 0 x rfl
    refine ⟨?_, fun hp => okb_app (okb_app (kt_okb (by decide)) (ok1 x a2 a5 a6 hp)) okb_nil⟩
    have := cV1_len a2 a5 a6
    show ((kt 26 ++ cV1 x) ++ []).length ≤ 70
    rw [List.append_nil, List.length_append, ktl_26]
    omega
  | [x, y], _, _, r =>
    obtain ⟨-, a2, -, -, a5, a6⟩ := r 0 x rfl
    obtain ⟨-, b2, -, -, b5, b6⟩ := r 1 y rfl
    refine ⟨?_, fun hp => okb_app (okb_app (kt_okb (by decide)) (ok1 x a2 a5 a6 hp)) (okb_app (okb_app (kt_okb (by decide)) (ok1 y b2 b5 b6 hp)) okb_nil)⟩
    have := cV1_len a2 a5 a6
    have := cV1_len b2 b5 b6
    show ((kt 26 ++ cV1 x) ++ ((kt 27 ++ cV1 y) ++ [])).length ≤ 70
    rw [List.append_nil, List.length_append, List.length_append, List.length_append, ktl_26, ktl_27]
    omega
  | x :: y :: z :: C, _, h2, _ => exact absurd h2 (by show ¬ C.length + 3 ≤ 2; omega)
/-- how long a text is, by the acts in it -/
theorem bV_len {A : LT → Prop} (h : ∀ x, A x → x.2.2.1.length ≤ 80 * (1 + x.2.2.2) ∧ okb x.2.2.1) : ∀ L : List LT, (∀ x ∈ L, A x) → (bV L).length ≤ 80 * bC L ∧ okb (bV L)
  | [], _ => ⟨Nat.le_refl _, okb_nil⟩
  | x :: L, hL => by
    have h1 := h x (hL x List.mem_cons_self)
    have h2 := bV_len h L (fun y hy => hL y (List.mem_cons_of_mem _ hy))
    refine ⟨?_, okb_app h1.2 h2.2⟩
    show (x.2.2.1 ++ bV L).length ≤ 80 * (1 + x.2.2.2 + bC L)
    rw [List.length_append]
    have := h1.1
    have := h2.1
    omega
theorem bT_len (L : List LT) : (bT L).length = (bV L).length + 2 := by unfold bT; rw [List.length_append, List.length_append, ktl_5, ktl_29]; omega
theorem bT_okb {L : List LT} (h : okb (bV L)) : okb (bT L) := okb_app (okb_app (kt_okb (by decide)) h) (kt_okb (by decide))
theorem LACT.len {E : q_E} {pn R : Nat} {RS : Nat → q_S} {P : Nat → Prop} {f : q_H} (hpn : pn ≤ 8) (hR : R ≤ 6) : ∀ (d : Nat) (x : LT), LACT E pn R RS P f d x → x.2.2.1.length ≤ 80 * (1 + x.2.2.2) ∧ okb x.2.2.1
  | 0, _, r => r.elim
  | d + 1, x, r => by
    obtain ⟨hp, do_, wh, va, sg, on, ot, b, el, e, hc⟩ := r
    have IH := bV_len (A := LACT E pn R RS P f d) (LACT.len hpn hR d)
    rcases hc with ⟨t, i, y, D, W, a1, a2, a3, a4, a5, a6, a7, a8, a9⟩ | ⟨i, y, D, W, a2, a3, a4, a5, a6, a7, a8, a9⟩ | ⟨i, y, D, W, a2, a3, a4, a5, a6, a7, a8, a9⟩ | ⟨i, a2, a3, a4, a5, a6, a8, a9⟩ | ⟨i, y, D, W, a2, a3, a4, a5, a6, a7, a8, a9⟩ | ⟨i, y, D, W, a2, a3, a4, a5, a6, a7, a8, a9⟩ | ⟨i, a2, a3, a4, a5, a6, a8, a9⟩ | ⟨i, y, D, W, L, a2, a3, a4, a5, a6, a7, a8, a9⟩ | ⟨i, L, C, a2, a3, a4, a5, a6, a7, a8, a9, a10⟩
    · rw [a9]
      have := a7.len1
      have o := a7.okb hpn
      rcases (show t = 0 ∨ t = 1 by omega) with rfl | rfl
      · refine ⟨?_, okb_app (okb_app (okb_app (okb_app (kt_okb (by decide)) o) (kt_okb (by decide))) (okb_pT (by omega))) (kt_okb (by decide))⟩
        simp only [List.length_append, ktl_6, ktl_11, ktl_12, pT_len, Nat.mul_zero, Nat.add_zero]
        omega
      · refine ⟨?_, okb_app (okb_app (okb_app (okb_app (kt_okb (by decide)) o) (kt_okb (by decide))) (okb_pT (by omega))) (kt_okb (by decide))⟩
        show (kt 6 ++ W ++ kt 13 ++ pT i ++ kt 14).length ≤ 80 * (1 + 0)
        simp only [List.length_append, ktl_6, ktl_13, ktl_14, pT_len]
        omega
    · rw [a9]
      have := a7.len1
      refine ⟨?_, okb_app (okb_app (okb_app (okb_app (kt_okb (by decide)) (okb_pT (by omega))) (kt_okb (by decide))) (a7.okb hpn)) (kt_okb (by decide))⟩
      simp only [List.length_append, ktl_15, ktl_16, ktl_12, pT_len]
      omega
    · rw [a9]
      have := a7.len1
      refine ⟨?_, okb_app (okb_app (okb_app (okb_app (kt_okb (by decide)) (okb_pT (by omega))) (kt_okb (by decide))) (a7.okb hpn)) (kt_okb (by decide))⟩
      simp only [List.length_append, ktl_17, ktl_18, ktl_19, pT_len]
      omega
    · rw [a9]
      refine ⟨?_, okb_app (okb_app (kt_okb (by decide)) (okb_pT (by omega))) (kt_okb (by decide))⟩
      simp only [List.length_append, ktl_20, ktl_12, pT_len]
      omega
    · rw [a9]
      have := a7.len1
      refine ⟨?_, okb_app (okb_app (kt_okb (by decide)) (a7.okb hpn)) (kt_okb (by decide))⟩
      simp only [List.length_append, ktl_21, ktl_22]
      omega
    · rw [a9]
      have := a7.len1
      refine ⟨?_, okb_app (okb_app (kt_okb (by decide)) (a7.okb hpn)) (kt_okb (by decide))⟩
      simp only [List.length_append, ktl_23, ktl_12]
      omega
    · rw [a9]
      refine ⟨?_, okb_app (okb_app (kt_okb (by decide)) (okb_one (by omega))) (kt_okb (by decide))⟩
      simp only [List.length_append, ktl_24, ktl_12, List.length_cons, List.length_nil]
      omega
    · rw [a9]
      have := a7.len1
      have h := IH L a8.2.2
      have := h.1
      have := bT_len L
      refine ⟨?_, okb_app (okb_app (kt_okb (by decide)) (a7.okb hpn)) (bT_okb h.2)⟩
      simp only [List.length_append, ktl_25]
      omega
    · have c := a8.two a6 a7
      have := c.1
      have h := IH L a9.2.2
      have := h.1
      have := bT_len L
      rcases a10 with ⟨-, a10⟩ | ⟨b2, L2, -, c2, a10⟩
      · rw [a10]
        refine ⟨?_, okb_app (c.2 hpn) (bT_okb h.2)⟩
        simp only [List.length_append]
        omega
      · rw [a10]
        have h2 := IH L2 c2.2.2
        have := h2.1
        have := bT_len L2
        refine ⟨?_, okb_app (okb_app (okb_app (c.2 hpn) (bT_okb h.2)) (kt_okb (by decide))) (bT_okb h2.2)⟩
        simp only [List.length_append, ktl_28]
        omega

set_option maxHeartbeats 4000000 in
set_option maxRecDepth 100000 in
theorem kX13_text_k0 (l : Launch) (E : q_E) (f : q_H) (n : Nat) (x9 y9 z9 u9 a pn : Nat) (P : Nat → Prop) (i y : Nat) (D : q_D) (W : List Int32) (sg on ot bl el : Option Nat) (h0 : f a = some (cLA 0 (nI i) (some y) sg on ot bl el)) (hpn : pn ≤ 8) (hP : ∀ q, P q → q < n) (hN : NODE pn P f 1 y D W) (hi : i < pn) : Met l yX13_text wsX13_text ({ frames := x9 + 30, cells := z9 + 180, slots := u9 + 9000, locals := y9 + 2000 }) (q_P E [.ref a] f n) (q_Qq E (fun r0 f1 n1 => ∃ (r : Nat), some r = r0 ∧ f1 r = some (cStr (r + 1)) ∧ f1 (r + 1) = some (aB E ((kt 6 ++ W ++ kt 11 ++ pT i ++ kt 12).length) (tx (kt 6 ++ W ++ kt 11 ++ pT i ++ kt 12))) ∧ n ≤ r ∧ n ≤ n1 ∧ ∀ z9, z9 < n → f1 z9 = f z9)) (z9 + 180) (u9 + 9000) (q_ge E) := by
  refine Met.ofW (cc := cX13_text) (maxL := 3) (ret := (some (.object "java/lang/String"))) (by decide) rfl ?_
  intro p0_ e0_ s0_ m0_ args0_ below0_ meth0_ c0_ s1_ B hml hv
  obtain ⟨rfl, hA, hW⟩ := hv
  have hx := B.exec
  have hb := B.bytes
  have hr := B.returns
  have hts := atoms_spec (ws := wsX13_text) B.pre
  have hown : s0_.vm.findClass RX13 = some m0_.cls := findClass_of_methodNamed B.named
  have hlocks := B.notSynchronized
  have hS : va_S (q_ge E) s0_.heap s0_.heap [] := va_S.rf
  have iJ4 : ∀ w ∈ wsJ40, w ∈ wsX13_text := by decide +kernel
  have iX13 : ∀ w ∈ wsX130, w ∈ wsX13_text := by decide +kernel
  have hl := lv_entry ([.ref a]) (n := 3) (Nat.le_of_ble_eq_true rfl)
  rw [lg_entry_eq]
  generalize (lg_sl ([.ref a]) ++ List.replicate (3 - (lg_sl ([.ref a])).length) Slot.unset).toArray = ls at hl ⊢
  have hl : lv_has ls 3 [(0, .ref a)] := hl
  have l_h0 := hW.lt h0
  have lW := hN.len1
  have oW := hN.okb hpn
  obtain ⟨-, so1, k1, x1, y1, hcy⟩ := hN.cell
  have l_cy := hW.lt hcy
  refine lv_aload_n hx hb dX13_text_0 rfl (lv_at hl 0 rfl) ?_
  refine q_get hx hb hts hown hA hW iX13 h0 rfl 0 (by decide) (hts (.fieldLink RX13 37 "HighRecipesLaw$Act" "does" "I") (by decide +kernel)) (fun _ h9 => h9) (v := .int 0) rfl dX13_text_1 ?_
  refine lv_tableIn (x := 0) (off := 52) (tgt := 56) hx hb dX13_text_4 (by decide) (by decide) (by decide) (by decide) ?_
  refine q_new (ci := 1) hx hb hts hown hA hW hS iJ4 tyJ4 tyJ4_ok (hts (.classLink RX13 61 RJ4) (by decide +kernel)) (hts (.instantiable RJ4 4) (by decide +kernel)) (hts (.initialized RJ4) (by decide +kernel)) rfl (fs := [.null, .int 0, .int 0, .int 0]) (by decide) (by show _ ≤ z9 + 180; omega) (by show _ ≤ u9 + 9000; omega) dX13_text_56 (fun H hW hS => ?_)
  have hW : q_W E (va_up f n (some (rSB none 0 0 0))) (n + 1) H := hW
  refine lv_dup hx hb dX13_text_59 rfl ?_
  refine q_cv (va_runI (As := []) (rest := [.ref n]) ⟨hx, hb, hml, hown, hts⟩ (kJ4_init_da8c8 l E (va_up f n (some (rSB none 0 0 0))) (n + 1) n q_eq) (cwI 0 hts gX13_text_J4_init_da8c8 rfl rfl rfl (hts (.initialized RJ4) (by decide +kernel)) (hts (.methodLink RX13 81 yJ4_init_da8c8) (by decide +kernel)) (hts (.instanceMethod yJ4_init_da8c8) (by decide +kernel)) rfl (by decide +kernel) ⟨(by show 2 + 1 ≤ x9 + 30; omega), (by show 8 + (1 + 11) + 41 ≤ y9 + 2000; omega)⟩) (q_pS hA hW hS) rfl rfl hl.1 rfl (lv_room (Nat.le_of_ble_eq_true rfl)) dX13_text_60 ⟨(by show _ ≤ z9 + 180; omega), (by show _ ≤ u9 + 9000; omega)⟩) hS (fun f_60 n_60 H locs hp hW hS => ?_)
  obtain ⟨e0_60, e1_60, en_60, hfr_60⟩ := hp
  have l_e0_60 := hW.lt e0_60
  have l_e1_60 := hW.lt e1_60
  have ha_60 : f_60 a = some (cLA 0 (nI i) (some y) sg on ot bl el) := (hfr_60 _ (by omega) (by omega)).trans (q_ne (by omega) h0)
  have hy_60 : f_60 y = some (cNode so1 k1 x1 y1) := (hfr_60 _ (by omega) (by omega)).trans (q_ne (by omega) hcy)
  refine va_ldcS (own := "HighRecipesLaw$Act") hx hb hown (q_ldk hA (i := 6) (by decide)) dX13_text_63 ?_
  refine q_cq (va_runV (As := [.ref (E.2.2.2 (200 + 6))]) (rest := []) ⟨hx, hb, hml, hown, hts⟩ (kJ4_append_k l E f_60 n_60 n (n + 1) 16 6 80 ([] : List Int32) e0_60 e1_60 (by (try simp only [List.length_append, List.length_nil, List.length_cons, pT_len, ktl_0, ktl_1, ktl_2, ktl_3, ktl_4, ktl_5, ktl_6, ktl_7, ktl_8, ktl_9, ktl_10, ktl_11, ktl_12, ktl_13, ktl_14, ktl_15, ktl_16, ktl_17, ktl_18, ktl_19, ktl_20, ktl_21, ktl_22, ktl_23, ktl_24, ktl_25, ktl_26, ktl_27, ktl_28, ktl_29, ktl_30, ktl_31, ktl_32, ktl_33, ktl_34, ktl_35, ktl_36, ktl_37, ktl_38, ktl_39, ktl_40, ktl_41, ktl_42, ktl_43, ktl_44, ktl_45, ktl_46, ktl_47, ktl_48, ktl_49]); omega) (by omega) (by omega) (by first | assumption | decide) (by repeat (first | exact okb_nil | assumption | exact kt_okb (by omega) | exact okb_pT (by omega) | exact dg_ok _ (by omega) | exact okb_one (by omega) | apply okb_app)) (by omega)) (cwV 1 hts gX13_text_J4_append_15ec4 rfl rfl rfl (by decide +kernel) ⟨(by show 5 + 1 ≤ x9 + 30; omega), (by show 8 + (2 + 11) + 300 ≤ y9 + 2000; omega)⟩) (q_pV hA hW hS (ci := 1) rfl e0_60) rfl rfl hl.1 rfl (lv_room (Nat.le_of_ble_eq_true rfl)) dX13_text_65 ⟨(by show _ ≤ z9 + 180; omega), (by show _ ≤ u9 + 9000; omega)⟩) hS (fun r_65 f_65 n_65 H locs hp hW hS => ?_)
  obtain ⟨b1_65, m1_65, rfl, e0_65, e1_65, el_65, em4_65, eb_65, en_65, hfr_65⟩ := hp
  have l_e0_65 := hW.lt e0_65
  have l_e1_65 := hW.lt e1_65
  have ha_65 : f_65 a = some (cLA 0 (nI i) (some y) sg on ot bl el) := (hfr_65 _ (by omega) (by omega) (by omega)).trans ha_60
  have hy_65 : f_65 y = some (cNode so1 k1 x1 y1) := (hfr_65 _ (by omega) (by omega) (by omega)).trans hy_60
  refine lv_aload_n hx hb dX13_text_68 rfl (lv_at hl 0 rfl) ?_
  refine q_get hx hb hts hown hA hW iX13 ha_65 rfl 2 (by decide) (hts (.fieldLink RX13 47 "HighRecipesLaw$Act" "value" "LHighRecipesLaw$Node;") (by decide +kernel)) (fun _ h9 => h9) (v := .ref y) rfl dX13_text_69 ?_
  refine q_cq (va_runV (As := []) (rest := [.ref n]) ⟨hx, hb, hml, hown, hts⟩ (kX16_text_1 l E f_65 n_65 y pn P D W (NODE.to (fun q hq => have h8 := hP q hq; ⟨hq, ((hfr_65 _ (by omega) (by omega) (by omega)).trans ((hfr_60 _ (by omega) (by omega)).trans (q_ne (by omega) rfl)))⟩) hN) hpn (fun q hq => by have := hP q hq; omega)) (cwV 0 hts gX13_text_X16_text rfl rfl rfl (by decide +kernel) ⟨(by show 18 + 1 ≤ x9 + 30; omega), (by show 8 + (1 + 11) + 1100 ≤ y9 + 2000; omega)⟩) (q_pV hA hW hS (ci := 16) rfl hy_65) rfl rfl hl.1 rfl (lv_room (Nat.le_of_ble_eq_true rfl)) dX13_text_72 ⟨(by show _ ≤ z9 + 180; omega), (by show _ ≤ u9 + 9000; omega)⟩) hS (fun r_72 f_72 n_72 H locs hp hW hS => ?_)
  obtain ⟨r_72, rfl, eT_72, ef_72, en_72, hfr_72⟩ := hp
  have ha_72 : f_72 a = some (cLA 0 (nI i) (some y) sg on ot bl el) := (hfr_72 _ (by omega)).trans ha_65
  have hy_72 : f_72 y = some (cNode so1 k1 x1 y1) := (hfr_72 _ (by omega)).trans hy_65
  have hn_72 : f_72 n = some (cSB b1_65 (nI (([] : List Int32) ++ kt 6).length)) := (hfr_72 _ (by omega)).trans e0_65
  have hb1_65_72 : f_72 b1_65 = some (aB E m1_65 (tx (([] : List Int32) ++ kt 6))) := (hfr_72 _ (by omega)).trans e1_65
  refine q_cq (va_runV (As := [.ref r_72]) (rest := []) ⟨hx, hb, hml, hown, hts⟩ (kJ4_append_S l E f_72 n_72 n b1_65 m1_65 r_72 80 (([] : List Int32) ++ kt 6) W hn_72 hb1_65_72 (by (try simp only [List.length_append, List.length_nil, List.length_cons, pT_len, ktl_0, ktl_1, ktl_2, ktl_3, ktl_4, ktl_5, ktl_6, ktl_7, ktl_8, ktl_9, ktl_10, ktl_11, ktl_12, ktl_13, ktl_14, ktl_15, ktl_16, ktl_17, ktl_18, ktl_19, ktl_20, ktl_21, ktl_22, ktl_23, ktl_24, ktl_25, ktl_26, ktl_27, ktl_28, ktl_29, ktl_30, ktl_31, ktl_32, ktl_33, ktl_34, ktl_35, ktl_36, ktl_37, ktl_38, ktl_39, ktl_40, ktl_41, ktl_42, ktl_43, ktl_44, ktl_45, ktl_46, ktl_47, ktl_48, ktl_49]); omega) (by omega) (by omega) (by first | assumption | decide) (by repeat (first | exact okb_nil | assumption | exact kt_okb (by omega) | exact okb_pT (by omega) | exact dg_ok _ (by omega) | exact okb_one (by omega) | apply okb_app)) (by repeat (first | exact okb_nil | assumption | exact kt_okb (by omega) | exact okb_pT (by omega) | exact dg_ok _ (by omega) | exact okb_one (by omega) | apply okb_app)) eT_72 (fun rb h9 => by have := ef_72 rb h9; omega)) (cwV 1 hts gX13_text_J4_append_15ec4 rfl rfl rfl (by decide +kernel) ⟨(by show 5 + 1 ≤ x9 + 30; omega), (by show 8 + (2 + 11) + 300 ≤ y9 + 2000; omega)⟩) (q_pV hA hW hS (ci := 1) rfl hn_72) rfl rfl hl.1 rfl (lv_room (Nat.le_of_ble_eq_true rfl)) dX13_text_75 ⟨(by show _ ≤ z9 + 180; omega), (by show _ ≤ u9 + 9000; omega)⟩) hS (fun r_75 f_75 n_75 H locs hp hW hS => ?_)
  obtain ⟨b1_75, m1_75, rfl, e0_75, e1_75, el_75, em4_75, eb_75, en_75, hfr_75⟩ := hp
  have l_e0_75 := hW.lt e0_75
  have l_e1_75 := hW.lt e1_75
  have ha_75 : f_75 a = some (cLA 0 (nI i) (some y) sg on ot bl el) := (hfr_75 _ (by omega) (by omega) (by omega)).trans ha_72
  have hy_75 : f_75 y = some (cNode so1 k1 x1 y1) := (hfr_75 _ (by omega) (by omega) (by omega)).trans hy_72
  refine va_ldcS (own := "HighRecipesLaw$Act") hx hb hown (q_ldk hA (i := 11) (by decide)) dX13_text_78 ?_
  refine q_cq (va_runV (As := [.ref (E.2.2.2 (200 + 11))]) (rest := []) ⟨hx, hb, hml, hown, hts⟩ (kJ4_append_k l E f_75 n_75 n b1_75 m1_75 11 80 ((([] : List Int32) ++ kt 6) ++ W) e0_75 e1_75 (by (try simp only [List.length_append, List.length_nil, List.length_cons, pT_len, ktl_0, ktl_1, ktl_2, ktl_3, ktl_4, ktl_5, ktl_6, ktl_7, ktl_8, ktl_9, ktl_10, ktl_11, ktl_12, ktl_13, ktl_14, ktl_15, ktl_16, ktl_17, ktl_18, ktl_19, ktl_20, ktl_21, ktl_22, ktl_23, ktl_24, ktl_25, ktl_26, ktl_27, ktl_28, ktl_29, ktl_30, ktl_31, ktl_32, ktl_33, ktl_34, ktl_35, ktl_36, ktl_37, ktl_38, ktl_39, ktl_40, ktl_41, ktl_42, ktl_43, ktl_44, ktl_45, ktl_46, ktl_47, ktl_48, ktl_49]); omega) (by omega) (by omega) (by first | assumption | decide) (by repeat (first | exact okb_nil | assumption | exact kt_okb (by omega) | exact okb_pT (by omega) | exact dg_ok _ (by omega) | exact okb_one (by omega) | apply okb_app)) (by omega)) (cwV 1 hts gX13_text_J4_append_15ec4 rfl rfl rfl (by decide +kernel) ⟨(by show 5 + 1 ≤ x9 + 30; omega), (by show 8 + (2 + 11) + 300 ≤ y9 + 2000; omega)⟩) (q_pV hA hW hS (ci := 1) rfl e0_75) rfl rfl hl.1 rfl (lv_room (Nat.le_of_ble_eq_true rfl)) dX13_text_80 ⟨(by show _ ≤ z9 + 180; omega), (by show _ ≤ u9 + 9000; omega)⟩) hS (fun r_80 f_80 n_80 H locs hp hW hS => ?_)
  obtain ⟨b1_80, m1_80, rfl, e0_80, e1_80, el_80, em4_80, eb_80, en_80, hfr_80⟩ := hp
  have l_e0_80 := hW.lt e0_80
  have l_e1_80 := hW.lt e1_80
  have ha_80 : f_80 a = some (cLA 0 (nI i) (some y) sg on ot bl el) := (hfr_80 _ (by omega) (by omega) (by omega)).trans ha_75
  have hy_80 : f_80 y = some (cNode so1 k1 x1 y1) := (hfr_80 _ (by omega) (by omega) (by omega)).trans hy_75
  refine lv_aload_n hx hb dX13_text_83 rfl (lv_at hl 0 rfl) ?_
  refine q_get hx hb hts hown hA hW iX13 ha_80 rfl 1 (by decide) (hts (.fieldLink RX13 41 "HighRecipesLaw$Act" "whom" "I") (by decide +kernel)) (fun _ h9 => h9) (v := .int (nI i)) rfl dX13_text_84 ?_
  refine q_cq (va_runSN (As := [.int (nI i)]) (rest := [.ref n]) ⟨hx, hb, hml, hown, hts⟩ (kL_pan l E f_80 n_80 i (by omega)) ⟨va_cnB 1 hts gX13_text_L_pan_n87 rfl rfl rfl (hA.2.2.2.2.1 ("HighRecipesLaw$Act", 87, ⟨"HighRecipesLaw", "pan", "(I)Ljava/lang/String;"⟩, "HighRecipesLaw") (by decide +kernel)) (hts (.initialized RL) (by decide +kernel)) (by decide +kernel) ⟨(by show 6 + 1 ≤ x9 + 30; omega), (by show 8 + (1 + 11) + 321 ≤ y9 + 2000; omega)⟩, hts (.static yL_pan) (by decide +kernel), trivial⟩ (q_pS hA hW hS) rfl rfl hl.1 rfl (lv_room (Nat.le_of_ble_eq_true rfl)) dX13_text_87 ⟨(by show _ ≤ z9 + 180; omega), (by show _ ≤ u9 + 9000; omega)⟩) hS (fun r_87 f_87 n_87 H locs hp hW hS => ?_)
  obtain ⟨r_87, rfl, e0_87, e1_87, er_87, en_87, hfr_87⟩ := hp
  have l_e0_87 := hW.lt e0_87
  have l_e1_87 := hW.lt e1_87
  have ha_87 : f_87 a = some (cLA 0 (nI i) (some y) sg on ot bl el) := (hfr_87 _ (by omega)).trans ha_80
  have hy_87 : f_87 y = some (cNode so1 k1 x1 y1) := (hfr_87 _ (by omega)).trans hy_80
  have hn_87 : f_87 n = some (cSB b1_80 (nI (((([] : List Int32) ++ kt 6) ++ W) ++ kt 11).length)) := (hfr_87 _ (by omega)).trans e0_80
  have hb1_80_87 : f_87 b1_80 = some (aB E m1_80 (tx (((([] : List Int32) ++ kt 6) ++ W) ++ kt 11))) := (hfr_87 _ (by omega)).trans e1_80
  refine q_cq (va_runV (As := [.ref r_87]) (rest := []) ⟨hx, hb, hml, hown, hts⟩ (kJ4_append_15ec4 l E f_87 n_87 n b1_80 m1_80 r_87 (r_87 + 1) 80 (((([] : List Int32) ++ kt 6) ++ W) ++ kt 11) (pT i) hn_87 hb1_80_87 e0_87 e1_87 (by (try simp only [List.length_append, List.length_nil, List.length_cons, pT_len, ktl_0, ktl_1, ktl_2, ktl_3, ktl_4, ktl_5, ktl_6, ktl_7, ktl_8, ktl_9, ktl_10, ktl_11, ktl_12, ktl_13, ktl_14, ktl_15, ktl_16, ktl_17, ktl_18, ktl_19, ktl_20, ktl_21, ktl_22, ktl_23, ktl_24, ktl_25, ktl_26, ktl_27, ktl_28, ktl_29, ktl_30, ktl_31, ktl_32, ktl_33, ktl_34, ktl_35, ktl_36, ktl_37, ktl_38, ktl_39, ktl_40, ktl_41, ktl_42, ktl_43, ktl_44, ktl_45, ktl_46, ktl_47, ktl_48, ktl_49]); omega) (by omega) (by omega) (by first | assumption | decide) (by repeat (first | exact okb_nil | assumption | exact kt_okb (by omega) | exact okb_pT (by omega) | exact dg_ok _ (by omega) | exact okb_one (by omega) | apply okb_app)) (by repeat (first | exact okb_nil | assumption | exact kt_okb (by omega) | exact okb_pT (by omega) | exact dg_ok _ (by omega) | exact okb_one (by omega) | apply okb_app)) (by omega)) (cwV 1 hts gX13_text_J4_append_15ec4 rfl rfl rfl (by decide +kernel) ⟨(by show 5 + 1 ≤ x9 + 30; omega), (by show 8 + (2 + 11) + 300 ≤ y9 + 2000; omega)⟩) (q_pV hA hW hS (ci := 1) rfl hn_87) rfl rfl hl.1 rfl (lv_room (Nat.le_of_ble_eq_true rfl)) dX13_text_90 ⟨(by show _ ≤ z9 + 180; omega), (by show _ ≤ u9 + 9000; omega)⟩) hS (fun r_90 f_90 n_90 H locs hp hW hS => ?_)
  obtain ⟨b1_90, m1_90, rfl, e0_90, e1_90, el_90, em4_90, eb_90, en_90, hfr_90⟩ := hp
  have l_e0_90 := hW.lt e0_90
  have l_e1_90 := hW.lt e1_90
  have ha_90 : f_90 a = some (cLA 0 (nI i) (some y) sg on ot bl el) := (hfr_90 _ (by omega) (by omega) (by omega)).trans ha_87
  have hy_90 : f_90 y = some (cNode so1 k1 x1 y1) := (hfr_90 _ (by omega) (by omega) (by omega)).trans hy_87
  have hr_87_90 : f_90 r_87 = some (cStr (r_87 + 1)) := (hfr_90 _ (by omega) (by omega) (by omega)).trans e0_87
  have hr_87___1_90 : f_90 (r_87 + 1) = some (aB E ((pT i).length) (tx (pT i))) := (hfr_90 _ (by omega) (by omega) (by omega)).trans e1_87
  refine va_ldcS (own := "HighRecipesLaw$Act") hx hb hown (q_ldk hA (i := 12) (by decide)) dX13_text_93 ?_
  refine q_cq (va_runV (As := [.ref (E.2.2.2 (200 + 12))]) (rest := []) ⟨hx, hb, hml, hown, hts⟩ (kJ4_append_k l E f_90 n_90 n b1_90 m1_90 12 80 ((((([] : List Int32) ++ kt 6) ++ W) ++ kt 11) ++ (pT i)) e0_90 e1_90 (by (try simp only [List.length_append, List.length_nil, List.length_cons, pT_len, ktl_0, ktl_1, ktl_2, ktl_3, ktl_4, ktl_5, ktl_6, ktl_7, ktl_8, ktl_9, ktl_10, ktl_11, ktl_12, ktl_13, ktl_14, ktl_15, ktl_16, ktl_17, ktl_18, ktl_19, ktl_20, ktl_21, ktl_22, ktl_23, ktl_24, ktl_25, ktl_26, ktl_27, ktl_28, ktl_29, ktl_30, ktl_31, ktl_32, ktl_33, ktl_34, ktl_35, ktl_36, ktl_37, ktl_38, ktl_39, ktl_40, ktl_41, ktl_42, ktl_43, ktl_44, ktl_45, ktl_46, ktl_47, ktl_48, ktl_49]); omega) (by omega) (by omega) (by first | assumption | decide) (by repeat (first | exact okb_nil | assumption | exact kt_okb (by omega) | exact okb_pT (by omega) | exact dg_ok _ (by omega) | exact okb_one (by omega) | apply okb_app)) (by omega)) (cwV 1 hts gX13_text_J4_append_15ec4 rfl rfl rfl (by decide +kernel) ⟨(by show 5 + 1 ≤ x9 + 30; omega), (by show 8 + (2 + 11) + 300 ≤ y9 + 2000; omega)⟩) (q_pV hA hW hS (ci := 1) rfl e0_90) rfl rfl hl.1 rfl (lv_room (Nat.le_of_ble_eq_true rfl)) dX13_text_95 ⟨(by show _ ≤ z9 + 180; omega), (by show _ ≤ u9 + 9000; omega)⟩) hS (fun r_95 f_95 n_95 H locs hp hW hS => ?_)
  obtain ⟨b1_95, m1_95, rfl, e0_95, e1_95, el_95, em4_95, eb_95, en_95, hfr_95⟩ := hp
  have l_e0_95 := hW.lt e0_95
  have l_e1_95 := hW.lt e1_95
  have ha_95 : f_95 a = some (cLA 0 (nI i) (some y) sg on ot bl el) := (hfr_95 _ (by omega) (by omega) (by omega)).trans ha_90
  have hy_95 : f_95 y = some (cNode so1 k1 x1 y1) := (hfr_95 _ (by omega) (by omega) (by omega)).trans hy_90
  have hr_87_95 : f_95 r_87 = some (cStr (r_87 + 1)) := (hfr_95 _ (by omega) (by omega) (by omega)).trans hr_87_90
  have hr_87___1_95 : f_95 (r_87 + 1) = some (aB E ((pT i).length) (tx (pT i))) := (hfr_95 _ (by omega) (by omega) (by omega)).trans hr_87___1_90
  refine q_cq (va_runV (As := []) (rest := []) ⟨hx, hb, hml, hown, hts⟩ (kJ4_toString_0e30d l E f_95 n_95 n b1_95 m1_95 80 (((((([] : List Int32) ++ kt 6) ++ W) ++ kt 11) ++ (pT i)) ++ kt 12) e0_95 e1_95 (by assumption) (by omega) (by (try simp only [List.length_append, List.length_nil, List.length_cons, pT_len, ktl_0, ktl_1, ktl_2, ktl_3, ktl_4, ktl_5, ktl_6, ktl_7, ktl_8, ktl_9, ktl_10, ktl_11, ktl_12, ktl_13, ktl_14, ktl_15, ktl_16, ktl_17, ktl_18, ktl_19, ktl_20, ktl_21, ktl_22, ktl_23, ktl_24, ktl_25, ktl_26, ktl_27, ktl_28, ktl_29, ktl_30, ktl_31, ktl_32, ktl_33, ktl_34, ktl_35, ktl_36, ktl_37, ktl_38, ktl_39, ktl_40, ktl_41, ktl_42, ktl_43, ktl_44, ktl_45, ktl_46, ktl_47, ktl_48, ktl_49]); omega) (by omega) (by repeat (first | exact okb_nil | assumption | exact kt_okb (by omega) | exact okb_pT (by omega) | exact dg_ok _ (by omega) | exact okb_one (by omega) | apply okb_app))) (cwV 0 hts gX13_text_J4_toString_0e30d rfl rfl rfl (by decide +kernel) ⟨(by show 5 + 1 ≤ x9 + 30; omega), (by show 8 + (1 + 11) + 131 ≤ y9 + 2000; omega)⟩) (q_pV hA hW hS (ci := 1) rfl e0_95) rfl rfl hl.1 rfl (lv_room (Nat.le_of_ble_eq_true rfl)) dX13_text_98 ⟨(by show _ ≤ z9 + 180; omega), (by show _ ≤ u9 + 9000; omega)⟩) hS (fun r_98 f_98 n_98 H locs hp hW hS => ?_)
  obtain ⟨rfl, e0_98, e1_98, en_98, hfr_98⟩ := hp
  have l_e0_98 := hW.lt e0_98
  have l_e1_98 := hW.lt e1_98
  have ha_98 : f_98 a = some (cLA 0 (nI i) (some y) sg on ot bl el) := (hfr_98 _ (by omega)).trans ha_95
  have hy_98 : f_98 y = some (cNode so1 k1 x1 y1) := (hfr_98 _ (by omega)).trans hy_95
  have hr_87_98 : f_98 r_87 = some (cStr (r_87 + 1)) := (hfr_98 _ (by omega)).trans hr_87_95
  have hr_87___1_98 : f_98 (r_87 + 1) = some (aB E ((pT i).length) (tx (pT i))) := (hfr_98 _ (by omega)).trans hr_87___1_95
  have hn_98 : f_98 n = some (cSB b1_95 (nI (((((([] : List Int32) ++ kt 6) ++ W) ++ kt 11) ++ (pT i)) ++ kt 12).length)) := (hfr_98 _ (by omega)).trans e0_95
  have hb1_95_98 : f_98 b1_95 = some (aB E m1_95 (tx (((((([] : List Int32) ++ kt 6) ++ W) ++ kt 11) ++ (pT i)) ++ kt 12))) := (hfr_98 _ (by omega)).trans e1_95
  exact q_aret (v := some n_95) hx hb hr (Or.inl ⟨_, rfl⟩) hlocks hW hS ⟨n_95, rfl, e0_98, e1_98, (by omega), (by omega), (fun q g0 => ((hfr_98 _ (by omega)).trans ((hfr_95 _ (by omega) (by omega) (by omega)).trans ((hfr_90 _ (by omega) (by omega) (by omega)).trans ((hfr_87 _ (by omega)).trans ((hfr_80 _ (by omega) (by omega) (by omega)).trans ((hfr_75 _ (by omega) (by omega) (by omega)).trans ((hfr_72 _ (by omega)).trans ((hfr_65 _ (by omega) (by omega) (by omega)).trans ((hfr_60 _ (by omega) (by omega)).trans (q_ne (by omega) rfl)))))))))))⟩ (by show _ ≤ z9 + 180; omega) (by show _ ≤ u9 + 9000; omega) dX13_text_101

set_option maxHeartbeats 4000000 in
set_option maxRecDepth 100000 in
theorem kX13_text_k1 (l : Launch) (E : q_E) (f : q_H) (n : Nat) (x9 y9 z9 u9 a pn : Nat) (P : Nat → Prop) (i y : Nat) (D : q_D) (W : List Int32) (sg on ot bl el : Option Nat) (h0 : f a = some (cLA 1 (nI i) (some y) sg on ot bl el)) (hpn : pn ≤ 8) (hP : ∀ q, P q → q < n) (hN : NODE pn P f 1 y D W) (hi : i < pn) : Met l yX13_text wsX13_text ({ frames := x9 + 30, cells := z9 + 180, slots := u9 + 9000, locals := y9 + 2000 }) (q_P E [.ref a] f n) (q_Qq E (fun r0 f1 n1 => ∃ (r : Nat), some r = r0 ∧ f1 r = some (cStr (r + 1)) ∧ f1 (r + 1) = some (aB E ((kt 6 ++ W ++ kt 13 ++ pT i ++ kt 14).length) (tx (kt 6 ++ W ++ kt 13 ++ pT i ++ kt 14))) ∧ n ≤ r ∧ n ≤ n1 ∧ ∀ z9, z9 < n → f1 z9 = f z9)) (z9 + 180) (u9 + 9000) (q_ge E) := by
  refine Met.ofW (cc := cX13_text) (maxL := 3) (ret := (some (.object "java/lang/String"))) (by decide) rfl ?_
  intro p0_ e0_ s0_ m0_ args0_ below0_ meth0_ c0_ s1_ B hml hv
  obtain ⟨rfl, hA, hW⟩ := hv
  have hx := B.exec
  have hb := B.bytes
  have hr := B.returns
  have hts := atoms_spec (ws := wsX13_text) B.pre
  have hown : s0_.vm.findClass RX13 = some m0_.cls := findClass_of_methodNamed B.named
  have hlocks := B.notSynchronized
  have hS : va_S (q_ge E) s0_.heap s0_.heap [] := va_S.rf
  have iJ4 : ∀ w ∈ wsJ40, w ∈ wsX13_text := by decide +kernel
  have iX13 : ∀ w ∈ wsX130, w ∈ wsX13_text := by decide +kernel
  have hl := lv_entry ([.ref a]) (n := 3) (Nat.le_of_ble_eq_true rfl)
  rw [lg_entry_eq]
  generalize (lg_sl ([.ref a]) ++ List.replicate (3 - (lg_sl ([.ref a])).length) Slot.unset).toArray = ls at hl ⊢
  have hl : lv_has ls 3 [(0, .ref a)] := hl
  have l_h0 := hW.lt h0
  have lW := hN.len1
  have oW := hN.okb hpn
  obtain ⟨-, so1, k1, x1, y1, hcy⟩ := hN.cell
  have l_cy := hW.lt hcy
  refine lv_aload_n hx hb dX13_text_0 rfl (lv_at hl 0 rfl) ?_
  refine q_get hx hb hts hown hA hW iX13 h0 rfl 0 (by decide) (hts (.fieldLink RX13 37 "HighRecipesLaw$Act" "does" "I") (by decide +kernel)) (fun _ h9 => h9) (v := .int 1) rfl dX13_text_1 ?_
  refine lv_tableIn (x := 1) (off := 98) (tgt := 102) hx hb dX13_text_4 (by decide) (by decide) (by decide) (by decide) ?_
  refine q_new (ci := 1) hx hb hts hown hA hW hS iJ4 tyJ4 tyJ4_ok (hts (.classLink RX13 61 RJ4) (by decide +kernel)) (hts (.instantiable RJ4 4) (by decide +kernel)) (hts (.initialized RJ4) (by decide +kernel)) rfl (fs := [.null, .int 0, .int 0, .int 0]) (by decide) (by show _ ≤ z9 + 180; omega) (by show _ ≤ u9 + 9000; omega) dX13_text_102 (fun H hW hS => ?_)
  have hW : q_W E (va_up f n (some (rSB none 0 0 0))) (n + 1) H := hW
  refine lv_dup hx hb dX13_text_105 rfl ?_
  refine q_cv (va_runI (As := []) (rest := [.ref n]) ⟨hx, hb, hml, hown, hts⟩ (kJ4_init_da8c8 l E (va_up f n (some (rSB none 0 0 0))) (n + 1) n q_eq) (cwI 0 hts gX13_text_J4_init_da8c8 rfl rfl rfl (hts (.initialized RJ4) (by decide +kernel)) (hts (.methodLink RX13 81 yJ4_init_da8c8) (by decide +kernel)) (hts (.instanceMethod yJ4_init_da8c8) (by decide +kernel)) rfl (by decide +kernel) ⟨(by show 2 + 1 ≤ x9 + 30; omega), (by show 8 + (1 + 11) + 41 ≤ y9 + 2000; omega)⟩) (q_pS hA hW hS) rfl rfl hl.1 rfl (lv_room (Nat.le_of_ble_eq_true rfl)) dX13_text_106 ⟨(by show _ ≤ z9 + 180; omega), (by show _ ≤ u9 + 9000; omega)⟩) hS (fun f_106 n_106 H locs hp hW hS => ?_)
  obtain ⟨e0_106, e1_106, en_106, hfr_106⟩ := hp
  have l_e0_106 := hW.lt e0_106
  have l_e1_106 := hW.lt e1_106
  have ha_106 : f_106 a = some (cLA 1 (nI i) (some y) sg on ot bl el) := (hfr_106 _ (by omega) (by omega)).trans (q_ne (by omega) h0)
  have hy_106 : f_106 y = some (cNode so1 k1 x1 y1) := (hfr_106 _ (by omega) (by omega)).trans (q_ne (by omega) hcy)
  refine va_ldcS (own := "HighRecipesLaw$Act") hx hb hown (q_ldk hA (i := 6) (by decide)) dX13_text_109 ?_
  refine q_cq (va_runV (As := [.ref (E.2.2.2 (200 + 6))]) (rest := []) ⟨hx, hb, hml, hown, hts⟩ (kJ4_append_k l E f_106 n_106 n (n + 1) 16 6 80 ([] : List Int32) e0_106 e1_106 (by (try simp only [List.length_append, List.length_nil, List.length_cons, pT_len, ktl_0, ktl_1, ktl_2, ktl_3, ktl_4, ktl_5, ktl_6, ktl_7, ktl_8, ktl_9, ktl_10, ktl_11, ktl_12, ktl_13, ktl_14, ktl_15, ktl_16, ktl_17, ktl_18, ktl_19, ktl_20, ktl_21, ktl_22, ktl_23, ktl_24, ktl_25, ktl_26, ktl_27, ktl_28, ktl_29, ktl_30, ktl_31, ktl_32, ktl_33, ktl_34, ktl_35, ktl_36, ktl_37, ktl_38, ktl_39, ktl_40, ktl_41, ktl_42, ktl_43, ktl_44, ktl_45, ktl_46, ktl_47, ktl_48, ktl_49]); omega) (by omega) (by omega) (by first | assumption | decide) (by repeat (first | exact okb_nil | assumption | exact kt_okb (by omega) | exact okb_pT (by omega) | exact dg_ok _ (by omega) | exact okb_one (by omega) | apply okb_app)) (by omega)) (cwV 1 hts gX13_text_J4_append_15ec4 rfl rfl rfl (by decide +kernel) ⟨(by show 5 + 1 ≤ x9 + 30; omega), (by show 8 + (2 + 11) + 300 ≤ y9 + 2000; omega)⟩) (q_pV hA hW hS (ci := 1) rfl e0_106) rfl rfl hl.1 rfl (lv_room (Nat.le_of_ble_eq_true rfl)) dX13_text_111 ⟨(by show _ ≤ z9 + 180; omega), (by show _ ≤ u9 + 9000; omega)⟩) hS (fun r_111 f_111 n_111 H locs hp hW hS => ?_)
  obtain ⟨b1_111, m1_111, rfl, e0_111, e1_111, el_111, em4_111, eb_111, en_111, hfr_111⟩ := hp
  have l_e0_111 := hW.lt e0_111
  have l_e1_111 := hW.lt e1_111
  have ha_111 : f_111 a = some (cLA 1 (nI i) (some y) sg on ot bl el) := (hfr_111 _ (by omega) (by omega) (by omega)).trans ha_106
  have hy_111 : f_111 y = some (cNode so1 k1 x1 y1) := (hfr_111 _ (by omega) (by omega) (by omega)).trans hy_106
  refine lv_aload_n hx hb dX13_text_114 rfl (lv_at hl 0 rfl) ?_
  refine q_get hx hb hts hown hA hW iX13 ha_111 rfl 2 (by decide) (hts (.fieldLink RX13 47 "HighRecipesLaw$Act" "value" "LHighRecipesLaw$Node;") (by decide +kernel)) (fun _ h9 => h9) (v := .ref y) rfl dX13_text_115 ?_
  refine q_cq (va_runV (As := []) (rest := [.ref n]) ⟨hx, hb, hml, hown, hts⟩ (kX16_text_1 l E f_111 n_111 y pn P D W (NODE.to (fun q hq => have h8 := hP q hq; ⟨hq, ((hfr_111 _ (by omega) (by omega) (by omega)).trans ((hfr_106 _ (by omega) (by omega)).trans (q_ne (by omega) rfl)))⟩) hN) hpn (fun q hq => by have := hP q hq; omega)) (cwV 0 hts gX13_text_X16_text rfl rfl rfl (by decide +kernel) ⟨(by show 18 + 1 ≤ x9 + 30; omega), (by show 8 + (1 + 11) + 1100 ≤ y9 + 2000; omega)⟩) (q_pV hA hW hS (ci := 16) rfl hy_111) rfl rfl hl.1 rfl (lv_room (Nat.le_of_ble_eq_true rfl)) dX13_text_118 ⟨(by show _ ≤ z9 + 180; omega), (by show _ ≤ u9 + 9000; omega)⟩) hS (fun r_118 f_118 n_118 H locs hp hW hS => ?_)
  obtain ⟨r_118, rfl, eT_118, ef_118, en_118, hfr_118⟩ := hp
  have ha_118 : f_118 a = some (cLA 1 (nI i) (some y) sg on ot bl el) := (hfr_118 _ (by omega)).trans ha_111
  have hy_118 : f_118 y = some (cNode so1 k1 x1 y1) := (hfr_118 _ (by omega)).trans hy_111
  have hn_118 : f_118 n = some (cSB b1_111 (nI (([] : List Int32) ++ kt 6).length)) := (hfr_118 _ (by omega)).trans e0_111
  have hb1_111_118 : f_118 b1_111 = some (aB E m1_111 (tx (([] : List Int32) ++ kt 6))) := (hfr_118 _ (by omega)).trans e1_111
  refine q_cq (va_runV (As := [.ref r_118]) (rest := []) ⟨hx, hb, hml, hown, hts⟩ (kJ4_append_S l E f_118 n_118 n b1_111 m1_111 r_118 80 (([] : List Int32) ++ kt 6) W hn_118 hb1_111_118 (by (try simp only [List.length_append, List.length_nil, List.length_cons, pT_len, ktl_0, ktl_1, ktl_2, ktl_3, ktl_4, ktl_5, ktl_6, ktl_7, ktl_8, ktl_9, ktl_10, ktl_11, ktl_12, ktl_13, ktl_14, ktl_15, ktl_16, ktl_17, ktl_18, ktl_19, ktl_20, ktl_21, ktl_22, ktl_23, ktl_24, ktl_25, ktl_26, ktl_27, ktl_28, ktl_29, ktl_30, ktl_31, ktl_32, ktl_33, ktl_34, ktl_35, ktl_36, ktl_37, ktl_38, ktl_39, ktl_40, ktl_41, ktl_42, ktl_43, ktl_44, ktl_45, ktl_46, ktl_47, ktl_48, ktl_49]); omega) (by omega) (by omega) (by first | assumption | decide) (by repeat (first | exact okb_nil | assumption | exact kt_okb (by omega) | exact okb_pT (by omega) | exact dg_ok _ (by omega) | exact okb_one (by omega) | apply okb_app)) (by repeat (first | exact okb_nil | assumption | exact kt_okb (by omega) | exact okb_pT (by omega) | exact dg_ok _ (by omega) | exact okb_one (by omega) | apply okb_app)) eT_118 (fun rb h9 => by have := ef_118 rb h9; omega)) (cwV 1 hts gX13_text_J4_append_15ec4 rfl rfl rfl (by decide +kernel) ⟨(by show 5 + 1 ≤ x9 + 30; omega), (by show 8 + (2 + 11) + 300 ≤ y9 + 2000; omega)⟩) (q_pV hA hW hS (ci := 1) rfl hn_118) rfl rfl hl.1 rfl (lv_room (Nat.le_of_ble_eq_true rfl)) dX13_text_121 ⟨(by show _ ≤ z9 + 180; omega), (by show _ ≤ u9 + 9000; omega)⟩) hS (fun r_121 f_121 n_121 H locs hp hW hS => ?_)
  obtain ⟨b1_121, m1_121, rfl, e0_121, e1_121, el_121, em4_121, eb_121, en_121, hfr_121⟩ := hp
  have l_e0_121 := hW.lt e0_121
  have l_e1_121 := hW.lt e1_121
  have ha_121 : f_121 a = some (cLA 1 (nI i) (some y) sg on ot bl el) := (hfr_121 _ (by omega) (by omega) (by omega)).trans ha_118
  have hy_121 : f_121 y = some (cNode so1 k1 x1 y1) := (hfr_121 _ (by omega) (by omega) (by omega)).trans hy_118
  refine va_ldcS (own := "HighRecipesLaw$Act") hx hb hown (q_ldk hA (i := 13) (by decide)) dX13_text_124 ?_
  refine q_cq (va_runV (As := [.ref (E.2.2.2 (200 + 13))]) (rest := []) ⟨hx, hb, hml, hown, hts⟩ (kJ4_append_k l E f_121 n_121 n b1_121 m1_121 13 80 ((([] : List Int32) ++ kt 6) ++ W) e0_121 e1_121 (by (try simp only [List.length_append, List.length_nil, List.length_cons, pT_len, ktl_0, ktl_1, ktl_2, ktl_3, ktl_4, ktl_5, ktl_6, ktl_7, ktl_8, ktl_9, ktl_10, ktl_11, ktl_12, ktl_13, ktl_14, ktl_15, ktl_16, ktl_17, ktl_18, ktl_19, ktl_20, ktl_21, ktl_22, ktl_23, ktl_24, ktl_25, ktl_26, ktl_27, ktl_28, ktl_29, ktl_30, ktl_31, ktl_32, ktl_33, ktl_34, ktl_35, ktl_36, ktl_37, ktl_38, ktl_39, ktl_40, ktl_41, ktl_42, ktl_43, ktl_44, ktl_45, ktl_46, ktl_47, ktl_48, ktl_49]); omega) (by omega) (by omega) (by first | assumption | decide) (by repeat (first | exact okb_nil | assumption | exact kt_okb (by omega) | exact okb_pT (by omega) | exact dg_ok _ (by omega) | exact okb_one (by omega) | apply okb_app)) (by omega)) (cwV 1 hts gX13_text_J4_append_15ec4 rfl rfl rfl (by decide +kernel) ⟨(by show 5 + 1 ≤ x9 + 30; omega), (by show 8 + (2 + 11) + 300 ≤ y9 + 2000; omega)⟩) (q_pV hA hW hS (ci := 1) rfl e0_121) rfl rfl hl.1 rfl (lv_room (Nat.le_of_ble_eq_true rfl)) dX13_text_126 ⟨(by show _ ≤ z9 + 180; omega), (by show _ ≤ u9 + 9000; omega)⟩) hS (fun r_126 f_126 n_126 H locs hp hW hS => ?_)
  obtain ⟨b1_126, m1_126, rfl, e0_126, e1_126, el_126, em4_126, eb_126, en_126, hfr_126⟩ := hp
  have l_e0_126 := hW.lt e0_126
  have l_e1_126 := hW.lt e1_126
  have ha_126 : f_126 a = some (cLA 1 (nI i) (some y) sg on ot bl el) := (hfr_126 _ (by omega) (by omega) (by omega)).trans ha_121
  have hy_126 : f_126 y = some (cNode so1 k1 x1 y1) := (hfr_126 _ (by omega) (by omega) (by omega)).trans hy_121
  refine lv_aload_n hx hb dX13_text_129 rfl (lv_at hl 0 rfl) ?_
  refine q_get hx hb hts hown hA hW iX13 ha_126 rfl 1 (by decide) (hts (.fieldLink RX13 41 "HighRecipesLaw$Act" "whom" "I") (by decide +kernel)) (fun _ h9 => h9) (v := .int (nI i)) rfl dX13_text_130 ?_
  refine q_cq (va_runSN (As := [.int (nI i)]) (rest := [.ref n]) ⟨hx, hb, hml, hown, hts⟩ (kL_pan l E f_126 n_126 i (by omega)) ⟨va_cnB 1 hts gX13_text_L_pan_n87 rfl rfl rfl (hA.2.2.2.2.1 ("HighRecipesLaw$Act", 87, ⟨"HighRecipesLaw", "pan", "(I)Ljava/lang/String;"⟩, "HighRecipesLaw") (by decide +kernel)) (hts (.initialized RL) (by decide +kernel)) (by decide +kernel) ⟨(by show 6 + 1 ≤ x9 + 30; omega), (by show 8 + (1 + 11) + 321 ≤ y9 + 2000; omega)⟩, hts (.static yL_pan) (by decide +kernel), trivial⟩ (q_pS hA hW hS) rfl rfl hl.1 rfl (lv_room (Nat.le_of_ble_eq_true rfl)) dX13_text_133 ⟨(by show _ ≤ z9 + 180; omega), (by show _ ≤ u9 + 9000; omega)⟩) hS (fun r_133 f_133 n_133 H locs hp hW hS => ?_)
  obtain ⟨r_133, rfl, e0_133, e1_133, er_133, en_133, hfr_133⟩ := hp
  have l_e0_133 := hW.lt e0_133
  have l_e1_133 := hW.lt e1_133
  have ha_133 : f_133 a = some (cLA 1 (nI i) (some y) sg on ot bl el) := (hfr_133 _ (by omega)).trans ha_126
  have hy_133 : f_133 y = some (cNode so1 k1 x1 y1) := (hfr_133 _ (by omega)).trans hy_126
  have hn_133 : f_133 n = some (cSB b1_126 (nI (((([] : List Int32) ++ kt 6) ++ W) ++ kt 13).length)) := (hfr_133 _ (by omega)).trans e0_126
  have hb1_126_133 : f_133 b1_126 = some (aB E m1_126 (tx (((([] : List Int32) ++ kt 6) ++ W) ++ kt 13))) := (hfr_133 _ (by omega)).trans e1_126
  refine q_cq (va_runV (As := [.ref r_133]) (rest := []) ⟨hx, hb, hml, hown, hts⟩ (kJ4_append_15ec4 l E f_133 n_133 n b1_126 m1_126 r_133 (r_133 + 1) 80 (((([] : List Int32) ++ kt 6) ++ W) ++ kt 13) (pT i) hn_133 hb1_126_133 e0_133 e1_133 (by (try simp only [List.length_append, List.length_nil, List.length_cons, pT_len, ktl_0, ktl_1, ktl_2, ktl_3, ktl_4, ktl_5, ktl_6, ktl_7, ktl_8, ktl_9, ktl_10, ktl_11, ktl_12, ktl_13, ktl_14, ktl_15, ktl_16, ktl_17, ktl_18, ktl_19, ktl_20, ktl_21, ktl_22, ktl_23, ktl_24, ktl_25, ktl_26, ktl_27, ktl_28, ktl_29, ktl_30, ktl_31, ktl_32, ktl_33, ktl_34, ktl_35, ktl_36, ktl_37, ktl_38, ktl_39, ktl_40, ktl_41, ktl_42, ktl_43, ktl_44, ktl_45, ktl_46, ktl_47, ktl_48, ktl_49]); omega) (by omega) (by omega) (by first | assumption | decide) (by repeat (first | exact okb_nil | assumption | exact kt_okb (by omega) | exact okb_pT (by omega) | exact dg_ok _ (by omega) | exact okb_one (by omega) | apply okb_app)) (by repeat (first | exact okb_nil | assumption | exact kt_okb (by omega) | exact okb_pT (by omega) | exact dg_ok _ (by omega) | exact okb_one (by omega) | apply okb_app)) (by omega)) (cwV 1 hts gX13_text_J4_append_15ec4 rfl rfl rfl (by decide +kernel) ⟨(by show 5 + 1 ≤ x9 + 30; omega), (by show 8 + (2 + 11) + 300 ≤ y9 + 2000; omega)⟩) (q_pV hA hW hS (ci := 1) rfl hn_133) rfl rfl hl.1 rfl (lv_room (Nat.le_of_ble_eq_true rfl)) dX13_text_136 ⟨(by show _ ≤ z9 + 180; omega), (by show _ ≤ u9 + 9000; omega)⟩) hS (fun r_136 f_136 n_136 H locs hp hW hS => ?_)
  obtain ⟨b1_136, m1_136, rfl, e0_136, e1_136, el_136, em4_136, eb_136, en_136, hfr_136⟩ := hp
  have l_e0_136 := hW.lt e0_136
  have l_e1_136 := hW.lt e1_136
  have ha_136 : f_136 a = some (cLA 1 (nI i) (some y) sg on ot bl el) := (hfr_136 _ (by omega) (by omega) (by omega)).trans ha_133
  have hy_136 : f_136 y = some (cNode so1 k1 x1 y1) := (hfr_136 _ (by omega) (by omega) (by omega)).trans hy_133
  have hr_133_136 : f_136 r_133 = some (cStr (r_133 + 1)) := (hfr_136 _ (by omega) (by omega) (by omega)).trans e0_133
  have hr_133___1_136 : f_136 (r_133 + 1) = some (aB E ((pT i).length) (tx (pT i))) := (hfr_136 _ (by omega) (by omega) (by omega)).trans e1_133
  refine va_ldcS (own := "HighRecipesLaw$Act") hx hb hown (q_ldk hA (i := 14) (by decide)) dX13_text_139 ?_
  refine q_cq (va_runV (As := [.ref (E.2.2.2 (200 + 14))]) (rest := []) ⟨hx, hb, hml, hown, hts⟩ (kJ4_append_k l E f_136 n_136 n b1_136 m1_136 14 80 ((((([] : List Int32) ++ kt 6) ++ W) ++ kt 13) ++ (pT i)) e0_136 e1_136 (by (try simp only [List.length_append, List.length_nil, List.length_cons, pT_len, ktl_0, ktl_1, ktl_2, ktl_3, ktl_4, ktl_5, ktl_6, ktl_7, ktl_8, ktl_9, ktl_10, ktl_11, ktl_12, ktl_13, ktl_14, ktl_15, ktl_16, ktl_17, ktl_18, ktl_19, ktl_20, ktl_21, ktl_22, ktl_23, ktl_24, ktl_25, ktl_26, ktl_27, ktl_28, ktl_29, ktl_30, ktl_31, ktl_32, ktl_33, ktl_34, ktl_35, ktl_36, ktl_37, ktl_38, ktl_39, ktl_40, ktl_41, ktl_42, ktl_43, ktl_44, ktl_45, ktl_46, ktl_47, ktl_48, ktl_49]); omega) (by omega) (by omega) (by first | assumption | decide) (by repeat (first | exact okb_nil | assumption | exact kt_okb (by omega) | exact okb_pT (by omega) | exact dg_ok _ (by omega) | exact okb_one (by omega) | apply okb_app)) (by omega)) (cwV 1 hts gX13_text_J4_append_15ec4 rfl rfl rfl (by decide +kernel) ⟨(by show 5 + 1 ≤ x9 + 30; omega), (by show 8 + (2 + 11) + 300 ≤ y9 + 2000; omega)⟩) (q_pV hA hW hS (ci := 1) rfl e0_136) rfl rfl hl.1 rfl (lv_room (Nat.le_of_ble_eq_true rfl)) dX13_text_141 ⟨(by show _ ≤ z9 + 180; omega), (by show _ ≤ u9 + 9000; omega)⟩) hS (fun r_141 f_141 n_141 H locs hp hW hS => ?_)
  obtain ⟨b1_141, m1_141, rfl, e0_141, e1_141, el_141, em4_141, eb_141, en_141, hfr_141⟩ := hp
  have l_e0_141 := hW.lt e0_141
  have l_e1_141 := hW.lt e1_141
  have ha_141 : f_141 a = some (cLA 1 (nI i) (some y) sg on ot bl el) := (hfr_141 _ (by omega) (by omega) (by omega)).trans ha_136
  have hy_141 : f_141 y = some (cNode so1 k1 x1 y1) := (hfr_141 _ (by omega) (by omega) (by omega)).trans hy_136
  have hr_133_141 : f_141 r_133 = some (cStr (r_133 + 1)) := (hfr_141 _ (by omega) (by omega) (by omega)).trans hr_133_136
  have hr_133___1_141 : f_141 (r_133 + 1) = some (aB E ((pT i).length) (tx (pT i))) := (hfr_141 _ (by omega) (by omega) (by omega)).trans hr_133___1_136
  refine q_cq (va_runV (As := []) (rest := []) ⟨hx, hb, hml, hown, hts⟩ (kJ4_toString_0e30d l E f_141 n_141 n b1_141 m1_141 80 (((((([] : List Int32) ++ kt 6) ++ W) ++ kt 13) ++ (pT i)) ++ kt 14) e0_141 e1_141 (by assumption) (by omega) (by (try simp only [List.length_append, List.length_nil, List.length_cons, pT_len, ktl_0, ktl_1, ktl_2, ktl_3, ktl_4, ktl_5, ktl_6, ktl_7, ktl_8, ktl_9, ktl_10, ktl_11, ktl_12, ktl_13, ktl_14, ktl_15, ktl_16, ktl_17, ktl_18, ktl_19, ktl_20, ktl_21, ktl_22, ktl_23, ktl_24, ktl_25, ktl_26, ktl_27, ktl_28, ktl_29, ktl_30, ktl_31, ktl_32, ktl_33, ktl_34, ktl_35, ktl_36, ktl_37, ktl_38, ktl_39, ktl_40, ktl_41, ktl_42, ktl_43, ktl_44, ktl_45, ktl_46, ktl_47, ktl_48, ktl_49]); omega) (by omega) (by repeat (first | exact okb_nil | assumption | exact kt_okb (by omega) | exact okb_pT (by omega) | exact dg_ok _ (by omega) | exact okb_one (by omega) | apply okb_app))) (cwV 0 hts gX13_text_J4_toString_0e30d rfl rfl rfl (by decide +kernel) ⟨(by show 5 + 1 ≤ x9 + 30; omega), (by show 8 + (1 + 11) + 131 ≤ y9 + 2000; omega)⟩) (q_pV hA hW hS (ci := 1) rfl e0_141) rfl rfl hl.1 rfl (lv_room (Nat.le_of_ble_eq_true rfl)) dX13_text_144 ⟨(by show _ ≤ z9 + 180; omega), (by show _ ≤ u9 + 9000; omega)⟩) hS (fun r_144 f_144 n_144 H locs hp hW hS => ?_)
  obtain ⟨rfl, e0_144, e1_144, en_144, hfr_144⟩ := hp
  have l_e0_144 := hW.lt e0_144
  have l_e1_144 := hW.lt e1_144
  have ha_144 : f_144 a = some (cLA 1 (nI i) (some y) sg on ot bl el) := (hfr_144 _ (by omega)).trans ha_141
  have hy_144 : f_144 y = some (cNode so1 k1 x1 y1) := (hfr_144 _ (by omega)).trans hy_141
  have hr_133_144 : f_144 r_133 = some (cStr (r_133 + 1)) := (hfr_144 _ (by omega)).trans hr_133_141
  have hr_133___1_144 : f_144 (r_133 + 1) = some (aB E ((pT i).length) (tx (pT i))) := (hfr_144 _ (by omega)).trans hr_133___1_141
  have hn_144 : f_144 n = some (cSB b1_141 (nI (((((([] : List Int32) ++ kt 6) ++ W) ++ kt 13) ++ (pT i)) ++ kt 14).length)) := (hfr_144 _ (by omega)).trans e0_141
  have hb1_141_144 : f_144 b1_141 = some (aB E m1_141 (tx (((((([] : List Int32) ++ kt 6) ++ W) ++ kt 13) ++ (pT i)) ++ kt 14))) := (hfr_144 _ (by omega)).trans e1_141
  exact q_aret (v := some n_141) hx hb hr (Or.inl ⟨_, rfl⟩) hlocks hW hS ⟨n_141, rfl, e0_144, e1_144, (by omega), (by omega), (fun q g0 => ((hfr_144 _ (by omega)).trans ((hfr_141 _ (by omega) (by omega) (by omega)).trans ((hfr_136 _ (by omega) (by omega) (by omega)).trans ((hfr_133 _ (by omega)).trans ((hfr_126 _ (by omega) (by omega) (by omega)).trans ((hfr_121 _ (by omega) (by omega) (by omega)).trans ((hfr_118 _ (by omega)).trans ((hfr_111 _ (by omega) (by omega) (by omega)).trans ((hfr_106 _ (by omega) (by omega)).trans (q_ne (by omega) rfl)))))))))))⟩ (by show _ ≤ z9 + 180; omega) (by show _ ≤ u9 + 9000; omega) dX13_text_147

set_option maxHeartbeats 4000000 in
set_option maxRecDepth 100000 in
theorem kX13_text_k2 (l : Launch) (E : q_E) (f : q_H) (n : Nat) (x9 y9 z9 u9 a pn : Nat) (P : Nat → Prop) (i y : Nat) (D : q_D) (W : List Int32) (sg on ot bl el : Option Nat) (h0 : f a = some (cLA 2 (nI i) (some y) sg on ot bl el)) (hpn : pn ≤ 8) (hP : ∀ q, P q → q < n) (hN : NODE pn P f 1 y D W) (hi : i < pn) : Met l yX13_text wsX13_text ({ frames := x9 + 30, cells := z9 + 180, slots := u9 + 9000, locals := y9 + 2000 }) (q_P E [.ref a] f n) (q_Qq E (fun r0 f1 n1 => ∃ (r : Nat), some r = r0 ∧ f1 r = some (cStr (r + 1)) ∧ f1 (r + 1) = some (aB E ((kt 15 ++ pT i ++ kt 16 ++ W ++ kt 12).length) (tx (kt 15 ++ pT i ++ kt 16 ++ W ++ kt 12))) ∧ n ≤ r ∧ n ≤ n1 ∧ ∀ z9, z9 < n → f1 z9 = f z9)) (z9 + 180) (u9 + 9000) (q_ge E) := by
  refine Met.ofW (cc := cX13_text) (maxL := 3) (ret := (some (.object "java/lang/String"))) (by decide) rfl ?_
  intro p0_ e0_ s0_ m0_ args0_ below0_ meth0_ c0_ s1_ B hml hv
  obtain ⟨rfl, hA, hW⟩ := hv
  have hx := B.exec
  have hb := B.bytes
  have hr := B.returns
  have hts := atoms_spec (ws := wsX13_text) B.pre
  have hown : s0_.vm.findClass RX13 = some m0_.cls := findClass_of_methodNamed B.named
  have hlocks := B.notSynchronized
  have hS : va_S (q_ge E) s0_.heap s0_.heap [] := va_S.rf
  have iJ4 : ∀ w ∈ wsJ40, w ∈ wsX13_text := by decide +kernel
  have iX13 : ∀ w ∈ wsX130, w ∈ wsX13_text := by decide +kernel
  have hl := lv_entry ([.ref a]) (n := 3) (Nat.le_of_ble_eq_true rfl)
  rw [lg_entry_eq]
  generalize (lg_sl ([.ref a]) ++ List.replicate (3 - (lg_sl ([.ref a])).length) Slot.unset).toArray = ls at hl ⊢
  have hl : lv_has ls 3 [(0, .ref a)] := hl
  have l_h0 := hW.lt h0
  have lW := hN.len1
  have oW := hN.okb hpn
  obtain ⟨-, so1, k1, x1, y1, hcy⟩ := hN.cell
  have l_cy := hW.lt hcy
  refine lv_aload_n hx hb dX13_text_0 rfl (lv_at hl 0 rfl) ?_
  refine q_get hx hb hts hown hA hW iX13 h0 rfl 0 (by decide) (hts (.fieldLink RX13 37 "HighRecipesLaw$Act" "does" "I") (by decide +kernel)) (fun _ h9 => h9) (v := .int 2) rfl dX13_text_1 ?_
  refine lv_tableIn (x := 2) (off := 144) (tgt := 148) hx hb dX13_text_4 (by decide) (by decide) (by decide) (by decide) ?_
  refine q_new (ci := 1) hx hb hts hown hA hW hS iJ4 tyJ4 tyJ4_ok (hts (.classLink RX13 61 RJ4) (by decide +kernel)) (hts (.instantiable RJ4 4) (by decide +kernel)) (hts (.initialized RJ4) (by decide +kernel)) rfl (fs := [.null, .int 0, .int 0, .int 0]) (by decide) (by show _ ≤ z9 + 180; omega) (by show _ ≤ u9 + 9000; omega) dX13_text_148 (fun H hW hS => ?_)
  have hW : q_W E (va_up f n (some (rSB none 0 0 0))) (n + 1) H := hW
  refine lv_dup hx hb dX13_text_151 rfl ?_
  refine q_cv (va_runI (As := []) (rest := [.ref n]) ⟨hx, hb, hml, hown, hts⟩ (kJ4_init_da8c8 l E (va_up f n (some (rSB none 0 0 0))) (n + 1) n q_eq) (cwI 0 hts gX13_text_J4_init_da8c8 rfl rfl rfl (hts (.initialized RJ4) (by decide +kernel)) (hts (.methodLink RX13 81 yJ4_init_da8c8) (by decide +kernel)) (hts (.instanceMethod yJ4_init_da8c8) (by decide +kernel)) rfl (by decide +kernel) ⟨(by show 2 + 1 ≤ x9 + 30; omega), (by show 8 + (1 + 11) + 41 ≤ y9 + 2000; omega)⟩) (q_pS hA hW hS) rfl rfl hl.1 rfl (lv_room (Nat.le_of_ble_eq_true rfl)) dX13_text_152 ⟨(by show _ ≤ z9 + 180; omega), (by show _ ≤ u9 + 9000; omega)⟩) hS (fun f_152 n_152 H locs hp hW hS => ?_)
  obtain ⟨e0_152, e1_152, en_152, hfr_152⟩ := hp
  have l_e0_152 := hW.lt e0_152
  have l_e1_152 := hW.lt e1_152
  have ha_152 : f_152 a = some (cLA 2 (nI i) (some y) sg on ot bl el) := (hfr_152 _ (by omega) (by omega)).trans (q_ne (by omega) h0)
  have hy_152 : f_152 y = some (cNode so1 k1 x1 y1) := (hfr_152 _ (by omega) (by omega)).trans (q_ne (by omega) hcy)
  refine va_ldcS (own := "HighRecipesLaw$Act") hx hb hown (q_ldk hA (i := 15) (by decide)) dX13_text_155 ?_
  refine q_cq (va_runV (As := [.ref (E.2.2.2 (200 + 15))]) (rest := []) ⟨hx, hb, hml, hown, hts⟩ (kJ4_append_k l E f_152 n_152 n (n + 1) 16 15 80 ([] : List Int32) e0_152 e1_152 (by (try simp only [List.length_append, List.length_nil, List.length_cons, pT_len, ktl_0, ktl_1, ktl_2, ktl_3, ktl_4, ktl_5, ktl_6, ktl_7, ktl_8, ktl_9, ktl_10, ktl_11, ktl_12, ktl_13, ktl_14, ktl_15, ktl_16, ktl_17, ktl_18, ktl_19, ktl_20, ktl_21, ktl_22, ktl_23, ktl_24, ktl_25, ktl_26, ktl_27, ktl_28, ktl_29, ktl_30, ktl_31, ktl_32, ktl_33, ktl_34, ktl_35, ktl_36, ktl_37, ktl_38, ktl_39, ktl_40, ktl_41, ktl_42, ktl_43, ktl_44, ktl_45, ktl_46, ktl_47, ktl_48, ktl_49]); omega) (by omega) (by omega) (by first | assumption | decide) (by repeat (first | exact okb_nil | assumption | exact kt_okb (by omega) | exact okb_pT (by omega) | exact dg_ok _ (by omega) | exact okb_one (by omega) | apply okb_app)) (by omega)) (cwV 1 hts gX13_text_J4_append_15ec4 rfl rfl rfl (by decide +kernel) ⟨(by show 5 + 1 ≤ x9 + 30; omega), (by show 8 + (2 + 11) + 300 ≤ y9 + 2000; omega)⟩) (q_pV hA hW hS (ci := 1) rfl e0_152) rfl rfl hl.1 rfl (lv_room (Nat.le_of_ble_eq_true rfl)) dX13_text_157 ⟨(by show _ ≤ z9 + 180; omega), (by show _ ≤ u9 + 9000; omega)⟩) hS (fun r_157 f_157 n_157 H locs hp hW hS => ?_)
  obtain ⟨b1_157, m1_157, rfl, e0_157, e1_157, el_157, em4_157, eb_157, en_157, hfr_157⟩ := hp
  have l_e0_157 := hW.lt e0_157
  have l_e1_157 := hW.lt e1_157
  have ha_157 : f_157 a = some (cLA 2 (nI i) (some y) sg on ot bl el) := (hfr_157 _ (by omega) (by omega) (by omega)).trans ha_152
  have hy_157 : f_157 y = some (cNode so1 k1 x1 y1) := (hfr_157 _ (by omega) (by omega) (by omega)).trans hy_152
  refine lv_aload_n hx hb dX13_text_160 rfl (lv_at hl 0 rfl) ?_
  refine q_get hx hb hts hown hA hW iX13 ha_157 rfl 1 (by decide) (hts (.fieldLink RX13 41 "HighRecipesLaw$Act" "whom" "I") (by decide +kernel)) (fun _ h9 => h9) (v := .int (nI i)) rfl dX13_text_161 ?_
  refine q_cq (va_runSN (As := [.int (nI i)]) (rest := [.ref n]) ⟨hx, hb, hml, hown, hts⟩ (kL_pan l E f_157 n_157 i (by omega)) ⟨va_cnB 1 hts gX13_text_L_pan_n87 rfl rfl rfl (hA.2.2.2.2.1 ("HighRecipesLaw$Act", 87, ⟨"HighRecipesLaw", "pan", "(I)Ljava/lang/String;"⟩, "HighRecipesLaw") (by decide +kernel)) (hts (.initialized RL) (by decide +kernel)) (by decide +kernel) ⟨(by show 6 + 1 ≤ x9 + 30; omega), (by show 8 + (1 + 11) + 321 ≤ y9 + 2000; omega)⟩, hts (.static yL_pan) (by decide +kernel), trivial⟩ (q_pS hA hW hS) rfl rfl hl.1 rfl (lv_room (Nat.le_of_ble_eq_true rfl)) dX13_text_164 ⟨(by show _ ≤ z9 + 180; omega), (by show _ ≤ u9 + 9000; omega)⟩) hS (fun r_164 f_164 n_164 H locs hp hW hS => ?_)
  obtain ⟨r_164, rfl, e0_164, e1_164, er_164, en_164, hfr_164⟩ := hp
  have l_e0_164 := hW.lt e0_164
  have l_e1_164 := hW.lt e1_164
  have ha_164 : f_164 a = some (cLA 2 (nI i) (some y) sg on ot bl el) := (hfr_164 _ (by omega)).trans ha_157
  have hy_164 : f_164 y = some (cNode so1 k1 x1 y1) := (hfr_164 _ (by omega)).trans hy_157
  have hn_164 : f_164 n = some (cSB b1_157 (nI (([] : List Int32) ++ kt 15).length)) := (hfr_164 _ (by omega)).trans e0_157
  have hb1_157_164 : f_164 b1_157 = some (aB E m1_157 (tx (([] : List Int32) ++ kt 15))) := (hfr_164 _ (by omega)).trans e1_157
  refine q_cq (va_runV (As := [.ref r_164]) (rest := []) ⟨hx, hb, hml, hown, hts⟩ (kJ4_append_15ec4 l E f_164 n_164 n b1_157 m1_157 r_164 (r_164 + 1) 80 (([] : List Int32) ++ kt 15) (pT i) hn_164 hb1_157_164 e0_164 e1_164 (by (try simp only [List.length_append, List.length_nil, List.length_cons, pT_len, ktl_0, ktl_1, ktl_2, ktl_3, ktl_4, ktl_5, ktl_6, ktl_7, ktl_8, ktl_9, ktl_10, ktl_11, ktl_12, ktl_13, ktl_14, ktl_15, ktl_16, ktl_17, ktl_18, ktl_19, ktl_20, ktl_21, ktl_22, ktl_23, ktl_24, ktl_25, ktl_26, ktl_27, ktl_28, ktl_29, ktl_30, ktl_31, ktl_32, ktl_33, ktl_34, ktl_35, ktl_36, ktl_37, ktl_38, ktl_39, ktl_40, ktl_41, ktl_42, ktl_43, ktl_44, ktl_45, ktl_46, ktl_47, ktl_48, ktl_49]); omega) (by omega) (by omega) (by first | assumption | decide) (by repeat (first | exact okb_nil | assumption | exact kt_okb (by omega) | exact okb_pT (by omega) | exact dg_ok _ (by omega) | exact okb_one (by omega) | apply okb_app)) (by repeat (first | exact okb_nil | assumption | exact kt_okb (by omega) | exact okb_pT (by omega) | exact dg_ok _ (by omega) | exact okb_one (by omega) | apply okb_app)) (by omega)) (cwV 1 hts gX13_text_J4_append_15ec4 rfl rfl rfl (by decide +kernel) ⟨(by show 5 + 1 ≤ x9 + 30; omega), (by show 8 + (2 + 11) + 300 ≤ y9 + 2000; omega)⟩) (q_pV hA hW hS (ci := 1) rfl hn_164) rfl rfl hl.1 rfl (lv_room (Nat.le_of_ble_eq_true rfl)) dX13_text_167 ⟨(by show _ ≤ z9 + 180; omega), (by show _ ≤ u9 + 9000; omega)⟩) hS (fun r_167 f_167 n_167 H locs hp hW hS => ?_)
  obtain ⟨b1_167, m1_167, rfl, e0_167, e1_167, el_167, em4_167, eb_167, en_167, hfr_167⟩ := hp
  have l_e0_167 := hW.lt e0_167
  have l_e1_167 := hW.lt e1_167
  have ha_167 : f_167 a = some (cLA 2 (nI i) (some y) sg on ot bl el) := (hfr_167 _ (by omega) (by omega) (by omega)).trans ha_164
  have hy_167 : f_167 y = some (cNode so1 k1 x1 y1) := (hfr_167 _ (by omega) (by omega) (by omega)).trans hy_164
  have hr_164_167 : f_167 r_164 = some (cStr (r_164 + 1)) := (hfr_167 _ (by omega) (by omega) (by omega)).trans e0_164
  have hr_164___1_167 : f_167 (r_164 + 1) = some (aB E ((pT i).length) (tx (pT i))) := (hfr_167 _ (by omega) (by omega) (by omega)).trans e1_164
  refine va_ldcS (own := "HighRecipesLaw$Act") hx hb hown (q_ldk hA (i := 16) (by decide)) dX13_text_170 ?_
  refine q_cq (va_runV (As := [.ref (E.2.2.2 (200 + 16))]) (rest := []) ⟨hx, hb, hml, hown, hts⟩ (kJ4_append_k l E f_167 n_167 n b1_167 m1_167 16 80 ((([] : List Int32) ++ kt 15) ++ (pT i)) e0_167 e1_167 (by (try simp only [List.length_append, List.length_nil, List.length_cons, pT_len, ktl_0, ktl_1, ktl_2, ktl_3, ktl_4, ktl_5, ktl_6, ktl_7, ktl_8, ktl_9, ktl_10, ktl_11, ktl_12, ktl_13, ktl_14, ktl_15, ktl_16, ktl_17, ktl_18, ktl_19, ktl_20, ktl_21, ktl_22, ktl_23, ktl_24, ktl_25, ktl_26, ktl_27, ktl_28, ktl_29, ktl_30, ktl_31, ktl_32, ktl_33, ktl_34, ktl_35, ktl_36, ktl_37, ktl_38, ktl_39, ktl_40, ktl_41, ktl_42, ktl_43, ktl_44, ktl_45, ktl_46, ktl_47, ktl_48, ktl_49]); omega) (by omega) (by omega) (by first | assumption | decide) (by repeat (first | exact okb_nil | assumption | exact kt_okb (by omega) | exact okb_pT (by omega) | exact dg_ok _ (by omega) | exact okb_one (by omega) | apply okb_app)) (by omega)) (cwV 1 hts gX13_text_J4_append_15ec4 rfl rfl rfl (by decide +kernel) ⟨(by show 5 + 1 ≤ x9 + 30; omega), (by show 8 + (2 + 11) + 300 ≤ y9 + 2000; omega)⟩) (q_pV hA hW hS (ci := 1) rfl e0_167) rfl rfl hl.1 rfl (lv_room (Nat.le_of_ble_eq_true rfl)) dX13_text_172 ⟨(by show _ ≤ z9 + 180; omega), (by show _ ≤ u9 + 9000; omega)⟩) hS (fun r_172 f_172 n_172 H locs hp hW hS => ?_)
  obtain ⟨b1_172, m1_172, rfl, e0_172, e1_172, el_172, em4_172, eb_172, en_172, hfr_172⟩ := hp
  have l_e0_172 := hW.lt e0_172
  have l_e1_172 := hW.lt e1_172
  have ha_172 : f_172 a = some (cLA 2 (nI i) (some y) sg on ot bl el) := (hfr_172 _ (by omega) (by omega) (by omega)).trans ha_167
  have hy_172 : f_172 y = some (cNode so1 k1 x1 y1) := (hfr_172 _ (by omega) (by omega) (by omega)).trans hy_167
  have hr_164_172 : f_172 r_164 = some (cStr (r_164 + 1)) := (hfr_172 _ (by omega) (by omega) (by omega)).trans hr_164_167
  have hr_164___1_172 : f_172 (r_164 + 1) = some (aB E ((pT i).length) (tx (pT i))) := (hfr_172 _ (by omega) (by omega) (by omega)).trans hr_164___1_167
  refine lv_aload_n hx hb dX13_text_175 rfl (lv_at hl 0 rfl) ?_
  refine q_get hx hb hts hown hA hW iX13 ha_172 rfl 2 (by decide) (hts (.fieldLink RX13 47 "HighRecipesLaw$Act" "value" "LHighRecipesLaw$Node;") (by decide +kernel)) (fun _ h9 => h9) (v := .ref y) rfl dX13_text_176 ?_
  refine q_cq (va_runV (As := []) (rest := [.ref n]) ⟨hx, hb, hml, hown, hts⟩ (kX16_text_1 l E f_172 n_172 y pn P D W (NODE.to (fun q hq => have h8 := hP q hq; ⟨hq, ((hfr_172 _ (by omega) (by omega) (by omega)).trans ((hfr_167 _ (by omega) (by omega) (by omega)).trans ((hfr_164 _ (by omega)).trans ((hfr_157 _ (by omega) (by omega) (by omega)).trans ((hfr_152 _ (by omega) (by omega)).trans (q_ne (by omega) rfl))))))⟩) hN) hpn (fun q hq => by have := hP q hq; omega)) (cwV 0 hts gX13_text_X16_text rfl rfl rfl (by decide +kernel) ⟨(by show 18 + 1 ≤ x9 + 30; omega), (by show 8 + (1 + 11) + 1100 ≤ y9 + 2000; omega)⟩) (q_pV hA hW hS (ci := 16) rfl hy_172) rfl rfl hl.1 rfl (lv_room (Nat.le_of_ble_eq_true rfl)) dX13_text_179 ⟨(by show _ ≤ z9 + 180; omega), (by show _ ≤ u9 + 9000; omega)⟩) hS (fun r_179 f_179 n_179 H locs hp hW hS => ?_)
  obtain ⟨r_179, rfl, eT_179, ef_179, en_179, hfr_179⟩ := hp
  have ha_179 : f_179 a = some (cLA 2 (nI i) (some y) sg on ot bl el) := (hfr_179 _ (by omega)).trans ha_172
  have hy_179 : f_179 y = some (cNode so1 k1 x1 y1) := (hfr_179 _ (by omega)).trans hy_172
  have hr_164_179 : f_179 r_164 = some (cStr (r_164 + 1)) := (hfr_179 _ (by omega)).trans hr_164_172
  have hr_164___1_179 : f_179 (r_164 + 1) = some (aB E ((pT i).length) (tx (pT i))) := (hfr_179 _ (by omega)).trans hr_164___1_172
  have hn_179 : f_179 n = some (cSB b1_172 (nI (((([] : List Int32) ++ kt 15) ++ (pT i)) ++ kt 16).length)) := (hfr_179 _ (by omega)).trans e0_172
  have hb1_172_179 : f_179 b1_172 = some (aB E m1_172 (tx (((([] : List Int32) ++ kt 15) ++ (pT i)) ++ kt 16))) := (hfr_179 _ (by omega)).trans e1_172
  refine q_cq (va_runV (As := [.ref r_179]) (rest := []) ⟨hx, hb, hml, hown, hts⟩ (kJ4_append_S l E f_179 n_179 n b1_172 m1_172 r_179 80 (((([] : List Int32) ++ kt 15) ++ (pT i)) ++ kt 16) W hn_179 hb1_172_179 (by (try simp only [List.length_append, List.length_nil, List.length_cons, pT_len, ktl_0, ktl_1, ktl_2, ktl_3, ktl_4, ktl_5, ktl_6, ktl_7, ktl_8, ktl_9, ktl_10, ktl_11, ktl_12, ktl_13, ktl_14, ktl_15, ktl_16, ktl_17, ktl_18, ktl_19, ktl_20, ktl_21, ktl_22, ktl_23, ktl_24, ktl_25, ktl_26, ktl_27, ktl_28, ktl_29, ktl_30, ktl_31, ktl_32, ktl_33, ktl_34, ktl_35, ktl_36, ktl_37, ktl_38, ktl_39, ktl_40, ktl_41, ktl_42, ktl_43, ktl_44, ktl_45, ktl_46, ktl_47, ktl_48, ktl_49]); omega) (by omega) (by omega) (by first | assumption | decide) (by repeat (first | exact okb_nil | assumption | exact kt_okb (by omega) | exact okb_pT (by omega) | exact dg_ok _ (by omega) | exact okb_one (by omega) | apply okb_app)) (by repeat (first | exact okb_nil | assumption | exact kt_okb (by omega) | exact okb_pT (by omega) | exact dg_ok _ (by omega) | exact okb_one (by omega) | apply okb_app)) eT_179 (fun rb h9 => by have := ef_179 rb h9; omega)) (cwV 1 hts gX13_text_J4_append_15ec4 rfl rfl rfl (by decide +kernel) ⟨(by show 5 + 1 ≤ x9 + 30; omega), (by show 8 + (2 + 11) + 300 ≤ y9 + 2000; omega)⟩) (q_pV hA hW hS (ci := 1) rfl hn_179) rfl rfl hl.1 rfl (lv_room (Nat.le_of_ble_eq_true rfl)) dX13_text_182 ⟨(by show _ ≤ z9 + 180; omega), (by show _ ≤ u9 + 9000; omega)⟩) hS (fun r_182 f_182 n_182 H locs hp hW hS => ?_)
  obtain ⟨b1_182, m1_182, rfl, e0_182, e1_182, el_182, em4_182, eb_182, en_182, hfr_182⟩ := hp
  have l_e0_182 := hW.lt e0_182
  have l_e1_182 := hW.lt e1_182
  have ha_182 : f_182 a = some (cLA 2 (nI i) (some y) sg on ot bl el) := (hfr_182 _ (by omega) (by omega) (by omega)).trans ha_179
  have hy_182 : f_182 y = some (cNode so1 k1 x1 y1) := (hfr_182 _ (by omega) (by omega) (by omega)).trans hy_179
  have hr_164_182 : f_182 r_164 = some (cStr (r_164 + 1)) := (hfr_182 _ (by omega) (by omega) (by omega)).trans hr_164_179
  have hr_164___1_182 : f_182 (r_164 + 1) = some (aB E ((pT i).length) (tx (pT i))) := (hfr_182 _ (by omega) (by omega) (by omega)).trans hr_164___1_179
  refine va_ldcS (own := "HighRecipesLaw$Act") hx hb hown (q_ldk hA (i := 12) (by decide)) dX13_text_185 ?_
  refine q_cq (va_runV (As := [.ref (E.2.2.2 (200 + 12))]) (rest := []) ⟨hx, hb, hml, hown, hts⟩ (kJ4_append_k l E f_182 n_182 n b1_182 m1_182 12 80 ((((([] : List Int32) ++ kt 15) ++ (pT i)) ++ kt 16) ++ W) e0_182 e1_182 (by (try simp only [List.length_append, List.length_nil, List.length_cons, pT_len, ktl_0, ktl_1, ktl_2, ktl_3, ktl_4, ktl_5, ktl_6, ktl_7, ktl_8, ktl_9, ktl_10, ktl_11, ktl_12, ktl_13, ktl_14, ktl_15, ktl_16, ktl_17, ktl_18, ktl_19, ktl_20, ktl_21, ktl_22, ktl_23, ktl_24, ktl_25, ktl_26, ktl_27, ktl_28, ktl_29, ktl_30, ktl_31, ktl_32, ktl_33, ktl_34, ktl_35, ktl_36, ktl_37, ktl_38, ktl_39, ktl_40, ktl_41, ktl_42, ktl_43, ktl_44, ktl_45, ktl_46, ktl_47, ktl_48, ktl_49]); omega) (by omega) (by omega) (by first | assumption | decide) (by repeat (first | exact okb_nil | assumption | exact kt_okb (by omega) | exact okb_pT (by omega) | exact dg_ok _ (by omega) | exact okb_one (by omega) | apply okb_app)) (by omega)) (cwV 1 hts gX13_text_J4_append_15ec4 rfl rfl rfl (by decide +kernel) ⟨(by show 5 + 1 ≤ x9 + 30; omega), (by show 8 + (2 + 11) + 300 ≤ y9 + 2000; omega)⟩) (q_pV hA hW hS (ci := 1) rfl e0_182) rfl rfl hl.1 rfl (lv_room (Nat.le_of_ble_eq_true rfl)) dX13_text_187 ⟨(by show _ ≤ z9 + 180; omega), (by show _ ≤ u9 + 9000; omega)⟩) hS (fun r_187 f_187 n_187 H locs hp hW hS => ?_)
  obtain ⟨b1_187, m1_187, rfl, e0_187, e1_187, el_187, em4_187, eb_187, en_187, hfr_187⟩ := hp
  have l_e0_187 := hW.lt e0_187
  have l_e1_187 := hW.lt e1_187
  have ha_187 : f_187 a = some (cLA 2 (nI i) (some y) sg on ot bl el) := (hfr_187 _ (by omega) (by omega) (by omega)).trans ha_182
  have hy_187 : f_187 y = some (cNode so1 k1 x1 y1) := (hfr_187 _ (by omega) (by omega) (by omega)).trans hy_182
  have hr_164_187 : f_187 r_164 = some (cStr (r_164 + 1)) := (hfr_187 _ (by omega) (by omega) (by omega)).trans hr_164_182
  have hr_164___1_187 : f_187 (r_164 + 1) = some (aB E ((pT i).length) (tx (pT i))) := (hfr_187 _ (by omega) (by omega) (by omega)).trans hr_164___1_182
  refine q_cq (va_runV (As := []) (rest := []) ⟨hx, hb, hml, hown, hts⟩ (kJ4_toString_0e30d l E f_187 n_187 n b1_187 m1_187 80 (((((([] : List Int32) ++ kt 15) ++ (pT i)) ++ kt 16) ++ W) ++ kt 12) e0_187 e1_187 (by assumption) (by omega) (by (try simp only [List.length_append, List.length_nil, List.length_cons, pT_len, ktl_0, ktl_1, ktl_2, ktl_3, ktl_4, ktl_5, ktl_6, ktl_7, ktl_8, ktl_9, ktl_10, ktl_11, ktl_12, ktl_13, ktl_14, ktl_15, ktl_16, ktl_17, ktl_18, ktl_19, ktl_20, ktl_21, ktl_22, ktl_23, ktl_24, ktl_25, ktl_26, ktl_27, ktl_28, ktl_29, ktl_30, ktl_31, ktl_32, ktl_33, ktl_34, ktl_35, ktl_36, ktl_37, ktl_38, ktl_39, ktl_40, ktl_41, ktl_42, ktl_43, ktl_44, ktl_45, ktl_46, ktl_47, ktl_48, ktl_49]); omega) (by omega) (by repeat (first | exact okb_nil | assumption | exact kt_okb (by omega) | exact okb_pT (by omega) | exact dg_ok _ (by omega) | exact okb_one (by omega) | apply okb_app))) (cwV 0 hts gX13_text_J4_toString_0e30d rfl rfl rfl (by decide +kernel) ⟨(by show 5 + 1 ≤ x9 + 30; omega), (by show 8 + (1 + 11) + 131 ≤ y9 + 2000; omega)⟩) (q_pV hA hW hS (ci := 1) rfl e0_187) rfl rfl hl.1 rfl (lv_room (Nat.le_of_ble_eq_true rfl)) dX13_text_190 ⟨(by show _ ≤ z9 + 180; omega), (by show _ ≤ u9 + 9000; omega)⟩) hS (fun r_190 f_190 n_190 H locs hp hW hS => ?_)
  obtain ⟨rfl, e0_190, e1_190, en_190, hfr_190⟩ := hp
  have l_e0_190 := hW.lt e0_190
  have l_e1_190 := hW.lt e1_190
  have ha_190 : f_190 a = some (cLA 2 (nI i) (some y) sg on ot bl el) := (hfr_190 _ (by omega)).trans ha_187
  have hy_190 : f_190 y = some (cNode so1 k1 x1 y1) := (hfr_190 _ (by omega)).trans hy_187
  have hr_164_190 : f_190 r_164 = some (cStr (r_164 + 1)) := (hfr_190 _ (by omega)).trans hr_164_187
  have hr_164___1_190 : f_190 (r_164 + 1) = some (aB E ((pT i).length) (tx (pT i))) := (hfr_190 _ (by omega)).trans hr_164___1_187
  have hn_190 : f_190 n = some (cSB b1_187 (nI (((((([] : List Int32) ++ kt 15) ++ (pT i)) ++ kt 16) ++ W) ++ kt 12).length)) := (hfr_190 _ (by omega)).trans e0_187
  have hb1_187_190 : f_190 b1_187 = some (aB E m1_187 (tx (((((([] : List Int32) ++ kt 15) ++ (pT i)) ++ kt 16) ++ W) ++ kt 12))) := (hfr_190 _ (by omega)).trans e1_187
  exact q_aret (v := some n_187) hx hb hr (Or.inl ⟨_, rfl⟩) hlocks hW hS ⟨n_187, rfl, e0_190, e1_190, (by omega), (by omega), (fun q g0 => ((hfr_190 _ (by omega)).trans ((hfr_187 _ (by omega) (by omega) (by omega)).trans ((hfr_182 _ (by omega) (by omega) (by omega)).trans ((hfr_179 _ (by omega)).trans ((hfr_172 _ (by omega) (by omega) (by omega)).trans ((hfr_167 _ (by omega) (by omega) (by omega)).trans ((hfr_164 _ (by omega)).trans ((hfr_157 _ (by omega) (by omega) (by omega)).trans ((hfr_152 _ (by omega) (by omega)).trans (q_ne (by omega) rfl)))))))))))⟩ (by show _ ≤ z9 + 180; omega) (by show _ ≤ u9 + 9000; omega) dX13_text_193

set_option maxHeartbeats 4000000 in
set_option maxRecDepth 100000 in
theorem kX13_text_k3 (l : Launch) (E : q_E) (f : q_H) (n : Nat) (x9 y9 z9 u9 a pn : Nat) (P : Nat → Prop) (i y : Nat) (D : q_D) (W : List Int32) (sg on ot bl el : Option Nat) (h0 : f a = some (cLA 3 (nI i) (some y) sg on ot bl el)) (hpn : pn ≤ 8) (hP : ∀ q, P q → q < n) (hN : NODE pn P f 1 y D W) (hi : i < pn) : Met l yX13_text wsX13_text ({ frames := x9 + 30, cells := z9 + 180, slots := u9 + 9000, locals := y9 + 2000 }) (q_P E [.ref a] f n) (q_Qq E (fun r0 f1 n1 => ∃ (r : Nat), some r = r0 ∧ f1 r = some (cStr (r + 1)) ∧ f1 (r + 1) = some (aB E ((kt 17 ++ pT i ++ kt 18 ++ W ++ kt 19).length) (tx (kt 17 ++ pT i ++ kt 18 ++ W ++ kt 19))) ∧ n ≤ r ∧ n ≤ n1 ∧ ∀ z9, z9 < n → f1 z9 = f z9)) (z9 + 180) (u9 + 9000) (q_ge E) := by
  refine Met.ofW (cc := cX13_text) (maxL := 3) (ret := (some (.object "java/lang/String"))) (by decide) rfl ?_
  intro p0_ e0_ s0_ m0_ args0_ below0_ meth0_ c0_ s1_ B hml hv
  obtain ⟨rfl, hA, hW⟩ := hv
  have hx := B.exec
  have hb := B.bytes
  have hr := B.returns
  have hts := atoms_spec (ws := wsX13_text) B.pre
  have hown : s0_.vm.findClass RX13 = some m0_.cls := findClass_of_methodNamed B.named
  have hlocks := B.notSynchronized
  have hS : va_S (q_ge E) s0_.heap s0_.heap [] := va_S.rf
  have iJ4 : ∀ w ∈ wsJ40, w ∈ wsX13_text := by decide +kernel
  have iX13 : ∀ w ∈ wsX130, w ∈ wsX13_text := by decide +kernel
  have hl := lv_entry ([.ref a]) (n := 3) (Nat.le_of_ble_eq_true rfl)
  rw [lg_entry_eq]
  generalize (lg_sl ([.ref a]) ++ List.replicate (3 - (lg_sl ([.ref a])).length) Slot.unset).toArray = ls at hl ⊢
  have hl : lv_has ls 3 [(0, .ref a)] := hl
  have l_h0 := hW.lt h0
  have lW := hN.len1
  have oW := hN.okb hpn
  obtain ⟨-, so1, k1, x1, y1, hcy⟩ := hN.cell
  have l_cy := hW.lt hcy
  refine lv_aload_n hx hb dX13_text_0 rfl (lv_at hl 0 rfl) ?_
  refine q_get hx hb hts hown hA hW iX13 h0 rfl 0 (by decide) (hts (.fieldLink RX13 37 "HighRecipesLaw$Act" "does" "I") (by decide +kernel)) (fun _ h9 => h9) (v := .int 3) rfl dX13_text_1 ?_
  refine lv_tableIn (x := 3) (off := 190) (tgt := 194) hx hb dX13_text_4 (by decide) (by decide) (by decide) (by decide) ?_
  refine q_new (ci := 1) hx hb hts hown hA hW hS iJ4 tyJ4 tyJ4_ok (hts (.classLink RX13 61 RJ4) (by decide +kernel)) (hts (.instantiable RJ4 4) (by decide +kernel)) (hts (.initialized RJ4) (by decide +kernel)) rfl (fs := [.null, .int 0, .int 0, .int 0]) (by decide) (by show _ ≤ z9 + 180; omega) (by show _ ≤ u9 + 9000; omega) dX13_text_194 (fun H hW hS => ?_)
  have hW : q_W E (va_up f n (some (rSB none 0 0 0))) (n + 1) H := hW
  refine lv_dup hx hb dX13_text_197 rfl ?_
  refine q_cv (va_runI (As := []) (rest := [.ref n]) ⟨hx, hb, hml, hown, hts⟩ (kJ4_init_da8c8 l E (va_up f n (some (rSB none 0 0 0))) (n + 1) n q_eq) (cwI 0 hts gX13_text_J4_init_da8c8 rfl rfl rfl (hts (.initialized RJ4) (by decide +kernel)) (hts (.methodLink RX13 81 yJ4_init_da8c8) (by decide +kernel)) (hts (.instanceMethod yJ4_init_da8c8) (by decide +kernel)) rfl (by decide +kernel) ⟨(by show 2 + 1 ≤ x9 + 30; omega), (by show 8 + (1 + 11) + 41 ≤ y9 + 2000; omega)⟩) (q_pS hA hW hS) rfl rfl hl.1 rfl (lv_room (Nat.le_of_ble_eq_true rfl)) dX13_text_198 ⟨(by show _ ≤ z9 + 180; omega), (by show _ ≤ u9 + 9000; omega)⟩) hS (fun f_198 n_198 H locs hp hW hS => ?_)
  obtain ⟨e0_198, e1_198, en_198, hfr_198⟩ := hp
  have l_e0_198 := hW.lt e0_198
  have l_e1_198 := hW.lt e1_198
  have ha_198 : f_198 a = some (cLA 3 (nI i) (some y) sg on ot bl el) := (hfr_198 _ (by omega) (by omega)).trans (q_ne (by omega) h0)
  have hy_198 : f_198 y = some (cNode so1 k1 x1 y1) := (hfr_198 _ (by omega) (by omega)).trans (q_ne (by omega) hcy)
  refine va_ldcS (own := "HighRecipesLaw$Act") hx hb hown (q_ldk hA (i := 17) (by decide)) dX13_text_201 ?_
  refine q_cq (va_runV (As := [.ref (E.2.2.2 (200 + 17))]) (rest := []) ⟨hx, hb, hml, hown, hts⟩ (kJ4_append_k l E f_198 n_198 n (n + 1) 16 17 80 ([] : List Int32) e0_198 e1_198 (by (try simp only [List.length_append, List.length_nil, List.length_cons, pT_len, ktl_0, ktl_1, ktl_2, ktl_3, ktl_4, ktl_5, ktl_6, ktl_7, ktl_8, ktl_9, ktl_10, ktl_11, ktl_12, ktl_13, ktl_14, ktl_15, ktl_16, ktl_17, ktl_18, ktl_19, ktl_20, ktl_21, ktl_22, ktl_23, ktl_24, ktl_25, ktl_26, ktl_27, ktl_28, ktl_29, ktl_30, ktl_31, ktl_32, ktl_33, ktl_34, ktl_35, ktl_36, ktl_37, ktl_38, ktl_39, ktl_40, ktl_41, ktl_42, ktl_43, ktl_44, ktl_45, ktl_46, ktl_47, ktl_48, ktl_49]); omega) (by omega) (by omega) (by first | assumption | decide) (by repeat (first | exact okb_nil | assumption | exact kt_okb (by omega) | exact okb_pT (by omega) | exact dg_ok _ (by omega) | exact okb_one (by omega) | apply okb_app)) (by omega)) (cwV 1 hts gX13_text_J4_append_15ec4 rfl rfl rfl (by decide +kernel) ⟨(by show 5 + 1 ≤ x9 + 30; omega), (by show 8 + (2 + 11) + 300 ≤ y9 + 2000; omega)⟩) (q_pV hA hW hS (ci := 1) rfl e0_198) rfl rfl hl.1 rfl (lv_room (Nat.le_of_ble_eq_true rfl)) dX13_text_203 ⟨(by show _ ≤ z9 + 180; omega), (by show _ ≤ u9 + 9000; omega)⟩) hS (fun r_203 f_203 n_203 H locs hp hW hS => ?_)
  obtain ⟨b1_203, m1_203, rfl, e0_203, e1_203, el_203, em4_203, eb_203, en_203, hfr_203⟩ := hp
  have l_e0_203 := hW.lt e0_203
  have l_e1_203 := hW.lt e1_203
  have ha_203 : f_203 a = some (cLA 3 (nI i) (some y) sg on ot bl el) := (hfr_203 _ (by omega) (by omega) (by omega)).trans ha_198
  have hy_203 : f_203 y = some (cNode so1 k1 x1 y1) := (hfr_203 _ (by omega) (by omega) (by omega)).trans hy_198
  refine lv_aload_n hx hb dX13_text_206 rfl (lv_at hl 0 rfl) ?_
  refine q_get hx hb hts hown hA hW iX13 ha_203 rfl 1 (by decide) (hts (.fieldLink RX13 41 "HighRecipesLaw$Act" "whom" "I") (by decide +kernel)) (fun _ h9 => h9) (v := .int (nI i)) rfl dX13_text_207 ?_
  refine q_cq (va_runSN (As := [.int (nI i)]) (rest := [.ref n]) ⟨hx, hb, hml, hown, hts⟩ (kL_pan l E f_203 n_203 i (by omega)) ⟨va_cnB 1 hts gX13_text_L_pan_n87 rfl rfl rfl (hA.2.2.2.2.1 ("HighRecipesLaw$Act", 87, ⟨"HighRecipesLaw", "pan", "(I)Ljava/lang/String;"⟩, "HighRecipesLaw") (by decide +kernel)) (hts (.initialized RL) (by decide +kernel)) (by decide +kernel) ⟨(by show 6 + 1 ≤ x9 + 30; omega), (by show 8 + (1 + 11) + 321 ≤ y9 + 2000; omega)⟩, hts (.static yL_pan) (by decide +kernel), trivial⟩ (q_pS hA hW hS) rfl rfl hl.1 rfl (lv_room (Nat.le_of_ble_eq_true rfl)) dX13_text_210 ⟨(by show _ ≤ z9 + 180; omega), (by show _ ≤ u9 + 9000; omega)⟩) hS (fun r_210 f_210 n_210 H locs hp hW hS => ?_)
  obtain ⟨r_210, rfl, e0_210, e1_210, er_210, en_210, hfr_210⟩ := hp
  have l_e0_210 := hW.lt e0_210
  have l_e1_210 := hW.lt e1_210
  have ha_210 : f_210 a = some (cLA 3 (nI i) (some y) sg on ot bl el) := (hfr_210 _ (by omega)).trans ha_203
  have hy_210 : f_210 y = some (cNode so1 k1 x1 y1) := (hfr_210 _ (by omega)).trans hy_203
  have hn_210 : f_210 n = some (cSB b1_203 (nI (([] : List Int32) ++ kt 17).length)) := (hfr_210 _ (by omega)).trans e0_203
  have hb1_203_210 : f_210 b1_203 = some (aB E m1_203 (tx (([] : List Int32) ++ kt 17))) := (hfr_210 _ (by omega)).trans e1_203
  refine q_cq (va_runV (As := [.ref r_210]) (rest := []) ⟨hx, hb, hml, hown, hts⟩ (kJ4_append_15ec4 l E f_210 n_210 n b1_203 m1_203 r_210 (r_210 + 1) 80 (([] : List Int32) ++ kt 17) (pT i) hn_210 hb1_203_210 e0_210 e1_210 (by (try simp only [List.length_append, List.length_nil, List.length_cons, pT_len, ktl_0, ktl_1, ktl_2, ktl_3, ktl_4, ktl_5, ktl_6, ktl_7, ktl_8, ktl_9, ktl_10, ktl_11, ktl_12, ktl_13, ktl_14, ktl_15, ktl_16, ktl_17, ktl_18, ktl_19, ktl_20, ktl_21, ktl_22, ktl_23, ktl_24, ktl_25, ktl_26, ktl_27, ktl_28, ktl_29, ktl_30, ktl_31, ktl_32, ktl_33, ktl_34, ktl_35, ktl_36, ktl_37, ktl_38, ktl_39, ktl_40, ktl_41, ktl_42, ktl_43, ktl_44, ktl_45, ktl_46, ktl_47, ktl_48, ktl_49]); omega) (by omega) (by omega) (by first | assumption | decide) (by repeat (first | exact okb_nil | assumption | exact kt_okb (by omega) | exact okb_pT (by omega) | exact dg_ok _ (by omega) | exact okb_one (by omega) | apply okb_app)) (by repeat (first | exact okb_nil | assumption | exact kt_okb (by omega) | exact okb_pT (by omega) | exact dg_ok _ (by omega) | exact okb_one (by omega) | apply okb_app)) (by omega)) (cwV 1 hts gX13_text_J4_append_15ec4 rfl rfl rfl (by decide +kernel) ⟨(by show 5 + 1 ≤ x9 + 30; omega), (by show 8 + (2 + 11) + 300 ≤ y9 + 2000; omega)⟩) (q_pV hA hW hS (ci := 1) rfl hn_210) rfl rfl hl.1 rfl (lv_room (Nat.le_of_ble_eq_true rfl)) dX13_text_213 ⟨(by show _ ≤ z9 + 180; omega), (by show _ ≤ u9 + 9000; omega)⟩) hS (fun r_213 f_213 n_213 H locs hp hW hS => ?_)
  obtain ⟨b1_213, m1_213, rfl, e0_213, e1_213, el_213, em4_213, eb_213, en_213, hfr_213⟩ := hp
  have l_e0_213 := hW.lt e0_213
  have l_e1_213 := hW.lt e1_213
  have ha_213 : f_213 a = some (cLA 3 (nI i) (some y) sg on ot bl el) := (hfr_213 _ (by omega) (by omega) (by omega)).trans ha_210
  have hy_213 : f_213 y = some (cNode so1 k1 x1 y1) := (hfr_213 _ (by omega) (by omega) (by omega)).trans hy_210
  have hr_210_213 : f_213 r_210 = some (cStr (r_210 + 1)) := (hfr_213 _ (by omega) (by omega) (by omega)).trans e0_210
  have hr_210___1_213 : f_213 (r_210 + 1) = some (aB E ((pT i).length) (tx (pT i))) := (hfr_213 _ (by omega) (by omega) (by omega)).trans e1_210
  refine va_ldcS (own := "HighRecipesLaw$Act") hx hb hown (q_ldk hA (i := 18) (by decide)) dX13_text_216 ?_
  refine q_cq (va_runV (As := [.ref (E.2.2.2 (200 + 18))]) (rest := []) ⟨hx, hb, hml, hown, hts⟩ (kJ4_append_k l E f_213 n_213 n b1_213 m1_213 18 80 ((([] : List Int32) ++ kt 17) ++ (pT i)) e0_213 e1_213 (by (try simp only [List.length_append, List.length_nil, List.length_cons, pT_len, ktl_0, ktl_1, ktl_2, ktl_3, ktl_4, ktl_5, ktl_6, ktl_7, ktl_8, ktl_9, ktl_10, ktl_11, ktl_12, ktl_13, ktl_14, ktl_15, ktl_16, ktl_17, ktl_18, ktl_19, ktl_20, ktl_21, ktl_22, ktl_23, ktl_24, ktl_25, ktl_26, ktl_27, ktl_28, ktl_29, ktl_30, ktl_31, ktl_32, ktl_33, ktl_34, ktl_35, ktl_36, ktl_37, ktl_38, ktl_39, ktl_40, ktl_41, ktl_42, ktl_43, ktl_44, ktl_45, ktl_46, ktl_47, ktl_48, ktl_49]); omega) (by omega) (by omega) (by first | assumption | decide) (by repeat (first | exact okb_nil | assumption | exact kt_okb (by omega) | exact okb_pT (by omega) | exact dg_ok _ (by omega) | exact okb_one (by omega) | apply okb_app)) (by omega)) (cwV 1 hts gX13_text_J4_append_15ec4 rfl rfl rfl (by decide +kernel) ⟨(by show 5 + 1 ≤ x9 + 30; omega), (by show 8 + (2 + 11) + 300 ≤ y9 + 2000; omega)⟩) (q_pV hA hW hS (ci := 1) rfl e0_213) rfl rfl hl.1 rfl (lv_room (Nat.le_of_ble_eq_true rfl)) dX13_text_218 ⟨(by show _ ≤ z9 + 180; omega), (by show _ ≤ u9 + 9000; omega)⟩) hS (fun r_218 f_218 n_218 H locs hp hW hS => ?_)
  obtain ⟨b1_218, m1_218, rfl, e0_218, e1_218, el_218, em4_218, eb_218, en_218, hfr_218⟩ := hp
  have l_e0_218 := hW.lt e0_218
  have l_e1_218 := hW.lt e1_218
  have ha_218 : f_218 a = some (cLA 3 (nI i) (some y) sg on ot bl el) := (hfr_218 _ (by omega) (by omega) (by omega)).trans ha_213
  have hy_218 : f_218 y = some (cNode so1 k1 x1 y1) := (hfr_218 _ (by omega) (by omega) (by omega)).trans hy_213
  have hr_210_218 : f_218 r_210 = some (cStr (r_210 + 1)) := (hfr_218 _ (by omega) (by omega) (by omega)).trans hr_210_213
  have hr_210___1_218 : f_218 (r_210 + 1) = some (aB E ((pT i).length) (tx (pT i))) := (hfr_218 _ (by omega) (by omega) (by omega)).trans hr_210___1_213
  refine lv_aload_n hx hb dX13_text_221 rfl (lv_at hl 0 rfl) ?_
  refine q_get hx hb hts hown hA hW iX13 ha_218 rfl 2 (by decide) (hts (.fieldLink RX13 47 "HighRecipesLaw$Act" "value" "LHighRecipesLaw$Node;") (by decide +kernel)) (fun _ h9 => h9) (v := .ref y) rfl dX13_text_222 ?_
  refine q_cq (va_runV (As := []) (rest := [.ref n]) ⟨hx, hb, hml, hown, hts⟩ (kX16_text_1 l E f_218 n_218 y pn P D W (NODE.to (fun q hq => have h8 := hP q hq; ⟨hq, ((hfr_218 _ (by omega) (by omega) (by omega)).trans ((hfr_213 _ (by omega) (by omega) (by omega)).trans ((hfr_210 _ (by omega)).trans ((hfr_203 _ (by omega) (by omega) (by omega)).trans ((hfr_198 _ (by omega) (by omega)).trans (q_ne (by omega) rfl))))))⟩) hN) hpn (fun q hq => by have := hP q hq; omega)) (cwV 0 hts gX13_text_X16_text rfl rfl rfl (by decide +kernel) ⟨(by show 18 + 1 ≤ x9 + 30; omega), (by show 8 + (1 + 11) + 1100 ≤ y9 + 2000; omega)⟩) (q_pV hA hW hS (ci := 16) rfl hy_218) rfl rfl hl.1 rfl (lv_room (Nat.le_of_ble_eq_true rfl)) dX13_text_225 ⟨(by show _ ≤ z9 + 180; omega), (by show _ ≤ u9 + 9000; omega)⟩) hS (fun r_225 f_225 n_225 H locs hp hW hS => ?_)
  obtain ⟨r_225, rfl, eT_225, ef_225, en_225, hfr_225⟩ := hp
  have ha_225 : f_225 a = some (cLA 3 (nI i) (some y) sg on ot bl el) := (hfr_225 _ (by omega)).trans ha_218
  have hy_225 : f_225 y = some (cNode so1 k1 x1 y1) := (hfr_225 _ (by omega)).trans hy_218
  have hr_210_225 : f_225 r_210 = some (cStr (r_210 + 1)) := (hfr_225 _ (by omega)).trans hr_210_218
  have hr_210___1_225 : f_225 (r_210 + 1) = some (aB E ((pT i).length) (tx (pT i))) := (hfr_225 _ (by omega)).trans hr_210___1_218
  have hn_225 : f_225 n = some (cSB b1_218 (nI (((([] : List Int32) ++ kt 17) ++ (pT i)) ++ kt 18).length)) := (hfr_225 _ (by omega)).trans e0_218
  have hb1_218_225 : f_225 b1_218 = some (aB E m1_218 (tx (((([] : List Int32) ++ kt 17) ++ (pT i)) ++ kt 18))) := (hfr_225 _ (by omega)).trans e1_218
  refine q_cq (va_runV (As := [.ref r_225]) (rest := []) ⟨hx, hb, hml, hown, hts⟩ (kJ4_append_S l E f_225 n_225 n b1_218 m1_218 r_225 80 (((([] : List Int32) ++ kt 17) ++ (pT i)) ++ kt 18) W hn_225 hb1_218_225 (by (try simp only [List.length_append, List.length_nil, List.length_cons, pT_len, ktl_0, ktl_1, ktl_2, ktl_3, ktl_4, ktl_5, ktl_6, ktl_7, ktl_8, ktl_9, ktl_10, ktl_11, ktl_12, ktl_13, ktl_14, ktl_15, ktl_16, ktl_17, ktl_18, ktl_19, ktl_20, ktl_21, ktl_22, ktl_23, ktl_24, ktl_25, ktl_26, ktl_27, ktl_28, ktl_29, ktl_30, ktl_31, ktl_32, ktl_33, ktl_34, ktl_35, ktl_36, ktl_37, ktl_38, ktl_39, ktl_40, ktl_41, ktl_42, ktl_43, ktl_44, ktl_45, ktl_46, ktl_47, ktl_48, ktl_49]); omega) (by omega) (by omega) (by first | assumption | decide) (by repeat (first | exact okb_nil | assumption | exact kt_okb (by omega) | exact okb_pT (by omega) | exact dg_ok _ (by omega) | exact okb_one (by omega) | apply okb_app)) (by repeat (first | exact okb_nil | assumption | exact kt_okb (by omega) | exact okb_pT (by omega) | exact dg_ok _ (by omega) | exact okb_one (by omega) | apply okb_app)) eT_225 (fun rb h9 => by have := ef_225 rb h9; omega)) (cwV 1 hts gX13_text_J4_append_15ec4 rfl rfl rfl (by decide +kernel) ⟨(by show 5 + 1 ≤ x9 + 30; omega), (by show 8 + (2 + 11) + 300 ≤ y9 + 2000; omega)⟩) (q_pV hA hW hS (ci := 1) rfl hn_225) rfl rfl hl.1 rfl (lv_room (Nat.le_of_ble_eq_true rfl)) dX13_text_228 ⟨(by show _ ≤ z9 + 180; omega), (by show _ ≤ u9 + 9000; omega)⟩) hS (fun r_228 f_228 n_228 H locs hp hW hS => ?_)
  obtain ⟨b1_228, m1_228, rfl, e0_228, e1_228, el_228, em4_228, eb_228, en_228, hfr_228⟩ := hp
  have l_e0_228 := hW.lt e0_228
  have l_e1_228 := hW.lt e1_228
  have ha_228 : f_228 a = some (cLA 3 (nI i) (some y) sg on ot bl el) := (hfr_228 _ (by omega) (by omega) (by omega)).trans ha_225
  have hy_228 : f_228 y = some (cNode so1 k1 x1 y1) := (hfr_228 _ (by omega) (by omega) (by omega)).trans hy_225
  have hr_210_228 : f_228 r_210 = some (cStr (r_210 + 1)) := (hfr_228 _ (by omega) (by omega) (by omega)).trans hr_210_225
  have hr_210___1_228 : f_228 (r_210 + 1) = some (aB E ((pT i).length) (tx (pT i))) := (hfr_228 _ (by omega) (by omega) (by omega)).trans hr_210___1_225
  refine va_ldcS (own := "HighRecipesLaw$Act") hx hb hown (q_ldk hA (i := 19) (by decide)) dX13_text_231 ?_
  refine q_cq (va_runV (As := [.ref (E.2.2.2 (200 + 19))]) (rest := []) ⟨hx, hb, hml, hown, hts⟩ (kJ4_append_k l E f_228 n_228 n b1_228 m1_228 19 80 ((((([] : List Int32) ++ kt 17) ++ (pT i)) ++ kt 18) ++ W) e0_228 e1_228 (by (try simp only [List.length_append, List.length_nil, List.length_cons, pT_len, ktl_0, ktl_1, ktl_2, ktl_3, ktl_4, ktl_5, ktl_6, ktl_7, ktl_8, ktl_9, ktl_10, ktl_11, ktl_12, ktl_13, ktl_14, ktl_15, ktl_16, ktl_17, ktl_18, ktl_19, ktl_20, ktl_21, ktl_22, ktl_23, ktl_24, ktl_25, ktl_26, ktl_27, ktl_28, ktl_29, ktl_30, ktl_31, ktl_32, ktl_33, ktl_34, ktl_35, ktl_36, ktl_37, ktl_38, ktl_39, ktl_40, ktl_41, ktl_42, ktl_43, ktl_44, ktl_45, ktl_46, ktl_47, ktl_48, ktl_49]); omega) (by omega) (by omega) (by first | assumption | decide) (by repeat (first | exact okb_nil | assumption | exact kt_okb (by omega) | exact okb_pT (by omega) | exact dg_ok _ (by omega) | exact okb_one (by omega) | apply okb_app)) (by omega)) (cwV 1 hts gX13_text_J4_append_15ec4 rfl rfl rfl (by decide +kernel) ⟨(by show 5 + 1 ≤ x9 + 30; omega), (by show 8 + (2 + 11) + 300 ≤ y9 + 2000; omega)⟩) (q_pV hA hW hS (ci := 1) rfl e0_228) rfl rfl hl.1 rfl (lv_room (Nat.le_of_ble_eq_true rfl)) dX13_text_233 ⟨(by show _ ≤ z9 + 180; omega), (by show _ ≤ u9 + 9000; omega)⟩) hS (fun r_233 f_233 n_233 H locs hp hW hS => ?_)
  obtain ⟨b1_233, m1_233, rfl, e0_233, e1_233, el_233, em4_233, eb_233, en_233, hfr_233⟩ := hp
  have l_e0_233 := hW.lt e0_233
  have l_e1_233 := hW.lt e1_233
  have ha_233 : f_233 a = some (cLA 3 (nI i) (some y) sg on ot bl el) := (hfr_233 _ (by omega) (by omega) (by omega)).trans ha_228
  have hy_233 : f_233 y = some (cNode so1 k1 x1 y1) := (hfr_233 _ (by omega) (by omega) (by omega)).trans hy_228
  have hr_210_233 : f_233 r_210 = some (cStr (r_210 + 1)) := (hfr_233 _ (by omega) (by omega) (by omega)).trans hr_210_228
  have hr_210___1_233 : f_233 (r_210 + 1) = some (aB E ((pT i).length) (tx (pT i))) := (hfr_233 _ (by omega) (by omega) (by omega)).trans hr_210___1_228
  refine q_cq (va_runV (As := []) (rest := []) ⟨hx, hb, hml, hown, hts⟩ (kJ4_toString_0e30d l E f_233 n_233 n b1_233 m1_233 80 (((((([] : List Int32) ++ kt 17) ++ (pT i)) ++ kt 18) ++ W) ++ kt 19) e0_233 e1_233 (by assumption) (by omega) (by (try simp only [List.length_append, List.length_nil, List.length_cons, pT_len, ktl_0, ktl_1, ktl_2, ktl_3, ktl_4, ktl_5, ktl_6, ktl_7, ktl_8, ktl_9, ktl_10, ktl_11, ktl_12, ktl_13, ktl_14, ktl_15, ktl_16, ktl_17, ktl_18, ktl_19, ktl_20, ktl_21, ktl_22, ktl_23, ktl_24, ktl_25, ktl_26, ktl_27, ktl_28, ktl_29, ktl_30, ktl_31, ktl_32, ktl_33, ktl_34, ktl_35, ktl_36, ktl_37, ktl_38, ktl_39, ktl_40, ktl_41, ktl_42, ktl_43, ktl_44, ktl_45, ktl_46, ktl_47, ktl_48, ktl_49]); omega) (by omega) (by repeat (first | exact okb_nil | assumption | exact kt_okb (by omega) | exact okb_pT (by omega) | exact dg_ok _ (by omega) | exact okb_one (by omega) | apply okb_app))) (cwV 0 hts gX13_text_J4_toString_0e30d rfl rfl rfl (by decide +kernel) ⟨(by show 5 + 1 ≤ x9 + 30; omega), (by show 8 + (1 + 11) + 131 ≤ y9 + 2000; omega)⟩) (q_pV hA hW hS (ci := 1) rfl e0_233) rfl rfl hl.1 rfl (lv_room (Nat.le_of_ble_eq_true rfl)) dX13_text_236 ⟨(by show _ ≤ z9 + 180; omega), (by show _ ≤ u9 + 9000; omega)⟩) hS (fun r_236 f_236 n_236 H locs hp hW hS => ?_)
  obtain ⟨rfl, e0_236, e1_236, en_236, hfr_236⟩ := hp
  have l_e0_236 := hW.lt e0_236
  have l_e1_236 := hW.lt e1_236
  have ha_236 : f_236 a = some (cLA 3 (nI i) (some y) sg on ot bl el) := (hfr_236 _ (by omega)).trans ha_233
  have hy_236 : f_236 y = some (cNode so1 k1 x1 y1) := (hfr_236 _ (by omega)).trans hy_233
  have hr_210_236 : f_236 r_210 = some (cStr (r_210 + 1)) := (hfr_236 _ (by omega)).trans hr_210_233
  have hr_210___1_236 : f_236 (r_210 + 1) = some (aB E ((pT i).length) (tx (pT i))) := (hfr_236 _ (by omega)).trans hr_210___1_233
  have hn_236 : f_236 n = some (cSB b1_233 (nI (((((([] : List Int32) ++ kt 17) ++ (pT i)) ++ kt 18) ++ W) ++ kt 19).length)) := (hfr_236 _ (by omega)).trans e0_233
  have hb1_233_236 : f_236 b1_233 = some (aB E m1_233 (tx (((((([] : List Int32) ++ kt 17) ++ (pT i)) ++ kt 18) ++ W) ++ kt 19))) := (hfr_236 _ (by omega)).trans e1_233
  exact q_aret (v := some n_233) hx hb hr (Or.inl ⟨_, rfl⟩) hlocks hW hS ⟨n_233, rfl, e0_236, e1_236, (by omega), (by omega), (fun q g0 => ((hfr_236 _ (by omega)).trans ((hfr_233 _ (by omega) (by omega) (by omega)).trans ((hfr_228 _ (by omega) (by omega) (by omega)).trans ((hfr_225 _ (by omega)).trans ((hfr_218 _ (by omega) (by omega) (by omega)).trans ((hfr_213 _ (by omega) (by omega) (by omega)).trans ((hfr_210 _ (by omega)).trans ((hfr_203 _ (by omega) (by omega) (by omega)).trans ((hfr_198 _ (by omega) (by omega)).trans (q_ne (by omega) rfl)))))))))))⟩ (by show _ ≤ z9 + 180; omega) (by show _ ≤ u9 + 9000; omega) dX13_text_239

set_option maxHeartbeats 4000000 in
set_option maxRecDepth 100000 in
theorem kX13_text_k4 (l : Launch) (E : q_E) (f : q_H) (n : Nat) (x9 y9 z9 u9 a pn : Nat) (P : Nat → Prop) (i : Nat) (sg on ot bl el : Option Nat) (h0 : f a = some (cLA 4 (nI i) none sg on ot bl el)) (hpn : pn ≤ 8) (hP : ∀ q, P q → q < n) (hi : i < pn) : Met l yX13_text wsX13_text ({ frames := x9 + 30, cells := z9 + 180, slots := u9 + 9000, locals := y9 + 2000 }) (q_P E [.ref a] f n) (q_Qq E (fun r0 f1 n1 => ∃ (r : Nat), some r = r0 ∧ f1 r = some (cStr (r + 1)) ∧ f1 (r + 1) = some (aB E ((kt 20 ++ pT i ++ kt 12).length) (tx (kt 20 ++ pT i ++ kt 12))) ∧ n ≤ r ∧ n ≤ n1 ∧ ∀ z9, z9 < n → f1 z9 = f z9)) (z9 + 180) (u9 + 9000) (q_ge E) := by
  refine Met.ofW (cc := cX13_text) (maxL := 3) (ret := (some (.object "java/lang/String"))) (by decide) rfl ?_
  intro p0_ e0_ s0_ m0_ args0_ below0_ meth0_ c0_ s1_ B hml hv
  obtain ⟨rfl, hA, hW⟩ := hv
  have hx := B.exec
  have hb := B.bytes
  have hr := B.returns
  have hts := atoms_spec (ws := wsX13_text) B.pre
  have hown : s0_.vm.findClass RX13 = some m0_.cls := findClass_of_methodNamed B.named
  have hlocks := B.notSynchronized
  have hS : va_S (q_ge E) s0_.heap s0_.heap [] := va_S.rf
  have iJ4 : ∀ w ∈ wsJ40, w ∈ wsX13_text := by decide +kernel
  have iX13 : ∀ w ∈ wsX130, w ∈ wsX13_text := by decide +kernel
  have hl := lv_entry ([.ref a]) (n := 3) (Nat.le_of_ble_eq_true rfl)
  rw [lg_entry_eq]
  generalize (lg_sl ([.ref a]) ++ List.replicate (3 - (lg_sl ([.ref a])).length) Slot.unset).toArray = ls at hl ⊢
  have hl : lv_has ls 3 [(0, .ref a)] := hl
  have l_h0 := hW.lt h0
  refine lv_aload_n hx hb dX13_text_0 rfl (lv_at hl 0 rfl) ?_
  refine q_get hx hb hts hown hA hW iX13 h0 rfl 0 (by decide) (hts (.fieldLink RX13 37 "HighRecipesLaw$Act" "does" "I") (by decide +kernel)) (fun _ h9 => h9) (v := .int 4) rfl dX13_text_1 ?_
  refine lv_tableIn (x := 4) (off := 236) (tgt := 240) hx hb dX13_text_4 (by decide) (by decide) (by decide) (by decide) ?_
  refine q_new (ci := 1) hx hb hts hown hA hW hS iJ4 tyJ4 tyJ4_ok (hts (.classLink RX13 61 RJ4) (by decide +kernel)) (hts (.instantiable RJ4 4) (by decide +kernel)) (hts (.initialized RJ4) (by decide +kernel)) rfl (fs := [.null, .int 0, .int 0, .int 0]) (by decide) (by show _ ≤ z9 + 180; omega) (by show _ ≤ u9 + 9000; omega) dX13_text_240 (fun H hW hS => ?_)
  have hW : q_W E (va_up f n (some (rSB none 0 0 0))) (n + 1) H := hW
  refine lv_dup hx hb dX13_text_243 rfl ?_
  refine q_cv (va_runI (As := []) (rest := [.ref n]) ⟨hx, hb, hml, hown, hts⟩ (kJ4_init_da8c8 l E (va_up f n (some (rSB none 0 0 0))) (n + 1) n q_eq) (cwI 0 hts gX13_text_J4_init_da8c8 rfl rfl rfl (hts (.initialized RJ4) (by decide +kernel)) (hts (.methodLink RX13 81 yJ4_init_da8c8) (by decide +kernel)) (hts (.instanceMethod yJ4_init_da8c8) (by decide +kernel)) rfl (by decide +kernel) ⟨(by show 2 + 1 ≤ x9 + 30; omega), (by show 8 + (1 + 11) + 41 ≤ y9 + 2000; omega)⟩) (q_pS hA hW hS) rfl rfl hl.1 rfl (lv_room (Nat.le_of_ble_eq_true rfl)) dX13_text_244 ⟨(by show _ ≤ z9 + 180; omega), (by show _ ≤ u9 + 9000; omega)⟩) hS (fun f_244 n_244 H locs hp hW hS => ?_)
  obtain ⟨e0_244, e1_244, en_244, hfr_244⟩ := hp
  have l_e0_244 := hW.lt e0_244
  have l_e1_244 := hW.lt e1_244
  have ha_244 : f_244 a = some (cLA 4 (nI i) none sg on ot bl el) := (hfr_244 _ (by omega) (by omega)).trans (q_ne (by omega) h0)
  refine va_ldcS (own := "HighRecipesLaw$Act") hx hb hown (q_ldk hA (i := 20) (by decide)) dX13_text_247 ?_
  refine q_cq (va_runV (As := [.ref (E.2.2.2 (200 + 20))]) (rest := []) ⟨hx, hb, hml, hown, hts⟩ (kJ4_append_k l E f_244 n_244 n (n + 1) 16 20 80 ([] : List Int32) e0_244 e1_244 (by (try simp only [List.length_append, List.length_nil, List.length_cons, pT_len, ktl_0, ktl_1, ktl_2, ktl_3, ktl_4, ktl_5, ktl_6, ktl_7, ktl_8, ktl_9, ktl_10, ktl_11, ktl_12, ktl_13, ktl_14, ktl_15, ktl_16, ktl_17, ktl_18, ktl_19, ktl_20, ktl_21, ktl_22, ktl_23, ktl_24, ktl_25, ktl_26, ktl_27, ktl_28, ktl_29, ktl_30, ktl_31, ktl_32, ktl_33, ktl_34, ktl_35, ktl_36, ktl_37, ktl_38, ktl_39, ktl_40, ktl_41, ktl_42, ktl_43, ktl_44, ktl_45, ktl_46, ktl_47, ktl_48, ktl_49]); omega) (by omega) (by omega) (by first | assumption | decide) (by repeat (first | exact okb_nil | assumption | exact kt_okb (by omega) | exact okb_pT (by omega) | exact dg_ok _ (by omega) | exact okb_one (by omega) | apply okb_app)) (by omega)) (cwV 1 hts gX13_text_J4_append_15ec4 rfl rfl rfl (by decide +kernel) ⟨(by show 5 + 1 ≤ x9 + 30; omega), (by show 8 + (2 + 11) + 300 ≤ y9 + 2000; omega)⟩) (q_pV hA hW hS (ci := 1) rfl e0_244) rfl rfl hl.1 rfl (lv_room (Nat.le_of_ble_eq_true rfl)) dX13_text_249 ⟨(by show _ ≤ z9 + 180; omega), (by show _ ≤ u9 + 9000; omega)⟩) hS (fun r_249 f_249 n_249 H locs hp hW hS => ?_)
  obtain ⟨b1_249, m1_249, rfl, e0_249, e1_249, el_249, em4_249, eb_249, en_249, hfr_249⟩ := hp
  have l_e0_249 := hW.lt e0_249
  have l_e1_249 := hW.lt e1_249
  have ha_249 : f_249 a = some (cLA 4 (nI i) none sg on ot bl el) := (hfr_249 _ (by omega) (by omega) (by omega)).trans ha_244
  refine lv_aload_n hx hb dX13_text_252 rfl (lv_at hl 0 rfl) ?_
  refine q_get hx hb hts hown hA hW iX13 ha_249 rfl 1 (by decide) (hts (.fieldLink RX13 41 "HighRecipesLaw$Act" "whom" "I") (by decide +kernel)) (fun _ h9 => h9) (v := .int (nI i)) rfl dX13_text_253 ?_
  refine q_cq (va_runSN (As := [.int (nI i)]) (rest := [.ref n]) ⟨hx, hb, hml, hown, hts⟩ (kL_pan l E f_249 n_249 i (by omega)) ⟨va_cnB 1 hts gX13_text_L_pan_n87 rfl rfl rfl (hA.2.2.2.2.1 ("HighRecipesLaw$Act", 87, ⟨"HighRecipesLaw", "pan", "(I)Ljava/lang/String;"⟩, "HighRecipesLaw") (by decide +kernel)) (hts (.initialized RL) (by decide +kernel)) (by decide +kernel) ⟨(by show 6 + 1 ≤ x9 + 30; omega), (by show 8 + (1 + 11) + 321 ≤ y9 + 2000; omega)⟩, hts (.static yL_pan) (by decide +kernel), trivial⟩ (q_pS hA hW hS) rfl rfl hl.1 rfl (lv_room (Nat.le_of_ble_eq_true rfl)) dX13_text_256 ⟨(by show _ ≤ z9 + 180; omega), (by show _ ≤ u9 + 9000; omega)⟩) hS (fun r_256 f_256 n_256 H locs hp hW hS => ?_)
  obtain ⟨r_256, rfl, e0_256, e1_256, er_256, en_256, hfr_256⟩ := hp
  have l_e0_256 := hW.lt e0_256
  have l_e1_256 := hW.lt e1_256
  have ha_256 : f_256 a = some (cLA 4 (nI i) none sg on ot bl el) := (hfr_256 _ (by omega)).trans ha_249
  have hn_256 : f_256 n = some (cSB b1_249 (nI (([] : List Int32) ++ kt 20).length)) := (hfr_256 _ (by omega)).trans e0_249
  have hb1_249_256 : f_256 b1_249 = some (aB E m1_249 (tx (([] : List Int32) ++ kt 20))) := (hfr_256 _ (by omega)).trans e1_249
  refine q_cq (va_runV (As := [.ref r_256]) (rest := []) ⟨hx, hb, hml, hown, hts⟩ (kJ4_append_15ec4 l E f_256 n_256 n b1_249 m1_249 r_256 (r_256 + 1) 80 (([] : List Int32) ++ kt 20) (pT i) hn_256 hb1_249_256 e0_256 e1_256 (by (try simp only [List.length_append, List.length_nil, List.length_cons, pT_len, ktl_0, ktl_1, ktl_2, ktl_3, ktl_4, ktl_5, ktl_6, ktl_7, ktl_8, ktl_9, ktl_10, ktl_11, ktl_12, ktl_13, ktl_14, ktl_15, ktl_16, ktl_17, ktl_18, ktl_19, ktl_20, ktl_21, ktl_22, ktl_23, ktl_24, ktl_25, ktl_26, ktl_27, ktl_28, ktl_29, ktl_30, ktl_31, ktl_32, ktl_33, ktl_34, ktl_35, ktl_36, ktl_37, ktl_38, ktl_39, ktl_40, ktl_41, ktl_42, ktl_43, ktl_44, ktl_45, ktl_46, ktl_47, ktl_48, ktl_49]); omega) (by omega) (by omega) (by first | assumption | decide) (by repeat (first | exact okb_nil | assumption | exact kt_okb (by omega) | exact okb_pT (by omega) | exact dg_ok _ (by omega) | exact okb_one (by omega) | apply okb_app)) (by repeat (first | exact okb_nil | assumption | exact kt_okb (by omega) | exact okb_pT (by omega) | exact dg_ok _ (by omega) | exact okb_one (by omega) | apply okb_app)) (by omega)) (cwV 1 hts gX13_text_J4_append_15ec4 rfl rfl rfl (by decide +kernel) ⟨(by show 5 + 1 ≤ x9 + 30; omega), (by show 8 + (2 + 11) + 300 ≤ y9 + 2000; omega)⟩) (q_pV hA hW hS (ci := 1) rfl hn_256) rfl rfl hl.1 rfl (lv_room (Nat.le_of_ble_eq_true rfl)) dX13_text_259 ⟨(by show _ ≤ z9 + 180; omega), (by show _ ≤ u9 + 9000; omega)⟩) hS (fun r_259 f_259 n_259 H locs hp hW hS => ?_)
  obtain ⟨b1_259, m1_259, rfl, e0_259, e1_259, el_259, em4_259, eb_259, en_259, hfr_259⟩ := hp
  have l_e0_259 := hW.lt e0_259
  have l_e1_259 := hW.lt e1_259
  have ha_259 : f_259 a = some (cLA 4 (nI i) none sg on ot bl el) := (hfr_259 _ (by omega) (by omega) (by omega)).trans ha_256
  have hr_256_259 : f_259 r_256 = some (cStr (r_256 + 1)) := (hfr_259 _ (by omega) (by omega) (by omega)).trans e0_256
  have hr_256___1_259 : f_259 (r_256 + 1) = some (aB E ((pT i).length) (tx (pT i))) := (hfr_259 _ (by omega) (by omega) (by omega)).trans e1_256
  refine va_ldcS (own := "HighRecipesLaw$Act") hx hb hown (q_ldk hA (i := 12) (by decide)) dX13_text_262 ?_
  refine q_cq (va_runV (As := [.ref (E.2.2.2 (200 + 12))]) (rest := []) ⟨hx, hb, hml, hown, hts⟩ (kJ4_append_k l E f_259 n_259 n b1_259 m1_259 12 80 ((([] : List Int32) ++ kt 20) ++ (pT i)) e0_259 e1_259 (by (try simp only [List.length_append, List.length_nil, List.length_cons, pT_len, ktl_0, ktl_1, ktl_2, ktl_3, ktl_4, ktl_5, ktl_6, ktl_7, ktl_8, ktl_9, ktl_10, ktl_11, ktl_12, ktl_13, ktl_14, ktl_15, ktl_16, ktl_17, ktl_18, ktl_19, ktl_20, ktl_21, ktl_22, ktl_23, ktl_24, ktl_25, ktl_26, ktl_27, ktl_28, ktl_29, ktl_30, ktl_31, ktl_32, ktl_33, ktl_34, ktl_35, ktl_36, ktl_37, ktl_38, ktl_39, ktl_40, ktl_41, ktl_42, ktl_43, ktl_44, ktl_45, ktl_46, ktl_47, ktl_48, ktl_49]); omega) (by omega) (by omega) (by first | assumption | decide) (by repeat (first | exact okb_nil | assumption | exact kt_okb (by omega) | exact okb_pT (by omega) | exact dg_ok _ (by omega) | exact okb_one (by omega) | apply okb_app)) (by omega)) (cwV 1 hts gX13_text_J4_append_15ec4 rfl rfl rfl (by decide +kernel) ⟨(by show 5 + 1 ≤ x9 + 30; omega), (by show 8 + (2 + 11) + 300 ≤ y9 + 2000; omega)⟩) (q_pV hA hW hS (ci := 1) rfl e0_259) rfl rfl hl.1 rfl (lv_room (Nat.le_of_ble_eq_true rfl)) dX13_text_264 ⟨(by show _ ≤ z9 + 180; omega), (by show _ ≤ u9 + 9000; omega)⟩) hS (fun r_264 f_264 n_264 H locs hp hW hS => ?_)
  obtain ⟨b1_264, m1_264, rfl, e0_264, e1_264, el_264, em4_264, eb_264, en_264, hfr_264⟩ := hp
  have l_e0_264 := hW.lt e0_264
  have l_e1_264 := hW.lt e1_264
  have ha_264 : f_264 a = some (cLA 4 (nI i) none sg on ot bl el) := (hfr_264 _ (by omega) (by omega) (by omega)).trans ha_259
  have hr_256_264 : f_264 r_256 = some (cStr (r_256 + 1)) := (hfr_264 _ (by omega) (by omega) (by omega)).trans hr_256_259
  have hr_256___1_264 : f_264 (r_256 + 1) = some (aB E ((pT i).length) (tx (pT i))) := (hfr_264 _ (by omega) (by omega) (by omega)).trans hr_256___1_259
  refine q_cq (va_runV (As := []) (rest := []) ⟨hx, hb, hml, hown, hts⟩ (kJ4_toString_0e30d l E f_264 n_264 n b1_264 m1_264 80 (((([] : List Int32) ++ kt 20) ++ (pT i)) ++ kt 12) e0_264 e1_264 (by assumption) (by omega) (by (try simp only [List.length_append, List.length_nil, List.length_cons, pT_len, ktl_0, ktl_1, ktl_2, ktl_3, ktl_4, ktl_5, ktl_6, ktl_7, ktl_8, ktl_9, ktl_10, ktl_11, ktl_12, ktl_13, ktl_14, ktl_15, ktl_16, ktl_17, ktl_18, ktl_19, ktl_20, ktl_21, ktl_22, ktl_23, ktl_24, ktl_25, ktl_26, ktl_27, ktl_28, ktl_29, ktl_30, ktl_31, ktl_32, ktl_33, ktl_34, ktl_35, ktl_36, ktl_37, ktl_38, ktl_39, ktl_40, ktl_41, ktl_42, ktl_43, ktl_44, ktl_45, ktl_46, ktl_47, ktl_48, ktl_49]); omega) (by omega) (by repeat (first | exact okb_nil | assumption | exact kt_okb (by omega) | exact okb_pT (by omega) | exact dg_ok _ (by omega) | exact okb_one (by omega) | apply okb_app))) (cwV 0 hts gX13_text_J4_toString_0e30d rfl rfl rfl (by decide +kernel) ⟨(by show 5 + 1 ≤ x9 + 30; omega), (by show 8 + (1 + 11) + 131 ≤ y9 + 2000; omega)⟩) (q_pV hA hW hS (ci := 1) rfl e0_264) rfl rfl hl.1 rfl (lv_room (Nat.le_of_ble_eq_true rfl)) dX13_text_267 ⟨(by show _ ≤ z9 + 180; omega), (by show _ ≤ u9 + 9000; omega)⟩) hS (fun r_267 f_267 n_267 H locs hp hW hS => ?_)
  obtain ⟨rfl, e0_267, e1_267, en_267, hfr_267⟩ := hp
  have l_e0_267 := hW.lt e0_267
  have l_e1_267 := hW.lt e1_267
  have ha_267 : f_267 a = some (cLA 4 (nI i) none sg on ot bl el) := (hfr_267 _ (by omega)).trans ha_264
  have hr_256_267 : f_267 r_256 = some (cStr (r_256 + 1)) := (hfr_267 _ (by omega)).trans hr_256_264
  have hr_256___1_267 : f_267 (r_256 + 1) = some (aB E ((pT i).length) (tx (pT i))) := (hfr_267 _ (by omega)).trans hr_256___1_264
  have hn_267 : f_267 n = some (cSB b1_264 (nI (((([] : List Int32) ++ kt 20) ++ (pT i)) ++ kt 12).length)) := (hfr_267 _ (by omega)).trans e0_264
  have hb1_264_267 : f_267 b1_264 = some (aB E m1_264 (tx (((([] : List Int32) ++ kt 20) ++ (pT i)) ++ kt 12))) := (hfr_267 _ (by omega)).trans e1_264
  exact q_aret (v := some n_264) hx hb hr (Or.inl ⟨_, rfl⟩) hlocks hW hS ⟨n_264, rfl, e0_267, e1_267, (by omega), (by omega), (fun q g0 => ((hfr_267 _ (by omega)).trans ((hfr_264 _ (by omega) (by omega) (by omega)).trans ((hfr_259 _ (by omega) (by omega) (by omega)).trans ((hfr_256 _ (by omega)).trans ((hfr_249 _ (by omega) (by omega) (by omega)).trans ((hfr_244 _ (by omega) (by omega)).trans (q_ne (by omega) rfl))))))))⟩ (by show _ ≤ z9 + 180; omega) (by show _ ≤ u9 + 9000; omega) dX13_text_270

set_option maxHeartbeats 4000000 in
set_option maxRecDepth 100000 in
theorem kX13_text_k5 (l : Launch) (E : q_E) (f : q_H) (n : Nat) (x9 y9 z9 u9 a pn : Nat) (P : Nat → Prop) (i y : Nat) (D : q_D) (W : List Int32) (sg on ot bl el : Option Nat) (h0 : f a = some (cLA 5 (nI i) (some y) sg on ot bl el)) (hpn : pn ≤ 8) (hP : ∀ q, P q → q < n) (hN : NODE pn P f 1 y D W) (hi : i < pn) : Met l yX13_text wsX13_text ({ frames := x9 + 30, cells := z9 + 180, slots := u9 + 9000, locals := y9 + 2000 }) (q_P E [.ref a] f n) (q_Qq E (fun r0 f1 n1 => ∃ (r : Nat), some r = r0 ∧ f1 r = some (cStr (r + 1)) ∧ f1 (r + 1) = some (aB E ((kt 21 ++ W ++ kt 22).length) (tx (kt 21 ++ W ++ kt 22))) ∧ n ≤ r ∧ n ≤ n1 ∧ ∀ z9, z9 < n → f1 z9 = f z9)) (z9 + 180) (u9 + 9000) (q_ge E) := by
  refine Met.ofW (cc := cX13_text) (maxL := 3) (ret := (some (.object "java/lang/String"))) (by decide) rfl ?_
  intro p0_ e0_ s0_ m0_ args0_ below0_ meth0_ c0_ s1_ B hml hv
  obtain ⟨rfl, hA, hW⟩ := hv
  have hx := B.exec
  have hb := B.bytes
  have hr := B.returns
  have hts := atoms_spec (ws := wsX13_text) B.pre
  have hown : s0_.vm.findClass RX13 = some m0_.cls := findClass_of_methodNamed B.named
  have hlocks := B.notSynchronized
  have hS : va_S (q_ge E) s0_.heap s0_.heap [] := va_S.rf
  have iJ4 : ∀ w ∈ wsJ40, w ∈ wsX13_text := by decide +kernel
  have iX13 : ∀ w ∈ wsX130, w ∈ wsX13_text := by decide +kernel
  have hl := lv_entry ([.ref a]) (n := 3) (Nat.le_of_ble_eq_true rfl)
  rw [lg_entry_eq]
  generalize (lg_sl ([.ref a]) ++ List.replicate (3 - (lg_sl ([.ref a])).length) Slot.unset).toArray = ls at hl ⊢
  have hl : lv_has ls 3 [(0, .ref a)] := hl
  have l_h0 := hW.lt h0
  have lW := hN.len1
  have oW := hN.okb hpn
  obtain ⟨-, so1, k1, x1, y1, hcy⟩ := hN.cell
  have l_cy := hW.lt hcy
  refine lv_aload_n hx hb dX13_text_0 rfl (lv_at hl 0 rfl) ?_
  refine q_get hx hb hts hown hA hW iX13 h0 rfl 0 (by decide) (hts (.fieldLink RX13 37 "HighRecipesLaw$Act" "does" "I") (by decide +kernel)) (fun _ h9 => h9) (v := .int 5) rfl dX13_text_1 ?_
  refine lv_tableIn (x := 5) (off := 267) (tgt := 271) hx hb dX13_text_4 (by decide) (by decide) (by decide) (by decide) ?_
  refine q_new (ci := 1) hx hb hts hown hA hW hS iJ4 tyJ4 tyJ4_ok (hts (.classLink RX13 61 RJ4) (by decide +kernel)) (hts (.instantiable RJ4 4) (by decide +kernel)) (hts (.initialized RJ4) (by decide +kernel)) rfl (fs := [.null, .int 0, .int 0, .int 0]) (by decide) (by show _ ≤ z9 + 180; omega) (by show _ ≤ u9 + 9000; omega) dX13_text_271 (fun H hW hS => ?_)
  have hW : q_W E (va_up f n (some (rSB none 0 0 0))) (n + 1) H := hW
  refine lv_dup hx hb dX13_text_274 rfl ?_
  refine q_cv (va_runI (As := []) (rest := [.ref n]) ⟨hx, hb, hml, hown, hts⟩ (kJ4_init_da8c8 l E (va_up f n (some (rSB none 0 0 0))) (n + 1) n q_eq) (cwI 0 hts gX13_text_J4_init_da8c8 rfl rfl rfl (hts (.initialized RJ4) (by decide +kernel)) (hts (.methodLink RX13 81 yJ4_init_da8c8) (by decide +kernel)) (hts (.instanceMethod yJ4_init_da8c8) (by decide +kernel)) rfl (by decide +kernel) ⟨(by show 2 + 1 ≤ x9 + 30; omega), (by show 8 + (1 + 11) + 41 ≤ y9 + 2000; omega)⟩) (q_pS hA hW hS) rfl rfl hl.1 rfl (lv_room (Nat.le_of_ble_eq_true rfl)) dX13_text_275 ⟨(by show _ ≤ z9 + 180; omega), (by show _ ≤ u9 + 9000; omega)⟩) hS (fun f_275 n_275 H locs hp hW hS => ?_)
  obtain ⟨e0_275, e1_275, en_275, hfr_275⟩ := hp
  have l_e0_275 := hW.lt e0_275
  have l_e1_275 := hW.lt e1_275
  have ha_275 : f_275 a = some (cLA 5 (nI i) (some y) sg on ot bl el) := (hfr_275 _ (by omega) (by omega)).trans (q_ne (by omega) h0)
  have hy_275 : f_275 y = some (cNode so1 k1 x1 y1) := (hfr_275 _ (by omega) (by omega)).trans (q_ne (by omega) hcy)
  refine va_ldcS (own := "HighRecipesLaw$Act") hx hb hown (q_ldk hA (i := 21) (by decide)) dX13_text_278 ?_
  refine q_cq (va_runV (As := [.ref (E.2.2.2 (200 + 21))]) (rest := []) ⟨hx, hb, hml, hown, hts⟩ (kJ4_append_k l E f_275 n_275 n (n + 1) 16 21 80 ([] : List Int32) e0_275 e1_275 (by (try simp only [List.length_append, List.length_nil, List.length_cons, pT_len, ktl_0, ktl_1, ktl_2, ktl_3, ktl_4, ktl_5, ktl_6, ktl_7, ktl_8, ktl_9, ktl_10, ktl_11, ktl_12, ktl_13, ktl_14, ktl_15, ktl_16, ktl_17, ktl_18, ktl_19, ktl_20, ktl_21, ktl_22, ktl_23, ktl_24, ktl_25, ktl_26, ktl_27, ktl_28, ktl_29, ktl_30, ktl_31, ktl_32, ktl_33, ktl_34, ktl_35, ktl_36, ktl_37, ktl_38, ktl_39, ktl_40, ktl_41, ktl_42, ktl_43, ktl_44, ktl_45, ktl_46, ktl_47, ktl_48, ktl_49]); omega) (by omega) (by omega) (by first | assumption | decide) (by repeat (first | exact okb_nil | assumption | exact kt_okb (by omega) | exact okb_pT (by omega) | exact dg_ok _ (by omega) | exact okb_one (by omega) | apply okb_app)) (by omega)) (cwV 1 hts gX13_text_J4_append_15ec4 rfl rfl rfl (by decide +kernel) ⟨(by show 5 + 1 ≤ x9 + 30; omega), (by show 8 + (2 + 11) + 300 ≤ y9 + 2000; omega)⟩) (q_pV hA hW hS (ci := 1) rfl e0_275) rfl rfl hl.1 rfl (lv_room (Nat.le_of_ble_eq_true rfl)) dX13_text_280 ⟨(by show _ ≤ z9 + 180; omega), (by show _ ≤ u9 + 9000; omega)⟩) hS (fun r_280 f_280 n_280 H locs hp hW hS => ?_)
  obtain ⟨b1_280, m1_280, rfl, e0_280, e1_280, el_280, em4_280, eb_280, en_280, hfr_280⟩ := hp
  have l_e0_280 := hW.lt e0_280
  have l_e1_280 := hW.lt e1_280
  have ha_280 : f_280 a = some (cLA 5 (nI i) (some y) sg on ot bl el) := (hfr_280 _ (by omega) (by omega) (by omega)).trans ha_275
  have hy_280 : f_280 y = some (cNode so1 k1 x1 y1) := (hfr_280 _ (by omega) (by omega) (by omega)).trans hy_275
  refine lv_aload_n hx hb dX13_text_283 rfl (lv_at hl 0 rfl) ?_
  refine q_get hx hb hts hown hA hW iX13 ha_280 rfl 2 (by decide) (hts (.fieldLink RX13 47 "HighRecipesLaw$Act" "value" "LHighRecipesLaw$Node;") (by decide +kernel)) (fun _ h9 => h9) (v := .ref y) rfl dX13_text_284 ?_
  refine q_cq (va_runV (As := []) (rest := [.ref n]) ⟨hx, hb, hml, hown, hts⟩ (kX16_text_1 l E f_280 n_280 y pn P D W (NODE.to (fun q hq => have h8 := hP q hq; ⟨hq, ((hfr_280 _ (by omega) (by omega) (by omega)).trans ((hfr_275 _ (by omega) (by omega)).trans (q_ne (by omega) rfl)))⟩) hN) hpn (fun q hq => by have := hP q hq; omega)) (cwV 0 hts gX13_text_X16_text rfl rfl rfl (by decide +kernel) ⟨(by show 18 + 1 ≤ x9 + 30; omega), (by show 8 + (1 + 11) + 1100 ≤ y9 + 2000; omega)⟩) (q_pV hA hW hS (ci := 16) rfl hy_280) rfl rfl hl.1 rfl (lv_room (Nat.le_of_ble_eq_true rfl)) dX13_text_287 ⟨(by show _ ≤ z9 + 180; omega), (by show _ ≤ u9 + 9000; omega)⟩) hS (fun r_287 f_287 n_287 H locs hp hW hS => ?_)
  obtain ⟨r_287, rfl, eT_287, ef_287, en_287, hfr_287⟩ := hp
  have ha_287 : f_287 a = some (cLA 5 (nI i) (some y) sg on ot bl el) := (hfr_287 _ (by omega)).trans ha_280
  have hy_287 : f_287 y = some (cNode so1 k1 x1 y1) := (hfr_287 _ (by omega)).trans hy_280
  have hn_287 : f_287 n = some (cSB b1_280 (nI (([] : List Int32) ++ kt 21).length)) := (hfr_287 _ (by omega)).trans e0_280
  have hb1_280_287 : f_287 b1_280 = some (aB E m1_280 (tx (([] : List Int32) ++ kt 21))) := (hfr_287 _ (by omega)).trans e1_280
  refine q_cq (va_runV (As := [.ref r_287]) (rest := []) ⟨hx, hb, hml, hown, hts⟩ (kJ4_append_S l E f_287 n_287 n b1_280 m1_280 r_287 80 (([] : List Int32) ++ kt 21) W hn_287 hb1_280_287 (by (try simp only [List.length_append, List.length_nil, List.length_cons, pT_len, ktl_0, ktl_1, ktl_2, ktl_3, ktl_4, ktl_5, ktl_6, ktl_7, ktl_8, ktl_9, ktl_10, ktl_11, ktl_12, ktl_13, ktl_14, ktl_15, ktl_16, ktl_17, ktl_18, ktl_19, ktl_20, ktl_21, ktl_22, ktl_23, ktl_24, ktl_25, ktl_26, ktl_27, ktl_28, ktl_29, ktl_30, ktl_31, ktl_32, ktl_33, ktl_34, ktl_35, ktl_36, ktl_37, ktl_38, ktl_39, ktl_40, ktl_41, ktl_42, ktl_43, ktl_44, ktl_45, ktl_46, ktl_47, ktl_48, ktl_49]); omega) (by omega) (by omega) (by first | assumption | decide) (by repeat (first | exact okb_nil | assumption | exact kt_okb (by omega) | exact okb_pT (by omega) | exact dg_ok _ (by omega) | exact okb_one (by omega) | apply okb_app)) (by repeat (first | exact okb_nil | assumption | exact kt_okb (by omega) | exact okb_pT (by omega) | exact dg_ok _ (by omega) | exact okb_one (by omega) | apply okb_app)) eT_287 (fun rb h9 => by have := ef_287 rb h9; omega)) (cwV 1 hts gX13_text_J4_append_15ec4 rfl rfl rfl (by decide +kernel) ⟨(by show 5 + 1 ≤ x9 + 30; omega), (by show 8 + (2 + 11) + 300 ≤ y9 + 2000; omega)⟩) (q_pV hA hW hS (ci := 1) rfl hn_287) rfl rfl hl.1 rfl (lv_room (Nat.le_of_ble_eq_true rfl)) dX13_text_290 ⟨(by show _ ≤ z9 + 180; omega), (by show _ ≤ u9 + 9000; omega)⟩) hS (fun r_290 f_290 n_290 H locs hp hW hS => ?_)
  obtain ⟨b1_290, m1_290, rfl, e0_290, e1_290, el_290, em4_290, eb_290, en_290, hfr_290⟩ := hp
  have l_e0_290 := hW.lt e0_290
  have l_e1_290 := hW.lt e1_290
  have ha_290 : f_290 a = some (cLA 5 (nI i) (some y) sg on ot bl el) := (hfr_290 _ (by omega) (by omega) (by omega)).trans ha_287
  have hy_290 : f_290 y = some (cNode so1 k1 x1 y1) := (hfr_290 _ (by omega) (by omega) (by omega)).trans hy_287
  refine va_ldcS (own := "HighRecipesLaw$Act") hx hb hown (q_ldk hA (i := 22) (by decide)) dX13_text_293 ?_
  refine q_cq (va_runV (As := [.ref (E.2.2.2 (200 + 22))]) (rest := []) ⟨hx, hb, hml, hown, hts⟩ (kJ4_append_k l E f_290 n_290 n b1_290 m1_290 22 80 ((([] : List Int32) ++ kt 21) ++ W) e0_290 e1_290 (by (try simp only [List.length_append, List.length_nil, List.length_cons, pT_len, ktl_0, ktl_1, ktl_2, ktl_3, ktl_4, ktl_5, ktl_6, ktl_7, ktl_8, ktl_9, ktl_10, ktl_11, ktl_12, ktl_13, ktl_14, ktl_15, ktl_16, ktl_17, ktl_18, ktl_19, ktl_20, ktl_21, ktl_22, ktl_23, ktl_24, ktl_25, ktl_26, ktl_27, ktl_28, ktl_29, ktl_30, ktl_31, ktl_32, ktl_33, ktl_34, ktl_35, ktl_36, ktl_37, ktl_38, ktl_39, ktl_40, ktl_41, ktl_42, ktl_43, ktl_44, ktl_45, ktl_46, ktl_47, ktl_48, ktl_49]); omega) (by omega) (by omega) (by first | assumption | decide) (by repeat (first | exact okb_nil | assumption | exact kt_okb (by omega) | exact okb_pT (by omega) | exact dg_ok _ (by omega) | exact okb_one (by omega) | apply okb_app)) (by omega)) (cwV 1 hts gX13_text_J4_append_15ec4 rfl rfl rfl (by decide +kernel) ⟨(by show 5 + 1 ≤ x9 + 30; omega), (by show 8 + (2 + 11) + 300 ≤ y9 + 2000; omega)⟩) (q_pV hA hW hS (ci := 1) rfl e0_290) rfl rfl hl.1 rfl (lv_room (Nat.le_of_ble_eq_true rfl)) dX13_text_295 ⟨(by show _ ≤ z9 + 180; omega), (by show _ ≤ u9 + 9000; omega)⟩) hS (fun r_295 f_295 n_295 H locs hp hW hS => ?_)
  obtain ⟨b1_295, m1_295, rfl, e0_295, e1_295, el_295, em4_295, eb_295, en_295, hfr_295⟩ := hp
  have l_e0_295 := hW.lt e0_295
  have l_e1_295 := hW.lt e1_295
  have ha_295 : f_295 a = some (cLA 5 (nI i) (some y) sg on ot bl el) := (hfr_295 _ (by omega) (by omega) (by omega)).trans ha_290
  have hy_295 : f_295 y = some (cNode so1 k1 x1 y1) := (hfr_295 _ (by omega) (by omega) (by omega)).trans hy_290
  refine q_cq (va_runV (As := []) (rest := []) ⟨hx, hb, hml, hown, hts⟩ (kJ4_toString_0e30d l E f_295 n_295 n b1_295 m1_295 80 (((([] : List Int32) ++ kt 21) ++ W) ++ kt 22) e0_295 e1_295 (by assumption) (by omega) (by (try simp only [List.length_append, List.length_nil, List.length_cons, pT_len, ktl_0, ktl_1, ktl_2, ktl_3, ktl_4, ktl_5, ktl_6, ktl_7, ktl_8, ktl_9, ktl_10, ktl_11, ktl_12, ktl_13, ktl_14, ktl_15, ktl_16, ktl_17, ktl_18, ktl_19, ktl_20, ktl_21, ktl_22, ktl_23, ktl_24, ktl_25, ktl_26, ktl_27, ktl_28, ktl_29, ktl_30, ktl_31, ktl_32, ktl_33, ktl_34, ktl_35, ktl_36, ktl_37, ktl_38, ktl_39, ktl_40, ktl_41, ktl_42, ktl_43, ktl_44, ktl_45, ktl_46, ktl_47, ktl_48, ktl_49]); omega) (by omega) (by repeat (first | exact okb_nil | assumption | exact kt_okb (by omega) | exact okb_pT (by omega) | exact dg_ok _ (by omega) | exact okb_one (by omega) | apply okb_app))) (cwV 0 hts gX13_text_J4_toString_0e30d rfl rfl rfl (by decide +kernel) ⟨(by show 5 + 1 ≤ x9 + 30; omega), (by show 8 + (1 + 11) + 131 ≤ y9 + 2000; omega)⟩) (q_pV hA hW hS (ci := 1) rfl e0_295) rfl rfl hl.1 rfl (lv_room (Nat.le_of_ble_eq_true rfl)) dX13_text_298 ⟨(by show _ ≤ z9 + 180; omega), (by show _ ≤ u9 + 9000; omega)⟩) hS (fun r_298 f_298 n_298 H locs hp hW hS => ?_)
  obtain ⟨rfl, e0_298, e1_298, en_298, hfr_298⟩ := hp
  have l_e0_298 := hW.lt e0_298
  have l_e1_298 := hW.lt e1_298
  have ha_298 : f_298 a = some (cLA 5 (nI i) (some y) sg on ot bl el) := (hfr_298 _ (by omega)).trans ha_295
  have hy_298 : f_298 y = some (cNode so1 k1 x1 y1) := (hfr_298 _ (by omega)).trans hy_295
  have hn_298 : f_298 n = some (cSB b1_295 (nI (((([] : List Int32) ++ kt 21) ++ W) ++ kt 22).length)) := (hfr_298 _ (by omega)).trans e0_295
  have hb1_295_298 : f_298 b1_295 = some (aB E m1_295 (tx (((([] : List Int32) ++ kt 21) ++ W) ++ kt 22))) := (hfr_298 _ (by omega)).trans e1_295
  exact q_aret (v := some n_295) hx hb hr (Or.inl ⟨_, rfl⟩) hlocks hW hS ⟨n_295, rfl, e0_298, e1_298, (by omega), (by omega), (fun q g0 => ((hfr_298 _ (by omega)).trans ((hfr_295 _ (by omega) (by omega) (by omega)).trans ((hfr_290 _ (by omega) (by omega) (by omega)).trans ((hfr_287 _ (by omega)).trans ((hfr_280 _ (by omega) (by omega) (by omega)).trans ((hfr_275 _ (by omega) (by omega)).trans (q_ne (by omega) rfl))))))))⟩ (by show _ ≤ z9 + 180; omega) (by show _ ≤ u9 + 9000; omega) dX13_text_301

set_option maxHeartbeats 4000000 in
set_option maxRecDepth 100000 in
theorem kX13_text_k6 (l : Launch) (E : q_E) (f : q_H) (n : Nat) (x9 y9 z9 u9 a pn : Nat) (P : Nat → Prop) (i y : Nat) (D : q_D) (W : List Int32) (sg on ot bl el : Option Nat) (h0 : f a = some (cLA 6 (nI i) (some y) sg on ot bl el)) (hpn : pn ≤ 8) (hP : ∀ q, P q → q < n) (hN : NODE pn P f 1 y D W) (hi : i < pn) : Met l yX13_text wsX13_text ({ frames := x9 + 30, cells := z9 + 180, slots := u9 + 9000, locals := y9 + 2000 }) (q_P E [.ref a] f n) (q_Qq E (fun r0 f1 n1 => ∃ (r : Nat), some r = r0 ∧ f1 r = some (cStr (r + 1)) ∧ f1 (r + 1) = some (aB E ((kt 23 ++ W ++ kt 12).length) (tx (kt 23 ++ W ++ kt 12))) ∧ n ≤ r ∧ n ≤ n1 ∧ ∀ z9, z9 < n → f1 z9 = f z9)) (z9 + 180) (u9 + 9000) (q_ge E) := by
  refine Met.ofW (cc := cX13_text) (maxL := 3) (ret := (some (.object "java/lang/String"))) (by decide) rfl ?_
  intro p0_ e0_ s0_ m0_ args0_ below0_ meth0_ c0_ s1_ B hml hv
  obtain ⟨rfl, hA, hW⟩ := hv
  have hx := B.exec
  have hb := B.bytes
  have hr := B.returns
  have hts := atoms_spec (ws := wsX13_text) B.pre
  have hown : s0_.vm.findClass RX13 = some m0_.cls := findClass_of_methodNamed B.named
  have hlocks := B.notSynchronized
  have hS : va_S (q_ge E) s0_.heap s0_.heap [] := va_S.rf
  have iJ4 : ∀ w ∈ wsJ40, w ∈ wsX13_text := by decide +kernel
  have iX13 : ∀ w ∈ wsX130, w ∈ wsX13_text := by decide +kernel
  have hl := lv_entry ([.ref a]) (n := 3) (Nat.le_of_ble_eq_true rfl)
  rw [lg_entry_eq]
  generalize (lg_sl ([.ref a]) ++ List.replicate (3 - (lg_sl ([.ref a])).length) Slot.unset).toArray = ls at hl ⊢
  have hl : lv_has ls 3 [(0, .ref a)] := hl
  have l_h0 := hW.lt h0
  have lW := hN.len1
  have oW := hN.okb hpn
  obtain ⟨-, so1, k1, x1, y1, hcy⟩ := hN.cell
  have l_cy := hW.lt hcy
  refine lv_aload_n hx hb dX13_text_0 rfl (lv_at hl 0 rfl) ?_
  refine q_get hx hb hts hown hA hW iX13 h0 rfl 0 (by decide) (hts (.fieldLink RX13 37 "HighRecipesLaw$Act" "does" "I") (by decide +kernel)) (fun _ h9 => h9) (v := .int 6) rfl dX13_text_1 ?_
  refine lv_tableIn (x := 6) (off := 298) (tgt := 302) hx hb dX13_text_4 (by decide) (by decide) (by decide) (by decide) ?_
  refine q_new (ci := 1) hx hb hts hown hA hW hS iJ4 tyJ4 tyJ4_ok (hts (.classLink RX13 61 RJ4) (by decide +kernel)) (hts (.instantiable RJ4 4) (by decide +kernel)) (hts (.initialized RJ4) (by decide +kernel)) rfl (fs := [.null, .int 0, .int 0, .int 0]) (by decide) (by show _ ≤ z9 + 180; omega) (by show _ ≤ u9 + 9000; omega) dX13_text_302 (fun H hW hS => ?_)
  have hW : q_W E (va_up f n (some (rSB none 0 0 0))) (n + 1) H := hW
  refine lv_dup hx hb dX13_text_305 rfl ?_
  refine q_cv (va_runI (As := []) (rest := [.ref n]) ⟨hx, hb, hml, hown, hts⟩ (kJ4_init_da8c8 l E (va_up f n (some (rSB none 0 0 0))) (n + 1) n q_eq) (cwI 0 hts gX13_text_J4_init_da8c8 rfl rfl rfl (hts (.initialized RJ4) (by decide +kernel)) (hts (.methodLink RX13 81 yJ4_init_da8c8) (by decide +kernel)) (hts (.instanceMethod yJ4_init_da8c8) (by decide +kernel)) rfl (by decide +kernel) ⟨(by show 2 + 1 ≤ x9 + 30; omega), (by show 8 + (1 + 11) + 41 ≤ y9 + 2000; omega)⟩) (q_pS hA hW hS) rfl rfl hl.1 rfl (lv_room (Nat.le_of_ble_eq_true rfl)) dX13_text_306 ⟨(by show _ ≤ z9 + 180; omega), (by show _ ≤ u9 + 9000; omega)⟩) hS (fun f_306 n_306 H locs hp hW hS => ?_)
  obtain ⟨e0_306, e1_306, en_306, hfr_306⟩ := hp
  have l_e0_306 := hW.lt e0_306
  have l_e1_306 := hW.lt e1_306
  have ha_306 : f_306 a = some (cLA 6 (nI i) (some y) sg on ot bl el) := (hfr_306 _ (by omega) (by omega)).trans (q_ne (by omega) h0)
  have hy_306 : f_306 y = some (cNode so1 k1 x1 y1) := (hfr_306 _ (by omega) (by omega)).trans (q_ne (by omega) hcy)
  refine va_ldcS (own := "HighRecipesLaw$Act") hx hb hown (q_ldk hA (i := 23) (by decide)) dX13_text_309 ?_
  refine q_cq (va_runV (As := [.ref (E.2.2.2 (200 + 23))]) (rest := []) ⟨hx, hb, hml, hown, hts⟩ (kJ4_append_k l E f_306 n_306 n (n + 1) 16 23 80 ([] : List Int32) e0_306 e1_306 (by (try simp only [List.length_append, List.length_nil, List.length_cons, pT_len, ktl_0, ktl_1, ktl_2, ktl_3, ktl_4, ktl_5, ktl_6, ktl_7, ktl_8, ktl_9, ktl_10, ktl_11, ktl_12, ktl_13, ktl_14, ktl_15, ktl_16, ktl_17, ktl_18, ktl_19, ktl_20, ktl_21, ktl_22, ktl_23, ktl_24, ktl_25, ktl_26, ktl_27, ktl_28, ktl_29, ktl_30, ktl_31, ktl_32, ktl_33, ktl_34, ktl_35, ktl_36, ktl_37, ktl_38, ktl_39, ktl_40, ktl_41, ktl_42, ktl_43, ktl_44, ktl_45, ktl_46, ktl_47, ktl_48, ktl_49]); omega) (by omega) (by omega) (by first | assumption | decide) (by repeat (first | exact okb_nil | assumption | exact kt_okb (by omega) | exact okb_pT (by omega) | exact dg_ok _ (by omega) | exact okb_one (by omega) | apply okb_app)) (by omega)) (cwV 1 hts gX13_text_J4_append_15ec4 rfl rfl rfl (by decide +kernel) ⟨(by show 5 + 1 ≤ x9 + 30; omega), (by show 8 + (2 + 11) + 300 ≤ y9 + 2000; omega)⟩) (q_pV hA hW hS (ci := 1) rfl e0_306) rfl rfl hl.1 rfl (lv_room (Nat.le_of_ble_eq_true rfl)) dX13_text_311 ⟨(by show _ ≤ z9 + 180; omega), (by show _ ≤ u9 + 9000; omega)⟩) hS (fun r_311 f_311 n_311 H locs hp hW hS => ?_)
  obtain ⟨b1_311, m1_311, rfl, e0_311, e1_311, el_311, em4_311, eb_311, en_311, hfr_311⟩ := hp
  have l_e0_311 := hW.lt e0_311
  have l_e1_311 := hW.lt e1_311
  have ha_311 : f_311 a = some (cLA 6 (nI i) (some y) sg on ot bl el) := (hfr_311 _ (by omega) (by omega) (by omega)).trans ha_306
  have hy_311 : f_311 y = some (cNode so1 k1 x1 y1) := (hfr_311 _ (by omega) (by omega) (by omega)).trans hy_306
  refine lv_aload_n hx hb dX13_text_314 rfl (lv_at hl 0 rfl) ?_
  refine q_get hx hb hts hown hA hW iX13 ha_311 rfl 2 (by decide) (hts (.fieldLink RX13 47 "HighRecipesLaw$Act" "value" "LHighRecipesLaw$Node;") (by decide +kernel)) (fun _ h9 => h9) (v := .ref y) rfl dX13_text_315 ?_
  refine q_cq (va_runV (As := []) (rest := [.ref n]) ⟨hx, hb, hml, hown, hts⟩ (kX16_text_1 l E f_311 n_311 y pn P D W (NODE.to (fun q hq => have h8 := hP q hq; ⟨hq, ((hfr_311 _ (by omega) (by omega) (by omega)).trans ((hfr_306 _ (by omega) (by omega)).trans (q_ne (by omega) rfl)))⟩) hN) hpn (fun q hq => by have := hP q hq; omega)) (cwV 0 hts gX13_text_X16_text rfl rfl rfl (by decide +kernel) ⟨(by show 18 + 1 ≤ x9 + 30; omega), (by show 8 + (1 + 11) + 1100 ≤ y9 + 2000; omega)⟩) (q_pV hA hW hS (ci := 16) rfl hy_311) rfl rfl hl.1 rfl (lv_room (Nat.le_of_ble_eq_true rfl)) dX13_text_318 ⟨(by show _ ≤ z9 + 180; omega), (by show _ ≤ u9 + 9000; omega)⟩) hS (fun r_318 f_318 n_318 H locs hp hW hS => ?_)
  obtain ⟨r_318, rfl, eT_318, ef_318, en_318, hfr_318⟩ := hp
  have ha_318 : f_318 a = some (cLA 6 (nI i) (some y) sg on ot bl el) := (hfr_318 _ (by omega)).trans ha_311
  have hy_318 : f_318 y = some (cNode so1 k1 x1 y1) := (hfr_318 _ (by omega)).trans hy_311
  have hn_318 : f_318 n = some (cSB b1_311 (nI (([] : List Int32) ++ kt 23).length)) := (hfr_318 _ (by omega)).trans e0_311
  have hb1_311_318 : f_318 b1_311 = some (aB E m1_311 (tx (([] : List Int32) ++ kt 23))) := (hfr_318 _ (by omega)).trans e1_311
  refine q_cq (va_runV (As := [.ref r_318]) (rest := []) ⟨hx, hb, hml, hown, hts⟩ (kJ4_append_S l E f_318 n_318 n b1_311 m1_311 r_318 80 (([] : List Int32) ++ kt 23) W hn_318 hb1_311_318 (by (try simp only [List.length_append, List.length_nil, List.length_cons, pT_len, ktl_0, ktl_1, ktl_2, ktl_3, ktl_4, ktl_5, ktl_6, ktl_7, ktl_8, ktl_9, ktl_10, ktl_11, ktl_12, ktl_13, ktl_14, ktl_15, ktl_16, ktl_17, ktl_18, ktl_19, ktl_20, ktl_21, ktl_22, ktl_23, ktl_24, ktl_25, ktl_26, ktl_27, ktl_28, ktl_29, ktl_30, ktl_31, ktl_32, ktl_33, ktl_34, ktl_35, ktl_36, ktl_37, ktl_38, ktl_39, ktl_40, ktl_41, ktl_42, ktl_43, ktl_44, ktl_45, ktl_46, ktl_47, ktl_48, ktl_49]); omega) (by omega) (by omega) (by first | assumption | decide) (by repeat (first | exact okb_nil | assumption | exact kt_okb (by omega) | exact okb_pT (by omega) | exact dg_ok _ (by omega) | exact okb_one (by omega) | apply okb_app)) (by repeat (first | exact okb_nil | assumption | exact kt_okb (by omega) | exact okb_pT (by omega) | exact dg_ok _ (by omega) | exact okb_one (by omega) | apply okb_app)) eT_318 (fun rb h9 => by have := ef_318 rb h9; omega)) (cwV 1 hts gX13_text_J4_append_15ec4 rfl rfl rfl (by decide +kernel) ⟨(by show 5 + 1 ≤ x9 + 30; omega), (by show 8 + (2 + 11) + 300 ≤ y9 + 2000; omega)⟩) (q_pV hA hW hS (ci := 1) rfl hn_318) rfl rfl hl.1 rfl (lv_room (Nat.le_of_ble_eq_true rfl)) dX13_text_321 ⟨(by show _ ≤ z9 + 180; omega), (by show _ ≤ u9 + 9000; omega)⟩) hS (fun r_321 f_321 n_321 H locs hp hW hS => ?_)
  obtain ⟨b1_321, m1_321, rfl, e0_321, e1_321, el_321, em4_321, eb_321, en_321, hfr_321⟩ := hp
  have l_e0_321 := hW.lt e0_321
  have l_e1_321 := hW.lt e1_321
  have ha_321 : f_321 a = some (cLA 6 (nI i) (some y) sg on ot bl el) := (hfr_321 _ (by omega) (by omega) (by omega)).trans ha_318
  have hy_321 : f_321 y = some (cNode so1 k1 x1 y1) := (hfr_321 _ (by omega) (by omega) (by omega)).trans hy_318
  refine va_ldcS (own := "HighRecipesLaw$Act") hx hb hown (q_ldk hA (i := 12) (by decide)) dX13_text_324 ?_
  refine q_cq (va_runV (As := [.ref (E.2.2.2 (200 + 12))]) (rest := []) ⟨hx, hb, hml, hown, hts⟩ (kJ4_append_k l E f_321 n_321 n b1_321 m1_321 12 80 ((([] : List Int32) ++ kt 23) ++ W) e0_321 e1_321 (by (try simp only [List.length_append, List.length_nil, List.length_cons, pT_len, ktl_0, ktl_1, ktl_2, ktl_3, ktl_4, ktl_5, ktl_6, ktl_7, ktl_8, ktl_9, ktl_10, ktl_11, ktl_12, ktl_13, ktl_14, ktl_15, ktl_16, ktl_17, ktl_18, ktl_19, ktl_20, ktl_21, ktl_22, ktl_23, ktl_24, ktl_25, ktl_26, ktl_27, ktl_28, ktl_29, ktl_30, ktl_31, ktl_32, ktl_33, ktl_34, ktl_35, ktl_36, ktl_37, ktl_38, ktl_39, ktl_40, ktl_41, ktl_42, ktl_43, ktl_44, ktl_45, ktl_46, ktl_47, ktl_48, ktl_49]); omega) (by omega) (by omega) (by first | assumption | decide) (by repeat (first | exact okb_nil | assumption | exact kt_okb (by omega) | exact okb_pT (by omega) | exact dg_ok _ (by omega) | exact okb_one (by omega) | apply okb_app)) (by omega)) (cwV 1 hts gX13_text_J4_append_15ec4 rfl rfl rfl (by decide +kernel) ⟨(by show 5 + 1 ≤ x9 + 30; omega), (by show 8 + (2 + 11) + 300 ≤ y9 + 2000; omega)⟩) (q_pV hA hW hS (ci := 1) rfl e0_321) rfl rfl hl.1 rfl (lv_room (Nat.le_of_ble_eq_true rfl)) dX13_text_326 ⟨(by show _ ≤ z9 + 180; omega), (by show _ ≤ u9 + 9000; omega)⟩) hS (fun r_326 f_326 n_326 H locs hp hW hS => ?_)
  obtain ⟨b1_326, m1_326, rfl, e0_326, e1_326, el_326, em4_326, eb_326, en_326, hfr_326⟩ := hp
  have l_e0_326 := hW.lt e0_326
  have l_e1_326 := hW.lt e1_326
  have ha_326 : f_326 a = some (cLA 6 (nI i) (some y) sg on ot bl el) := (hfr_326 _ (by omega) (by omega) (by omega)).trans ha_321
  have hy_326 : f_326 y = some (cNode so1 k1 x1 y1) := (hfr_326 _ (by omega) (by omega) (by omega)).trans hy_321
  refine q_cq (va_runV (As := []) (rest := []) ⟨hx, hb, hml, hown, hts⟩ (kJ4_toString_0e30d l E f_326 n_326 n b1_326 m1_326 80 (((([] : List Int32) ++ kt 23) ++ W) ++ kt 12) e0_326 e1_326 (by assumption) (by omega) (by (try simp only [List.length_append, List.length_nil, List.length_cons, pT_len, ktl_0, ktl_1, ktl_2, ktl_3, ktl_4, ktl_5, ktl_6, ktl_7, ktl_8, ktl_9, ktl_10, ktl_11, ktl_12, ktl_13, ktl_14, ktl_15, ktl_16, ktl_17, ktl_18, ktl_19, ktl_20, ktl_21, ktl_22, ktl_23, ktl_24, ktl_25, ktl_26, ktl_27, ktl_28, ktl_29, ktl_30, ktl_31, ktl_32, ktl_33, ktl_34, ktl_35, ktl_36, ktl_37, ktl_38, ktl_39, ktl_40, ktl_41, ktl_42, ktl_43, ktl_44, ktl_45, ktl_46, ktl_47, ktl_48, ktl_49]); omega) (by omega) (by repeat (first | exact okb_nil | assumption | exact kt_okb (by omega) | exact okb_pT (by omega) | exact dg_ok _ (by omega) | exact okb_one (by omega) | apply okb_app))) (cwV 0 hts gX13_text_J4_toString_0e30d rfl rfl rfl (by decide +kernel) ⟨(by show 5 + 1 ≤ x9 + 30; omega), (by show 8 + (1 + 11) + 131 ≤ y9 + 2000; omega)⟩) (q_pV hA hW hS (ci := 1) rfl e0_326) rfl rfl hl.1 rfl (lv_room (Nat.le_of_ble_eq_true rfl)) dX13_text_329 ⟨(by show _ ≤ z9 + 180; omega), (by show _ ≤ u9 + 9000; omega)⟩) hS (fun r_329 f_329 n_329 H locs hp hW hS => ?_)
  obtain ⟨rfl, e0_329, e1_329, en_329, hfr_329⟩ := hp
  have l_e0_329 := hW.lt e0_329
  have l_e1_329 := hW.lt e1_329
  have ha_329 : f_329 a = some (cLA 6 (nI i) (some y) sg on ot bl el) := (hfr_329 _ (by omega)).trans ha_326
  have hy_329 : f_329 y = some (cNode so1 k1 x1 y1) := (hfr_329 _ (by omega)).trans hy_326
  have hn_329 : f_329 n = some (cSB b1_326 (nI (((([] : List Int32) ++ kt 23) ++ W) ++ kt 12).length)) := (hfr_329 _ (by omega)).trans e0_326
  have hb1_326_329 : f_329 b1_326 = some (aB E m1_326 (tx (((([] : List Int32) ++ kt 23) ++ W) ++ kt 12))) := (hfr_329 _ (by omega)).trans e1_326
  exact q_aret (v := some n_326) hx hb hr (Or.inl ⟨_, rfl⟩) hlocks hW hS ⟨n_326, rfl, e0_329, e1_329, (by omega), (by omega), (fun q g0 => ((hfr_329 _ (by omega)).trans ((hfr_326 _ (by omega) (by omega) (by omega)).trans ((hfr_321 _ (by omega) (by omega) (by omega)).trans ((hfr_318 _ (by omega)).trans ((hfr_311 _ (by omega) (by omega) (by omega)).trans ((hfr_306 _ (by omega) (by omega)).trans (q_ne (by omega) rfl))))))))⟩ (by show _ ≤ z9 + 180; omega) (by show _ ≤ u9 + 9000; omega) dX13_text_332

set_option maxHeartbeats 4000000 in
set_option maxRecDepth 100000 in
theorem kX13_text_k7 (l : Launch) (E : q_E) (f : q_H) (n : Nat) (x9 y9 z9 u9 a pn : Nat) (P : Nat → Prop) (i : Nat) (sg on ot bl el : Option Nat) (h0 : f a = some (cLA 7 (nI i) none sg on ot bl el)) (hpn : pn ≤ 8) (hP : ∀ q, P q → q < n) (hi : i < 26) : Met l yX13_text wsX13_text ({ frames := x9 + 30, cells := z9 + 180, slots := u9 + 9000, locals := y9 + 2000 }) (q_P E [.ref a] f n) (q_Qq E (fun r0 f1 n1 => ∃ (r : Nat), some r = r0 ∧ f1 r = some (cStr (r + 1)) ∧ f1 (r + 1) = some (aB E ((kt 24 ++ [nI (97 + i)] ++ kt 12).length) (tx (kt 24 ++ [nI (97 + i)] ++ kt 12))) ∧ n ≤ r ∧ n ≤ n1 ∧ ∀ z9, z9 < n → f1 z9 = f z9)) (z9 + 180) (u9 + 9000) (q_ge E) := by
  refine Met.ofW (cc := cX13_text) (maxL := 3) (ret := (some (.object "java/lang/String"))) (by decide) rfl ?_
  intro p0_ e0_ s0_ m0_ args0_ below0_ meth0_ c0_ s1_ B hml hv
  obtain ⟨rfl, hA, hW⟩ := hv
  have hx := B.exec
  have hb := B.bytes
  have hr := B.returns
  have hts := atoms_spec (ws := wsX13_text) B.pre
  have hown : s0_.vm.findClass RX13 = some m0_.cls := findClass_of_methodNamed B.named
  have hlocks := B.notSynchronized
  have hS : va_S (q_ge E) s0_.heap s0_.heap [] := va_S.rf
  have iJ4 : ∀ w ∈ wsJ40, w ∈ wsX13_text := by decide +kernel
  have iX13 : ∀ w ∈ wsX130, w ∈ wsX13_text := by decide +kernel
  have hl := lv_entry ([.ref a]) (n := 3) (Nat.le_of_ble_eq_true rfl)
  rw [lg_entry_eq]
  generalize (lg_sl ([.ref a]) ++ List.replicate (3 - (lg_sl ([.ref a])).length) Slot.unset).toArray = ls at hl ⊢
  have hl : lv_has ls 3 [(0, .ref a)] := hl
  have l_h0 := hW.lt h0
  refine lv_aload_n hx hb dX13_text_0 rfl (lv_at hl 0 rfl) ?_
  refine q_get hx hb hts hown hA hW iX13 h0 rfl 0 (by decide) (hts (.fieldLink RX13 37 "HighRecipesLaw$Act" "does" "I") (by decide +kernel)) (fun _ h9 => h9) (v := .int 7) rfl dX13_text_1 ?_
  refine lv_tableIn (x := 7) (off := 329) (tgt := 333) hx hb dX13_text_4 (by decide) (by decide) (by decide) (by decide) ?_
  refine q_new (ci := 1) hx hb hts hown hA hW hS iJ4 tyJ4 tyJ4_ok (hts (.classLink RX13 61 RJ4) (by decide +kernel)) (hts (.instantiable RJ4 4) (by decide +kernel)) (hts (.initialized RJ4) (by decide +kernel)) rfl (fs := [.null, .int 0, .int 0, .int 0]) (by decide) (by show _ ≤ z9 + 180; omega) (by show _ ≤ u9 + 9000; omega) dX13_text_333 (fun H hW hS => ?_)
  have hW : q_W E (va_up f n (some (rSB none 0 0 0))) (n + 1) H := hW
  refine lv_dup hx hb dX13_text_336 rfl ?_
  refine q_cv (va_runI (As := []) (rest := [.ref n]) ⟨hx, hb, hml, hown, hts⟩ (kJ4_init_da8c8 l E (va_up f n (some (rSB none 0 0 0))) (n + 1) n q_eq) (cwI 0 hts gX13_text_J4_init_da8c8 rfl rfl rfl (hts (.initialized RJ4) (by decide +kernel)) (hts (.methodLink RX13 81 yJ4_init_da8c8) (by decide +kernel)) (hts (.instanceMethod yJ4_init_da8c8) (by decide +kernel)) rfl (by decide +kernel) ⟨(by show 2 + 1 ≤ x9 + 30; omega), (by show 8 + (1 + 11) + 41 ≤ y9 + 2000; omega)⟩) (q_pS hA hW hS) rfl rfl hl.1 rfl (lv_room (Nat.le_of_ble_eq_true rfl)) dX13_text_337 ⟨(by show _ ≤ z9 + 180; omega), (by show _ ≤ u9 + 9000; omega)⟩) hS (fun f_337 n_337 H locs hp hW hS => ?_)
  obtain ⟨e0_337, e1_337, en_337, hfr_337⟩ := hp
  have l_e0_337 := hW.lt e0_337
  have l_e1_337 := hW.lt e1_337
  have ha_337 : f_337 a = some (cLA 7 (nI i) none sg on ot bl el) := (hfr_337 _ (by omega) (by omega)).trans (q_ne (by omega) h0)
  refine va_ldcS (own := "HighRecipesLaw$Act") hx hb hown (q_ldk hA (i := 24) (by decide)) dX13_text_340 ?_
  refine q_cq (va_runV (As := [.ref (E.2.2.2 (200 + 24))]) (rest := []) ⟨hx, hb, hml, hown, hts⟩ (kJ4_append_k l E f_337 n_337 n (n + 1) 16 24 80 ([] : List Int32) e0_337 e1_337 (by (try simp only [List.length_append, List.length_nil, List.length_cons, pT_len, ktl_0, ktl_1, ktl_2, ktl_3, ktl_4, ktl_5, ktl_6, ktl_7, ktl_8, ktl_9, ktl_10, ktl_11, ktl_12, ktl_13, ktl_14, ktl_15, ktl_16, ktl_17, ktl_18, ktl_19, ktl_20, ktl_21, ktl_22, ktl_23, ktl_24, ktl_25, ktl_26, ktl_27, ktl_28, ktl_29, ktl_30, ktl_31, ktl_32, ktl_33, ktl_34, ktl_35, ktl_36, ktl_37, ktl_38, ktl_39, ktl_40, ktl_41, ktl_42, ktl_43, ktl_44, ktl_45, ktl_46, ktl_47, ktl_48, ktl_49]); omega) (by omega) (by omega) (by first | assumption | decide) (by repeat (first | exact okb_nil | assumption | exact kt_okb (by omega) | exact okb_pT (by omega) | exact dg_ok _ (by omega) | exact okb_one (by omega) | apply okb_app)) (by omega)) (cwV 1 hts gX13_text_J4_append_15ec4 rfl rfl rfl (by decide +kernel) ⟨(by show 5 + 1 ≤ x9 + 30; omega), (by show 8 + (2 + 11) + 300 ≤ y9 + 2000; omega)⟩) (q_pV hA hW hS (ci := 1) rfl e0_337) rfl rfl hl.1 rfl (lv_room (Nat.le_of_ble_eq_true rfl)) dX13_text_342 ⟨(by show _ ≤ z9 + 180; omega), (by show _ ≤ u9 + 9000; omega)⟩) hS (fun r_342 f_342 n_342 H locs hp hW hS => ?_)
  obtain ⟨b1_342, m1_342, rfl, e0_342, e1_342, el_342, em4_342, eb_342, en_342, hfr_342⟩ := hp
  have l_e0_342 := hW.lt e0_342
  have l_e1_342 := hW.lt e1_342
  have ha_342 : f_342 a = some (cLA 7 (nI i) none sg on ot bl el) := (hfr_342 _ (by omega) (by omega) (by omega)).trans ha_337
  refine lv_bipush (v := 97) hx hb dX13_text_345 (by decide) ?_
  refine lv_aload_n hx hb dX13_text_347 rfl (lv_at hl 0 rfl) ?_
  refine q_get hx hb hts hown hA hW iX13 ha_342 rfl 1 (by decide) (hts (.fieldLink RX13 41 "HighRecipesLaw$Act" "whom" "I") (by decide +kernel)) (fun _ h9 => h9) (v := .int (nI i)) rfl dX13_text_348 ?_
  refine lv_iadd hx hb dX13_text_351 ?_
  refine lv_i2c (v := nI (97 + i)) hx hb dX13_text_352 (ch97 i hi) ?_
  refine q_cq (va_runV (As := [.int (nI (97 + i))]) (rest := []) ⟨hx, hb, hml, hown, hts⟩ (kJ4_append_cf468 l E f_342 n_342 n b1_342 m1_342 (97 + i) 80 (([] : List Int32) ++ kt 24) e0_342 e1_342 (by (try simp only [List.length_append, List.length_nil, List.length_cons, pT_len, ktl_0, ktl_1, ktl_2, ktl_3, ktl_4, ktl_5, ktl_6, ktl_7, ktl_8, ktl_9, ktl_10, ktl_11, ktl_12, ktl_13, ktl_14, ktl_15, ktl_16, ktl_17, ktl_18, ktl_19, ktl_20, ktl_21, ktl_22, ktl_23, ktl_24, ktl_25, ktl_26, ktl_27, ktl_28, ktl_29, ktl_30, ktl_31, ktl_32, ktl_33, ktl_34, ktl_35, ktl_36, ktl_37, ktl_38, ktl_39, ktl_40, ktl_41, ktl_42, ktl_43, ktl_44, ktl_45, ktl_46, ktl_47, ktl_48, ktl_49]); omega) (by omega) (by omega) (by first | assumption | decide) (by repeat (first | exact okb_nil | assumption | exact kt_okb (by omega) | exact okb_pT (by omega) | exact dg_ok _ (by omega) | exact okb_one (by omega) | apply okb_app)) (by omega)) (cwV 1 hts gX13_text_J4_append_cf468 rfl rfl rfl (by decide +kernel) ⟨(by show 5 + 1 ≤ x9 + 30; omega), (by show 8 + (2 + 11) + 112 ≤ y9 + 2000; omega)⟩) (q_pV hA hW hS (ci := 1) rfl e0_342) rfl rfl hl.1 rfl (lv_room (Nat.le_of_ble_eq_true rfl)) dX13_text_353 ⟨(by show _ ≤ z9 + 180; omega), (by show _ ≤ u9 + 9000; omega)⟩) hS (fun r_353 f_353 n_353 H locs hp hW hS => ?_)
  obtain ⟨b1_353, m1_353, rfl, e0_353, e1_353, el_353, em4_353, eb_353, en_353, hfr_353⟩ := hp
  have l_e0_353 := hW.lt e0_353
  have l_e1_353 := hW.lt e1_353
  have ha_353 : f_353 a = some (cLA 7 (nI i) none sg on ot bl el) := (hfr_353 _ (by omega) (by omega) (by omega)).trans ha_342
  refine va_ldcS (own := "HighRecipesLaw$Act") hx hb hown (q_ldk hA (i := 12) (by decide)) dX13_text_356 ?_
  refine q_cq (va_runV (As := [.ref (E.2.2.2 (200 + 12))]) (rest := []) ⟨hx, hb, hml, hown, hts⟩ (kJ4_append_k l E f_353 n_353 n b1_353 m1_353 12 80 ((([] : List Int32) ++ kt 24) ++ [nI (97 + i)]) e0_353 e1_353 (by (try simp only [List.length_append, List.length_nil, List.length_cons, pT_len, ktl_0, ktl_1, ktl_2, ktl_3, ktl_4, ktl_5, ktl_6, ktl_7, ktl_8, ktl_9, ktl_10, ktl_11, ktl_12, ktl_13, ktl_14, ktl_15, ktl_16, ktl_17, ktl_18, ktl_19, ktl_20, ktl_21, ktl_22, ktl_23, ktl_24, ktl_25, ktl_26, ktl_27, ktl_28, ktl_29, ktl_30, ktl_31, ktl_32, ktl_33, ktl_34, ktl_35, ktl_36, ktl_37, ktl_38, ktl_39, ktl_40, ktl_41, ktl_42, ktl_43, ktl_44, ktl_45, ktl_46, ktl_47, ktl_48, ktl_49]); omega) (by omega) (by omega) (by first | assumption | decide) (by repeat (first | exact okb_nil | assumption | exact kt_okb (by omega) | exact okb_pT (by omega) | exact dg_ok _ (by omega) | exact okb_one (by omega) | apply okb_app)) (by omega)) (cwV 1 hts gX13_text_J4_append_15ec4 rfl rfl rfl (by decide +kernel) ⟨(by show 5 + 1 ≤ x9 + 30; omega), (by show 8 + (2 + 11) + 300 ≤ y9 + 2000; omega)⟩) (q_pV hA hW hS (ci := 1) rfl e0_353) rfl rfl hl.1 rfl (lv_room (Nat.le_of_ble_eq_true rfl)) dX13_text_358 ⟨(by show _ ≤ z9 + 180; omega), (by show _ ≤ u9 + 9000; omega)⟩) hS (fun r_358 f_358 n_358 H locs hp hW hS => ?_)
  obtain ⟨b1_358, m1_358, rfl, e0_358, e1_358, el_358, em4_358, eb_358, en_358, hfr_358⟩ := hp
  have l_e0_358 := hW.lt e0_358
  have l_e1_358 := hW.lt e1_358
  have ha_358 : f_358 a = some (cLA 7 (nI i) none sg on ot bl el) := (hfr_358 _ (by omega) (by omega) (by omega)).trans ha_353
  refine q_cq (va_runV (As := []) (rest := []) ⟨hx, hb, hml, hown, hts⟩ (kJ4_toString_0e30d l E f_358 n_358 n b1_358 m1_358 80 (((([] : List Int32) ++ kt 24) ++ [nI (97 + i)]) ++ kt 12) e0_358 e1_358 (by assumption) (by omega) (by (try simp only [List.length_append, List.length_nil, List.length_cons, pT_len, ktl_0, ktl_1, ktl_2, ktl_3, ktl_4, ktl_5, ktl_6, ktl_7, ktl_8, ktl_9, ktl_10, ktl_11, ktl_12, ktl_13, ktl_14, ktl_15, ktl_16, ktl_17, ktl_18, ktl_19, ktl_20, ktl_21, ktl_22, ktl_23, ktl_24, ktl_25, ktl_26, ktl_27, ktl_28, ktl_29, ktl_30, ktl_31, ktl_32, ktl_33, ktl_34, ktl_35, ktl_36, ktl_37, ktl_38, ktl_39, ktl_40, ktl_41, ktl_42, ktl_43, ktl_44, ktl_45, ktl_46, ktl_47, ktl_48, ktl_49]); omega) (by omega) (by repeat (first | exact okb_nil | assumption | exact kt_okb (by omega) | exact okb_pT (by omega) | exact dg_ok _ (by omega) | exact okb_one (by omega) | apply okb_app))) (cwV 0 hts gX13_text_J4_toString_0e30d rfl rfl rfl (by decide +kernel) ⟨(by show 5 + 1 ≤ x9 + 30; omega), (by show 8 + (1 + 11) + 131 ≤ y9 + 2000; omega)⟩) (q_pV hA hW hS (ci := 1) rfl e0_358) rfl rfl hl.1 rfl (lv_room (Nat.le_of_ble_eq_true rfl)) dX13_text_361 ⟨(by show _ ≤ z9 + 180; omega), (by show _ ≤ u9 + 9000; omega)⟩) hS (fun r_361 f_361 n_361 H locs hp hW hS => ?_)
  obtain ⟨rfl, e0_361, e1_361, en_361, hfr_361⟩ := hp
  have l_e0_361 := hW.lt e0_361
  have l_e1_361 := hW.lt e1_361
  have ha_361 : f_361 a = some (cLA 7 (nI i) none sg on ot bl el) := (hfr_361 _ (by omega)).trans ha_358
  have hn_361 : f_361 n = some (cSB b1_358 (nI (((([] : List Int32) ++ kt 24) ++ [nI (97 + i)]) ++ kt 12).length)) := (hfr_361 _ (by omega)).trans e0_358
  have hb1_358_361 : f_361 b1_358 = some (aB E m1_358 (tx (((([] : List Int32) ++ kt 24) ++ [nI (97 + i)]) ++ kt 12))) := (hfr_361 _ (by omega)).trans e1_358
  exact q_aret (v := some n_358) hx hb hr (Or.inl ⟨_, rfl⟩) hlocks hW hS ⟨n_358, rfl, e0_361, e1_361, (by omega), (by omega), (fun q g0 => ((hfr_361 _ (by omega)).trans ((hfr_358 _ (by omega) (by omega) (by omega)).trans ((hfr_353 _ (by omega) (by omega) (by omega)).trans ((hfr_342 _ (by omega) (by omega) (by omega)).trans ((hfr_337 _ (by omega) (by omega)).trans (q_ne (by omega) rfl)))))))⟩ (by show _ ≤ z9 + 180; omega) (by show _ ≤ u9 + 9000; omega) dX13_text_364

