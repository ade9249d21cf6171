set_option maxHeartbeats 4000000 in
set_option maxRecDepth 100000 in
theorem kX13_text_9_1_2 (l : Launch) (E : q_E) (f : q_H) (n : Nat) (a pn R i b sg on ot : Nat) (RS : Nat → q_S) (P : Nat → Prop) (L : List LT) (s0 a0 c0 : Nat) (D0 E0 : q_D) (W0 Y0 : List Int32) (s1 a1 c1 : Nat) (D1 E1 : q_D) (W1 Y1 : List Int32) (gs : Nat → Int32) (go gt : Nat → Option Nat) (h0 : f a = some (cLA 9 (nI i) none (some sg) (some on) (some ot) (some b) none)) (h1 : f sg = some (aI E 2 gs)) (h2 : f on = some (aQ E 7 2 go)) (h3 : f ot = some (aQ E 7 2 gt)) (hpn : pn ≤ 8) (hP : ∀ q, P q → q < n) (hR : R ≤ 6) (hs0 : s0 < 3) (hgs0 : gs 0 = nI s0) (hgo0 : go 0 = some a0) (hgt0 : gt 0 = some c0) (hM0 : NODE pn P f 0 a0 D0 W0) (hQ0 : NODE pn P f 0 c0 E0 Y0) (hs1 : s1 < 3) (hgs1 : gs 1 = nI s1) (hgo1 : go 1 = some a1) (hgt1 : gt 1 = some c1) (hM1 : NODE pn P f 0 a1 D1 W1) (hQ1 : NODE pn P f 0 c1 E1 Y1) (hL : LB P E f (LACT E pn R RS P f 1) b L) (hc : bC L ≤ 14) : Met l yX13_text wsX13_text ({ frames := 52, cells := 220 + 221 * bC L, slots := 66000 + 70000 * bC L, locals := 2900 }) (q_P E [.ref a] f n) (q_Qq E (fun r0 f1 n1 => ∃ (r : Nat), some r = r0 ∧ f1 r = some (cStr (r + 1)) ∧ f1 (r + 1) = some (aB E ((kt 26 ++ W0 ++ kt (47 + s0) ++ Y0 ++ kt 27 ++ W1 ++ kt (47 + s1) ++ Y1 ++ bT L).length) (tx (kt 26 ++ W0 ++ kt (47 + s0) ++ Y0 ++ kt 27 ++ W1 ++ kt (47 + s1) ++ Y1 ++ bT L))) ∧ n ≤ r ∧ n ≤ n1 ∧ ∀ z9, z9 < n → f1 z9 = f z9)) (220 + 221 * bC L) (66000 + 70000 * bC L) (q_ge E) := by
  refine Met.ofW (cc := cX13_text) (maxL := 3) (ret := (some (.object "java/lang/String"))) (by decide) rfl ?_
  intro p0_ e0_ s0_ m0_ args0_ below0_ meth0_ c0_ s1_ B0_ hml hv
  obtain ⟨rfl, hA, hW⟩ := hv
  have hx := B0_.exec
  have hb := B0_.bytes
  have hr := B0_.returns
  have hts := atoms_spec (ws := wsX13_text) B0_.pre
  have hown : s0_.vm.findClass RX13 = some m0_.cls := findClass_of_methodNamed B0_.named
  have hlocks := B0_.notSynchronized
  have hS : va_S (q_ge E) s0_.heap s0_.heap [] := va_S.rf
  have iJ4 : ∀ w ∈ wsJ40, w ∈ wsX13_text := by decide +kernel
  have iX13 : ∀ w ∈ wsX130, w ∈ wsX13_text := by decide +kernel
  have hl := lv_entry ([.ref a]) (n := 3) (Nat.le_of_ble_eq_true rfl)
  rw [lg_entry_eq]
  generalize (lg_sl ([.ref a]) ++ List.replicate (3 - (lg_sl ([.ref a])).length) Slot.unset).toArray = ls at hl ⊢
  have hl : lv_has ls 3 [(0, .ref a)] := hl
  have l_h0 := hW.lt h0
  have l_h1 := hW.lt h1
  have l_h2 := hW.lt h2
  have l_h3 := hW.lt h3
  have lM0 := hM0.len0
  have lQ0 := hQ0.len0
  have oM0 := hM0.okb hpn
  have oQ0 := hQ0.okb hpn
  obtain ⟨-, so0, ka0, xa0, ya0, hca0⟩ := hM0.cell
  obtain ⟨-, sp0, kc0, xc0, yc0, hcc0⟩ := hQ0.cell
  have l_a0 := hW.lt hca0
  have l_c0 := hW.lt hcc0
  have lk0 : (kt (47 + s0)).length = 1 := kt_len47 s0 hs0
  have lM1 := hM1.len0
  have lQ1 := hQ1.len0
  have oM1 := hM1.okb hpn
  have oQ1 := hQ1.okb hpn
  obtain ⟨-, so1, ka1, xa1, ya1, hca1⟩ := hM1.cell
  obtain ⟨-, sp1, kc1, xc1, yc1, hcc1⟩ := hQ1.cell
  have l_a1 := hW.lt hca1
  have l_c1 := hW.lt hcc1
  have lk1 : (kt (47 + s1)).length = 1 := kt_len47 s1 hs1
  have hnL := bV_len (LACT.len hpn hR 1) L hL.2.2
  have lL := hnL.1
  have oL := bT_okb hnL.2
  have lTL := bT_len L
  have K479 : ∀ (F : q_H) (N bb mm : Nat) (V9 : List Int32) (haF : F a = some (cLA 9 (nI i) none (some sg) (some on) (some ot) (some b) none)) (hsF : F n = some (cSB bb (nI V9.length))) (hbF : F bb = some (aB E mm (tx V9))) (hlm : V9.length ≤ mm) (hmm : mm ≤ 4000) (hlV : V9.length ≤ 200) (hoV : okb V9) (hnb : n ≤ bb) (hnN : n < N) (hbN : bb < N) (hVe : V9 ++ bT L = kt 26 ++ W0 ++ kt (47 + s0) ++ Y0 ++ kt 27 ++ W1 ++ kt (47 + s1) ++ Y1 ++ bT L) (hfr_K479 : ∀ z9, z9 < n → F z9 = f z9) (H : Heap) (locs : List Loc) (ls : Array Slot), q_W E F N H → va_S (q_ge E) s0_.heap H locs → lv_has ls 3 [(0, .ref a), (1, .ref n)] → W p0_ l e0_ (headSpec wsX13_text ({ frames := 52, cells := 220 + 221 * bC L, slots := 66000 + 70000 * bC L, locals := 2900 })).room s0_ m0_ ([.ref a] : List Value).toArray below0_ meth0_ c0_ H locs 150 37220 (MQ below0_ (q_Qq E (fun r0 f1 n1 => ∃ (r : Nat), some r = r0 ∧ f1 r = some (cStr (r + 1)) ∧ f1 (r + 1) = some (aB E ((kt 26 ++ W0 ++ kt (47 + s0) ++ Y0 ++ kt 27 ++ W1 ++ kt (47 + s1) ++ Y1 ++ bT L).length) (tx (kt 26 ++ W0 ++ kt (47 + s0) ++ Y0 ++ kt 27 ++ W1 ++ kt (47 + s1) ++ Y1 ++ bT L))) ∧ n ≤ r ∧ n ≤ n1 ∧ ∀ z9, z9 < n → f1 z9 = f z9)) ([.ref a] : List Value).toArray s0_ (220 + 221 * bC L) (66000 + 70000 * bC L) (q_ge E)) (F0 m0_ 479 ls []) := by
    intro F N bb mm V9 haF hsF hbF hlm hmm hlV hoV hnb hnN hbN hVe hfr_K479 H locs ls hW hS hl
    refine lv_aload_n hx hb dX13_text_479 rfl (lv_at hl 1 rfl) ?_
    refine lv_aload_n hx hb dX13_text_480 rfl (lv_at hl 0 rfl) ?_
    refine q_get hx hb hts hown hA hW iX13 haF rfl 6 (by decide) (hts (.fieldLink RX13 22 "HighRecipesLaw$Act" "block" "[LHighRecipesLaw$Act;") (by decide +kernel)) (fun _ h9 => h9) (v := .ref b) rfl dX13_text_481 ?_
    refine q_cq (va_runS (As := [.ref b]) (rest := [.ref n]) ⟨hx, hb, hml, hown, hts⟩ (kX13_texts_1 l E F N b pn R RS P L hpn (fun q hq => by have := hP q hq; omega) hR (LB.to (fun q hq => have h8 := hP q hq; ⟨hq, ((hfr_K479 _ (by omega)).trans rfl)⟩) (fun x hx => LACT.to (fun q hq => have h8 := hP q hq; ⟨hq, ((hfr_K479 _ (by omega)).trans rfl)⟩) (Nat.le_refl _) (fun _ _ => rfl) 1 x hx) hL) (by omega)) (va_cwS 1 hts gX13_text_X13_texts rfl rfl rfl (by decide +kernel) ⟨(Nat.le_of_ble_eq_true rfl), (Nat.le_of_ble_eq_true rfl)⟩) (q_pS hA hW hS) rfl rfl hl.1 rfl (lv_room (Nat.le_of_ble_eq_true rfl)) dX13_text_484 ⟨(by show _ ≤ 220 + 221 * bC L; omega), (by show _ ≤ 66000 + 70000 * bC L; omega)⟩) hS (fun r_484 f_484 n_484 H locs hp hW hS => ?_)
    obtain ⟨r_484, rfl, e0_484, e1_484, er_484, en_484, hfr_484⟩ := hp
    have l_e0_484 := hW.lt e0_484
    have l_e1_484 := hW.lt e1_484
    have ha_484 : f_484 a = some (cLA 9 (nI i) none (some sg) (some on) (some ot) (some b) none) := (hfr_484 _ (by omega)).trans haF
    have hn_484 : f_484 n = some (cSB bb (nI V9.length)) := (hfr_484 _ (by omega)).trans hsF
    have hbb_484 : f_484 bb = some (aB E mm (tx V9)) := (hfr_484 _ (by omega)).trans hbF
    refine q_cq (va_runV (As := [.ref r_484]) (rest := []) ⟨hx, hb, hml, hown, hts⟩ (kJ4_append_15ec4 l E f_484 n_484 n bb mm r_484 (r_484 + 1) 2000 V9 (bT L) hn_484 hbb_484 e0_484 e1_484 (by (try simp only [List.length_append, List.length_nil, List.length_cons, pT_len, ktl_0, ktl_1, ktl_2, ktl_3, ktl_4, ktl_5, ktl_6, ktl_7, ktl_8, ktl_9, ktl_10, ktl_11, ktl_12, ktl_13, ktl_14, ktl_15, ktl_16, ktl_17, ktl_18, ktl_19, ktl_20, ktl_21, ktl_22, ktl_23, ktl_24, ktl_25, ktl_26, ktl_27, ktl_28, ktl_29, ktl_30, ktl_31, ktl_32, ktl_33, ktl_34, ktl_35, ktl_36, ktl_37, ktl_38, ktl_39, ktl_40, ktl_41, ktl_42, ktl_43, ktl_44, ktl_45, ktl_46, ktl_47, ktl_48, ktl_49]); omega) (by omega) (by omega) (by first | assumption | decide) (by repeat (first | exact okb_nil | assumption | exact kt_okb (by omega) | exact okb_pT (by omega) | exact dg_ok _ (by omega) | exact okb_one (by omega) | apply okb_app)) (by repeat (first | exact okb_nil | assumption | exact kt_okb (by omega) | exact okb_pT (by omega) | exact dg_ok _ (by omega) | exact okb_one (by omega) | apply okb_app)) (by omega)) (cwV 1 hts gX13_text_J4_append_15ec4 rfl rfl rfl (by decide +kernel) ⟨(Nat.le_of_ble_eq_true rfl), (Nat.le_of_ble_eq_true rfl)⟩) (q_pV hA hW hS (ci := 1) rfl hn_484) rfl rfl hl.1 rfl (lv_room (Nat.le_of_ble_eq_true rfl)) dX13_text_487 ⟨(by show _ ≤ 220 + 221 * bC L; omega), (by show _ ≤ 66000 + 70000 * bC L; omega)⟩) hS (fun r_487 f_487 n_487 H locs hp hW hS => ?_)
    obtain ⟨b1_487, m1_487, rfl, e0_487, e1_487, el_487, em4_487, eb_487, en_487, hfr_487⟩ := hp
    have l_e0_487 := hW.lt e0_487
    have l_e1_487 := hW.lt e1_487
    have ha_487 : f_487 a = some (cLA 9 (nI i) none (some sg) (some on) (some ot) (some b) none) := (hfr_487 _ (by omega) (by omega) (by omega)).trans ha_484
    refine lv_pop hx hb dX13_text_490 rfl ?_
    refine lv_aload_n hx hb dX13_text_491 rfl (lv_at hl 0 rfl) ?_
    refine q_get hx hb hts hown hA hW iX13 ha_487 rfl 7 (by decide) (hts (.fieldLink RX13 58 "HighRecipesLaw$Act" "other" "[LHighRecipesLaw$Act;") (by decide +kernel)) (fun _ h9 => h9) (v := .null) rfl dX13_text_492 ?_
    refine lv_ifnullN (tgt := 515) hx hb dX13_text_495 (by decide) ?_
    refine lv_aload_n hx hb dX13_text_515 rfl (lv_at hl 1 rfl) ?_
    refine q_cq (va_runV (As := []) (rest := []) ⟨hx, hb, hml, hown, hts⟩ (kJ4_toString_0e30d l E f_487 n_487 n b1_487 m1_487 2000 (V9 ++ (bT L)) e0_487 e1_487 (by assumption) (by omega) (by (try simp only [List.length_append, List.length_nil, List.length_cons, pT_len, ktl_0, ktl_1, ktl_2, ktl_3, ktl_4, ktl_5, ktl_6, ktl_7, ktl_8, ktl_9, ktl_10, ktl_11, ktl_12, ktl_13, ktl_14, ktl_15, ktl_16, ktl_17, ktl_18, ktl_19, ktl_20, ktl_21, ktl_22, ktl_23, ktl_24, ktl_25, ktl_26, ktl_27, ktl_28, ktl_29, ktl_30, ktl_31, ktl_32, ktl_33, ktl_34, ktl_35, ktl_36, ktl_37, ktl_38, ktl_39, ktl_40, ktl_41, ktl_42, ktl_43, ktl_44, ktl_45, ktl_46, ktl_47, ktl_48, ktl_49]); omega) (by omega) (by repeat (first | exact okb_nil | assumption | exact kt_okb (by omega) | exact okb_pT (by omega) | exact dg_ok _ (by omega) | exact okb_one (by omega) | apply okb_app))) (cwV 0 hts gX13_text_J4_toString_0e30d rfl rfl rfl (by decide +kernel) ⟨(Nat.le_of_ble_eq_true rfl), (Nat.le_of_ble_eq_true rfl)⟩) (q_pV hA hW hS (ci := 1) rfl e0_487) rfl rfl hl.1 rfl (lv_room (Nat.le_of_ble_eq_true rfl)) dX13_text_516 ⟨(by show _ ≤ 220 + 221 * bC L; omega), (by show _ ≤ 66000 + 70000 * bC L; omega)⟩) hS (fun r_516 f_516 n_516 H locs hp hW hS => ?_)
    obtain ⟨rfl, e0_516, e1_516, en_516, hfr_516⟩ := hp
    have l_e0_516 := hW.lt e0_516
    have l_e1_516 := hW.lt e1_516
    have ha_516 : f_516 a = some (cLA 9 (nI i) none (some sg) (some on) (some ot) (some b) none) := (hfr_516 _ (by omega)).trans ha_487
    have hn_516 : f_516 n = some (cSB b1_487 (nI (V9 ++ (bT L)).length)) := (hfr_516 _ (by omega)).trans e0_487
    have hb1_487_516 : f_516 b1_487 = some (aB E m1_487 (tx (V9 ++ (bT L)))) := (hfr_516 _ (by omega)).trans e1_487
    exact q_aret (v := some n_487) hx hb hr (Or.inl ⟨_, rfl⟩) hlocks hW hS ⟨n_487, rfl, e0_516, (by rw [← hVe]; exact e1_516), (by omega), (by omega), (fun q g0 => ((hfr_516 _ (by omega)).trans ((hfr_487 _ (by omega) (by omega) (by omega)).trans ((hfr_484 _ (by omega)).trans ((hfr_K479 _ (by omega)).trans rfl)))))⟩ (by show _ ≤ 220 + 221 * bC L; omega) (by show _ ≤ 66000 + 70000 * bC L; omega) dX13_text_519
  refine lv_aload_n hx hb dX13_text_0 rfl (lv_at hl 0 rfl) ?_
  refine q_get hx hb hts hown hA hW iX13 h0 rfl 0 (by decide) (hts (.fieldLink RX13 37 "HighRecipesLaw$Act" "does" "I") (by decide +kernel)) (fun _ h9 => h9) (v := .int 9) rfl dX13_text_1 ?_
  refine lv_tableOut (x := 9) (tgt := 401) hx hb dX13_text_4 (by decide) (by decide) ?_
  refine q_new (ci := 1) hx hb hts hown hA hW hS iJ4 tyJ4 tyJ4_ok (hts (.classLink RX13 61 RJ4) (by decide +kernel)) (hts (.instantiable RJ4 4) (by decide +kernel)) (hts (.initialized RJ4) (by decide +kernel)) rfl (fs := [.null, .int 0, .int 0, .int 0]) (by decide) (by show _ ≤ 220 + 221 * bC L; omega) (by show _ ≤ 66000 + 70000 * bC L; omega) dX13_text_401 (fun H hW hS => ?_)
  have hW : q_W E (va_up f n (some (rSB none 0 0 0))) (n + 1) H := hW
  refine lv_dup hx hb dX13_text_404 rfl ?_
  refine q_cv (va_runI (As := []) (rest := [.ref n]) ⟨hx, hb, hml, hown, hts⟩ (kJ4_init_da8c8 l E (va_up f n (some (rSB none 0 0 0))) (n + 1) n q_eq) (cwI 0 hts gX13_text_J4_init_da8c8 rfl rfl rfl (hts (.initialized RJ4) (by decide +kernel)) (hts (.methodLink RX13 81 yJ4_init_da8c8) (by decide +kernel)) (hts (.instanceMethod yJ4_init_da8c8) (by decide +kernel)) rfl (by decide +kernel) ⟨(Nat.le_of_ble_eq_true rfl), (Nat.le_of_ble_eq_true rfl)⟩) (q_pS hA hW hS) rfl rfl hl.1 rfl (lv_room (Nat.le_of_ble_eq_true rfl)) dX13_text_405 ⟨(by show _ ≤ 220 + 221 * bC L; omega), (by show _ ≤ 66000 + 70000 * bC L; omega)⟩) hS (fun f_405 n_405 H locs hp hW hS => ?_)
  obtain ⟨e0_405, e1_405, en_405, hfr_405⟩ := hp
  have l_e0_405 := hW.lt e0_405
  have l_e1_405 := hW.lt e1_405
  have ha_405 : f_405 a = some (cLA 9 (nI i) none (some sg) (some on) (some ot) (some b) none) := (hfr_405 _ (by omega) (by omega)).trans (q_ne (by omega) h0)
  have hsg_405 : f_405 sg = some (aI E 2 gs) := (hfr_405 _ (by omega) (by omega)).trans (q_ne (by omega) h1)
  have hon_405 : f_405 on = some (aQ E 7 2 go) := (hfr_405 _ (by omega) (by omega)).trans (q_ne (by omega) h2)
  have hot_405 : f_405 ot = some (aQ E 7 2 gt) := (hfr_405 _ (by omega) (by omega)).trans (q_ne (by omega) h3)
  have ha0_405 : f_405 a0 = some (cNode so0 ka0 xa0 ya0) := (hfr_405 _ (by omega) (by omega)).trans (q_ne (by omega) hca0)
  have hc0_405 : f_405 c0 = some (cNode sp0 kc0 xc0 yc0) := (hfr_405 _ (by omega) (by omega)).trans (q_ne (by omega) hcc0)
  have ha1_405 : f_405 a1 = some (cNode so1 ka1 xa1 ya1) := (hfr_405 _ (by omega) (by omega)).trans (q_ne (by omega) hca1)
  have hc1_405 : f_405 c1 = some (cNode sp1 kc1 xc1 yc1) := (hfr_405 _ (by omega) (by omega)).trans (q_ne (by omega) hcc1)
  refine lv_astore_n (lv' := [(1, .ref n), (0, .ref a)]) hx hb dX13_text_408 rfl hl (by decide) rfl (fun ls hl => ?_)
  refine lv_iconst (v := 0) hx hb dX13_text_409 (by decide) ?_
  refine lv_istore_n (lv' := [(2, .int 0), (1, .ref n), (0, .ref a)]) hx hb dX13_text_410 rfl hl (by decide) rfl (fun ls hl => ?_)
  refine lv_iload_n hx hb dX13_text_411 rfl (lv_at hl 0 rfl) ?_
  refine lv_aload_n hx hb dX13_text_412 rfl (lv_at hl 2 rfl) ?_
  refine q_get hx hb hts hown hA hW iX13 ha_405 rfl 3 (by decide) (hts (.fieldLink RX13 7 "HighRecipesLaw$Act" "signs" "[I") (by decide +kernel)) (fun _ h9 => h9) (v := .ref sg) rfl dX13_text_413 ?_
  refine q_alen hx hb hA hW 0 rfl hsg_405 (v := 2) rfl dX13_text_416 ?_
  refine lv_icmp_ge (tgt := 479) hx hb dX13_text_417 (by decide) (fun c_417 => absurd c_417 (by decide)) (fun c_417 => ?_)
  refine lv_aload_n hx hb dX13_text_420 rfl (lv_at hl 1 rfl) ?_
  refine lv_iload_n hx hb dX13_text_421 rfl (lv_at hl 0 rfl) ?_
  refine lv_if_ne (tgt := 430) hx hb dX13_text_422 (by decide) (fun c_422 => absurd c_422 (by decide)) (fun c_422 => ?_)
  refine va_ldcS (own := "HighRecipesLaw$Act") hx hb hown (q_ldk hA (i := 26) (by decide)) dX13_text_425 ?_
  refine lv_goto (tgt := 432) hx hb dX13_text_427 (by decide) ?_
  refine q_cq (va_runV (As := [.ref (E.2.2.2 (200 + 26))]) (rest := []) ⟨hx, hb, hml, hown, hts⟩ (kJ4_append_k l E f_405 n_405 n (n + 1) 16 26 2000 ([] : List Int32) e0_405 e1_405 (by (try simp only [List.length_append, List.length_nil, List.length_cons, pT_len, ktl_0, ktl_1, ktl_2, ktl_3, ktl_4, ktl_5, ktl_6, ktl_7, ktl_8, ktl_9, ktl_10, ktl_11, ktl_12, ktl_13, ktl_14, ktl_15, ktl_16, ktl_17, ktl_18, ktl_19, ktl_20, ktl_21, ktl_22, ktl_23, ktl_24, ktl_25, ktl_26, ktl_27, ktl_28, ktl_29, ktl_30, ktl_31, ktl_32, ktl_33, ktl_34, ktl_35, ktl_36, ktl_37, ktl_38, ktl_39, ktl_40, ktl_41, ktl_42, ktl_43, ktl_44, ktl_45, ktl_46, ktl_47, ktl_48, ktl_49]); omega) (by omega) (by omega) (by first | assumption | decide) (by repeat (first | exact okb_nil | assumption | exact kt_okb (by omega) | exact okb_pT (by omega) | exact dg_ok _ (by omega) | exact okb_one (by omega) | apply okb_app)) (by omega)) (cwV 1 hts gX13_text_J4_append_15ec4 rfl rfl rfl (by decide +kernel) ⟨(Nat.le_of_ble_eq_true rfl), (Nat.le_of_ble_eq_true rfl)⟩) (q_pV hA hW hS (ci := 1) rfl e0_405) rfl rfl hl.1 rfl (lv_room (Nat.le_of_ble_eq_true rfl)) dX13_text_432 ⟨(by show _ ≤ 220 + 221 * bC L; omega), (by show _ ≤ 66000 + 70000 * bC L; omega)⟩) hS (fun r_432 f_432 n_432 H locs hp hW hS => ?_)
  obtain ⟨b1_432, m1_432, rfl, e0_432, e1_432, el_432, em4_432, eb_432, en_432, hfr_432⟩ := hp
  have l_e0_432 := hW.lt e0_432
  have l_e1_432 := hW.lt e1_432
  have ha_432 : f_432 a = some (cLA 9 (nI i) none (some sg) (some on) (some ot) (some b) none) := (hfr_432 _ (by omega) (by omega) (by omega)).trans ha_405
  have hsg_432 : f_432 sg = some (aI E 2 gs) := (hfr_432 _ (by omega) (by omega) (by omega)).trans hsg_405
  have hon_432 : f_432 on = some (aQ E 7 2 go) := (hfr_432 _ (by omega) (by omega) (by omega)).trans hon_405
  have hot_432 : f_432 ot = some (aQ E 7 2 gt) := (hfr_432 _ (by omega) (by omega) (by omega)).trans hot_405
  have ha0_432 : f_432 a0 = some (cNode so0 ka0 xa0 ya0) := (hfr_432 _ (by omega) (by omega) (by omega)).trans ha0_405
  have hc0_432 : f_432 c0 = some (cNode sp0 kc0 xc0 yc0) := (hfr_432 _ (by omega) (by omega) (by omega)).trans hc0_405
  have ha1_432 : f_432 a1 = some (cNode so1 ka1 xa1 ya1) := (hfr_432 _ (by omega) (by omega) (by omega)).trans ha1_405
  have hc1_432 : f_432 c1 = some (cNode sp1 kc1 xc1 yc1) := (hfr_432 _ (by omega) (by omega) (by omega)).trans hc1_405
  refine lv_aload_n hx hb dX13_text_435 rfl (lv_at hl 2 rfl) ?_
  refine q_get hx hb hts hown hA hW iX13 ha_432 rfl 4 (by decide) (hts (.fieldLink RX13 15 "HighRecipesLaw$Act" "ones" "[LHighRecipesLaw$Node;") (by decide +kernel)) (fun _ h9 => h9) (v := .ref on) rfl dX13_text_436 ?_
  refine lv_iload_n hx hb dX13_text_439 rfl (lv_at hl 0 rfl) ?_
  refine q_aald hx hb hA hW 7 rfl hon_432 (vp_in_nI (by decide) (by decide)) dX13_text_440 ?_
  rw [show go (0 : Int32).toNatClampNeg = some a0 from hgo0]
  refine q_cq (va_runV (As := []) (rest := [.ref n]) ⟨hx, hb, hml, hown, hts⟩ (kX16_text_0 l E f_432 n_432 a0 pn P _ W0 (NODE.to (fun q hq => have h8 := hP q hq; ⟨hq, ((hfr_432 _ (by omega) (by omega) (by omega)).trans ((hfr_405 _ (by omega) (by omega)).trans (q_ne (by omega) rfl)))⟩) hM0) hpn) (cwV 0 hts gX13_text_X16_text rfl rfl rfl (by decide +kernel) ⟨(Nat.le_of_ble_eq_true rfl), (Nat.le_of_ble_eq_true rfl)⟩) (q_pV hA hW hS (ci := 16) rfl ha0_432) rfl rfl hl.1 rfl (lv_room (Nat.le_of_ble_eq_true rfl)) dX13_text_441 ⟨(by show _ ≤ 220 + 221 * bC L; omega), (by show _ ≤ 66000 + 70000 * bC L; omega)⟩) hS (fun r_441 f_441 n_441 H locs hp hW hS => ?_)
  obtain ⟨r_441, rfl, eT_441, ef_441, en_441, hfr_441⟩ := hp
  have ha_441 : f_441 a = some (cLA 9 (nI i) none (some sg) (some on) (some ot) (some b) none) := (hfr_441 _ (by omega)).trans ha_432
  have hsg_441 : f_441 sg = some (aI E 2 gs) := (hfr_441 _ (by omega)).trans hsg_432
  have hon_441 : f_441 on = some (aQ E 7 2 go) := (hfr_441 _ (by omega)).trans hon_432
  have hot_441 : f_441 ot = some (aQ E 7 2 gt) := (hfr_441 _ (by omega)).trans hot_432
  have hc0_441 : f_441 c0 = some (cNode sp0 kc0 xc0 yc0) := (hfr_441 _ (by omega)).trans hc0_432
  have ha1_441 : f_441 a1 = some (cNode so1 ka1 xa1 ya1) := (hfr_441 _ (by omega)).trans ha1_432
  have hc1_441 : f_441 c1 = some (cNode sp1 kc1 xc1 yc1) := (hfr_441 _ (by omega)).trans hc1_432
  have hn_441 : f_441 n = some (cSB b1_432 (nI (([] : List Int32) ++ kt 26).length)) := (hfr_441 _ (by omega)).trans e0_432
  have hb1_432_441 : f_441 b1_432 = some (aB E m1_432 (tx (([] : List Int32) ++ kt 26))) := (hfr_441 _ (by omega)).trans e1_432
  refine q_cq (va_runV (As := [.ref r_441]) (rest := []) ⟨hx, hb, hml, hown, hts⟩ (kJ4_append_S l E f_441 n_441 n b1_432 m1_432 r_441 2000 (([] : List Int32) ++ kt 26) W0 hn_441 hb1_432_441 (by (try simp only [List.length_append, List.length_nil, List.length_cons, pT_len, ktl_0, ktl_1, ktl_2, ktl_3, ktl_4, ktl_5, ktl_6, ktl_7, ktl_8, ktl_9, ktl_10, ktl_11, ktl_12, ktl_13, ktl_14, ktl_15, ktl_16, ktl_17, ktl_18, ktl_19, ktl_20, ktl_21, ktl_22, ktl_23, ktl_24, ktl_25, ktl_26, ktl_27, ktl_28, ktl_29, ktl_30, ktl_31, ktl_32, ktl_33, ktl_34, ktl_35, ktl_36, ktl_37, ktl_38, ktl_39, ktl_40, ktl_41, ktl_42, ktl_43, ktl_44, ktl_45, ktl_46, ktl_47, ktl_48, ktl_49]); omega) (by omega) (by omega) (by first | assumption | decide) (by repeat (first | exact okb_nil | assumption | exact kt_okb (by omega) | exact okb_pT (by omega) | exact dg_ok _ (by omega) | exact okb_one (by omega) | apply okb_app)) (by repeat (first | exact okb_nil | assumption | exact kt_okb (by omega) | exact okb_pT (by omega) | exact dg_ok _ (by omega) | exact okb_one (by omega) | apply okb_app)) eT_441 (fun rb h9 => by have := ef_441 rb h9; omega)) (cwV 1 hts gX13_text_J4_append_15ec4 rfl rfl rfl (by decide +kernel) ⟨(Nat.le_of_ble_eq_true rfl), (Nat.le_of_ble_eq_true rfl)⟩) (q_pV hA hW hS (ci := 1) rfl hn_441) rfl rfl hl.1 rfl (lv_room (Nat.le_of_ble_eq_true rfl)) dX13_text_444 ⟨(by show _ ≤ 220 + 221 * bC L; omega), (by show _ ≤ 66000 + 70000 * bC L; omega)⟩) hS (fun r_444 f_444 n_444 H locs hp hW hS => ?_)
  obtain ⟨b1_444, m1_444, rfl, e0_444, e1_444, el_444, em4_444, eb_444, en_444, hfr_444⟩ := hp
  have l_e0_444 := hW.lt e0_444
  have l_e1_444 := hW.lt e1_444
  have ha_444 : f_444 a = some (cLA 9 (nI i) none (some sg) (some on) (some ot) (some b) none) := (hfr_444 _ (by omega) (by omega) (by omega)).trans ha_441
  have hsg_444 : f_444 sg = some (aI E 2 gs) := (hfr_444 _ (by omega) (by omega) (by omega)).trans hsg_441
  have hon_444 : f_444 on = some (aQ E 7 2 go) := (hfr_444 _ (by omega) (by omega) (by omega)).trans hon_441
  have hot_444 : f_444 ot = some (aQ E 7 2 gt) := (hfr_444 _ (by omega) (by omega) (by omega)).trans hot_441
  have hc0_444 : f_444 c0 = some (cNode sp0 kc0 xc0 yc0) := (hfr_444 _ (by omega) (by omega) (by omega)).trans hc0_441
  have ha1_444 : f_444 a1 = some (cNode so1 ka1 xa1 ya1) := (hfr_444 _ (by omega) (by omega) (by omega)).trans ha1_441
  have hc1_444 : f_444 c1 = some (cNode sp1 kc1 xc1 yc1) := (hfr_444 _ (by omega) (by omega) (by omega)).trans hc1_441
  refine va_gets (n := "COMPARES") (v := .ref (E.2.2.2 105)) hx hb hA.2.2.1.2.2.2.2.1.2.2.2.1 hS hown (hts (.fieldLink RX13 132 "HighRecipesLaw$Act" "COMPARES" "[Ljava/lang/String;") (by decide +kernel)) (fun _ h9 => h9) dX13_text_447 ?_
  refine lv_aload_n hx hb dX13_text_450 rfl (lv_at hl 2 rfl) ?_
  refine q_get hx hb hts hown hA hW iX13 ha_444 rfl 3 (by decide) (hts (.fieldLink RX13 7 "HighRecipesLaw$Act" "signs" "[I") (by decide +kernel)) (fun _ h9 => h9) (v := .ref sg) rfl dX13_text_451 ?_
  refine lv_iload_n hx hb dX13_text_454 rfl (lv_at hl 0 rfl) ?_
  refine q_iald hx hb hA hW hsg_444 (vp_in_nI (by decide) (by decide)) dX13_text_455 ?_
  rw [show gs (0 : Int32).toNatClampNeg = nI s0 from hgs0]
  refine vb_tq hx hb hA.2.2.1.2.2.2.2.1.2.2.2.2 hS (vp_in_nI (by omega) (by decide)) (v := .ref (E.2.2.2 (200 + (47 + s0)))) (by rw [nI_clamp (by omega)]) dX13_text_456 ?_
  refine q_cq (va_runV (As := [.ref (E.2.2.2 (200 + (47 + s0)))]) (rest := []) ⟨hx, hb, hml, hown, hts⟩ (kJ4_append_k l E f_444 n_444 n b1_444 m1_444 (47 + s0) 2000 ((([] : List Int32) ++ kt 26) ++ W0) e0_444 e1_444 (by (try simp only [List.length_append, List.length_nil, List.length_cons, pT_len, ktl_0, ktl_1, ktl_2, ktl_3, ktl_4, ktl_5, ktl_6, ktl_7, ktl_8, ktl_9, ktl_10, ktl_11, ktl_12, ktl_13, ktl_14, ktl_15, ktl_16, ktl_17, ktl_18, ktl_19, ktl_20, ktl_21, ktl_22, ktl_23, ktl_24, ktl_25, ktl_26, ktl_27, ktl_28, ktl_29, ktl_30, ktl_31, ktl_32, ktl_33, ktl_34, ktl_35, ktl_36, ktl_37, ktl_38, ktl_39, ktl_40, ktl_41, ktl_42, ktl_43, ktl_44, ktl_45, ktl_46, ktl_47, ktl_48, ktl_49]); omega) (by omega) (by omega) (by first | assumption | decide) (by repeat (first | exact okb_nil | assumption | exact kt_okb (by omega) | exact okb_pT (by omega) | exact dg_ok _ (by omega) | exact okb_one (by omega) | apply okb_app)) (by omega)) (cwV 1 hts gX13_text_J4_append_15ec4 rfl rfl rfl (by decide +kernel) ⟨(Nat.le_of_ble_eq_true rfl), (Nat.le_of_ble_eq_true rfl)⟩) (q_pV hA hW hS (ci := 1) rfl e0_444) rfl rfl hl.1 rfl (lv_room (Nat.le_of_ble_eq_true rfl)) dX13_text_457 ⟨(by show _ ≤ 220 + 221 * bC L; omega), (by show _ ≤ 66000 + 70000 * bC L; omega)⟩) hS (fun r_457 f_457 n_457 H locs hp hW hS => ?_)
  obtain ⟨b1_457, m1_457, rfl, e0_457, e1_457, el_457, em4_457, eb_457, en_457, hfr_457⟩ := hp
  have l_e0_457 := hW.lt e0_457
  have l_e1_457 := hW.lt e1_457
  have ha_457 : f_457 a = some (cLA 9 (nI i) none (some sg) (some on) (some ot) (some b) none) := (hfr_457 _ (by omega) (by omega) (by omega)).trans ha_444
  have hsg_457 : f_457 sg = some (aI E 2 gs) := (hfr_457 _ (by omega) (by omega) (by omega)).trans hsg_444
  have hon_457 : f_457 on = some (aQ E 7 2 go) := (hfr_457 _ (by omega) (by omega) (by omega)).trans hon_444
  have hot_457 : f_457 ot = some (aQ E 7 2 gt) := (hfr_457 _ (by omega) (by omega) (by omega)).trans hot_444
  have hc0_457 : f_457 c0 = some (cNode sp0 kc0 xc0 yc0) := (hfr_457 _ (by omega) (by omega) (by omega)).trans hc0_444
  have ha1_457 : f_457 a1 = some (cNode so1 ka1 xa1 ya1) := (hfr_457 _ (by omega) (by omega) (by omega)).trans ha1_444
  have hc1_457 : f_457 c1 = some (cNode sp1 kc1 xc1 yc1) := (hfr_457 _ (by omega) (by omega) (by omega)).trans hc1_444
  refine lv_aload_n hx hb dX13_text_460 rfl (lv_at hl 2 rfl) ?_
  refine q_get hx hb hts hown hA hW iX13 ha_457 rfl 5 (by decide) (hts (.fieldLink RX13 19 "HighRecipesLaw$Act" "others" "[LHighRecipesLaw$Node;") (by decide +kernel)) (fun _ h9 => h9) (v := .ref ot) rfl dX13_text_461 ?_
  refine lv_iload_n hx hb dX13_text_464 rfl (lv_at hl 0 rfl) ?_
  refine q_aald hx hb hA hW 7 rfl hot_457 (vp_in_nI (by decide) (by decide)) dX13_text_465 ?_
  rw [show gt (0 : Int32).toNatClampNeg = some c0 from hgt0]
  refine q_cq (va_runV (As := []) (rest := [.ref n]) ⟨hx, hb, hml, hown, hts⟩ (kX16_text_0 l E f_457 n_457 c0 pn P _ Y0 (NODE.to (fun q hq => have h8 := hP q hq; ⟨hq, ((hfr_457 _ (by omega) (by omega) (by omega)).trans ((hfr_444 _ (by omega) (by omega) (by omega)).trans ((hfr_441 _ (by omega)).trans ((hfr_432 _ (by omega) (by omega) (by omega)).trans ((hfr_405 _ (by omega) (by omega)).trans (q_ne (by omega) rfl))))))⟩) hQ0) hpn) (cwV 0 hts gX13_text_X16_text rfl rfl rfl (by decide +kernel) ⟨(Nat.le_of_ble_eq_true rfl), (Nat.le_of_ble_eq_true rfl)⟩) (q_pV hA hW hS (ci := 16) rfl hc0_457) rfl rfl hl.1 rfl (lv_room (Nat.le_of_ble_eq_true rfl)) dX13_text_466 ⟨(by show _ ≤ 220 + 221 * bC L; omega), (by show _ ≤ 66000 + 70000 * bC L; omega)⟩) hS (fun r_466 f_466 n_466 H locs hp hW hS => ?_)
  obtain ⟨r_466, rfl, eT_466, ef_466, en_466, hfr_466⟩ := hp
  have ha_466 : f_466 a = some (cLA 9 (nI i) none (some sg) (some on) (some ot) (some b) none) := (hfr_466 _ (by omega)).trans ha_457
  have hsg_466 : f_466 sg = some (aI E 2 gs) := (hfr_466 _ (by omega)).trans hsg_457
  have hon_466 : f_466 on = some (aQ E 7 2 go) := (hfr_466 _ (by omega)).trans hon_457
  have hot_466 : f_466 ot = some (aQ E 7 2 gt) := (hfr_466 _ (by omega)).trans hot_457
  have ha1_466 : f_466 a1 = some (cNode so1 ka1 xa1 ya1) := (hfr_466 _ (by omega)).trans ha1_457
  have hc1_466 : f_466 c1 = some (cNode sp1 kc1 xc1 yc1) := (hfr_466 _ (by omega)).trans hc1_457
  have hn_466 : f_466 n = some (cSB b1_457 (nI (((([] : List Int32) ++ kt 26) ++ W0) ++ kt (47 + s0)).length)) := (hfr_466 _ (by omega)).trans e0_457
  have hb1_457_466 : f_466 b1_457 = some (aB E m1_457 (tx (((([] : List Int32) ++ kt 26) ++ W0) ++ kt (47 + s0)))) := (hfr_466 _ (by omega)).trans e1_457
  refine q_cq (va_runV (As := [.ref r_466]) (rest := []) ⟨hx, hb, hml, hown, hts⟩ (kJ4_append_S l E f_466 n_466 n b1_457 m1_457 r_466 2000 (((([] : List Int32) ++ kt 26) ++ W0) ++ kt (47 + s0)) Y0 hn_466 hb1_457_466 (by (try simp only [List.length_append, List.length_nil, List.length_cons, pT_len, ktl_0, ktl_1, ktl_2, ktl_3, ktl_4, ktl_5, ktl_6, ktl_7, ktl_8, ktl_9, ktl_10, ktl_11, ktl_12, ktl_13, ktl_14, ktl_15, ktl_16, ktl_17, ktl_18, ktl_19, ktl_20, ktl_21, ktl_22, ktl_23, ktl_24, ktl_25, ktl_26, ktl_27, ktl_28, ktl_29, ktl_30, ktl_31, ktl_32, ktl_33, ktl_34, ktl_35, ktl_36, ktl_37, ktl_38, ktl_39, ktl_40, ktl_41, ktl_42, ktl_43, ktl_44, ktl_45, ktl_46, ktl_47, ktl_48, ktl_49]); omega) (by omega) (by omega) (by first | assumption | decide) (by repeat (first | exact okb_nil | assumption | exact kt_okb (by omega) | exact okb_pT (by omega) | exact dg_ok _ (by omega) | exact okb_one (by omega) | apply okb_app)) (by repeat (first | exact okb_nil | assumption | exact kt_okb (by omega) | exact okb_pT (by omega) | exact dg_ok _ (by omega) | exact okb_one (by omega) | apply okb_app)) eT_466 (fun rb h9 => by have := ef_466 rb h9; omega)) (cwV 1 hts gX13_text_J4_append_15ec4 rfl rfl rfl (by decide +kernel) ⟨(Nat.le_of_ble_eq_true rfl), (Nat.le_of_ble_eq_true rfl)⟩) (q_pV hA hW hS (ci := 1) rfl hn_466) rfl rfl hl.1 rfl (lv_room (Nat.le_of_ble_eq_true rfl)) dX13_text_469 ⟨(by show _ ≤ 220 + 221 * bC L; omega), (by show _ ≤ 66000 + 70000 * bC L; omega)⟩) hS (fun r_469 f_469 n_469 H locs hp hW hS => ?_)
  obtain ⟨b1_469, m1_469, rfl, e0_469, e1_469, el_469, em4_469, eb_469, en_469, hfr_469⟩ := hp
  have l_e0_469 := hW.lt e0_469
  have l_e1_469 := hW.lt e1_469
  have ha_469 : f_469 a = some (cLA 9 (nI i) none (some sg) (some on) (some ot) (some b) none) := (hfr_469 _ (by omega) (by omega) (by omega)).trans ha_466
  have hsg_469 : f_469 sg = some (aI E 2 gs) := (hfr_469 _ (by omega) (by omega) (by omega)).trans hsg_466
  have hon_469 : f_469 on = some (aQ E 7 2 go) := (hfr_469 _ (by omega) (by omega) (by omega)).trans hon_466
  have hot_469 : f_469 ot = some (aQ E 7 2 gt) := (hfr_469 _ (by omega) (by omega) (by omega)).trans hot_466
  have ha1_469 : f_469 a1 = some (cNode so1 ka1 xa1 ya1) := (hfr_469 _ (by omega) (by omega) (by omega)).trans ha1_466
  have hc1_469 : f_469 c1 = some (cNode sp1 kc1 xc1 yc1) := (hfr_469 _ (by omega) (by omega) (by omega)).trans hc1_466
  refine lv_pop hx hb dX13_text_472 rfl ?_
  refine lv_iinc (v := 1) (lv' := [(2, .int 1), (1, .ref n), (0, .ref a)]) hx hb dX13_text_473 hl (k := 0) rfl (by decide) (by decide) rfl (fun ls hl => ?_)
  refine lv_goto (tgt := 411) hx hb dX13_text_476 (by decide) ?_
  refine lv_iload_n hx hb dX13_text_411 rfl (lv_at hl 0 rfl) ?_
  refine lv_aload_n hx hb dX13_text_412 rfl (lv_at hl 2 rfl) ?_
  refine q_get hx hb hts hown hA hW iX13 ha_469 rfl 3 (by decide) (hts (.fieldLink RX13 7 "HighRecipesLaw$Act" "signs" "[I") (by decide +kernel)) (fun _ h9 => h9) (v := .ref sg) rfl dX13_text_413 ?_
  refine q_alen hx hb hA hW 0 rfl hsg_469 (v := 2) rfl dX13_text_416 ?_
  refine lv_icmp_ge (tgt := 479) hx hb dX13_text_417 (by decide) (fun c_417 => absurd c_417 (by decide)) (fun c_417 => ?_)
  refine lv_aload_n hx hb dX13_text_420 rfl (lv_at hl 1 rfl) ?_
  refine lv_iload_n hx hb dX13_text_421 rfl (lv_at hl 0 rfl) ?_
  refine lv_if_ne (tgt := 430) hx hb dX13_text_422 (by decide) (fun c_422 => ?_) (fun c_422 => absurd c_422 (by decide))
  refine va_ldcS (own := "HighRecipesLaw$Act") hx hb hown (q_ldk hA (i := 27) (by decide)) dX13_text_430 ?_
  refine q_cq (va_runV (As := [.ref (E.2.2.2 (200 + 27))]) (rest := []) ⟨hx, hb, hml, hown, hts⟩ (kJ4_append_k l E f_469 n_469 n b1_469 m1_469 27 2000 ((((([] : List Int32) ++ kt 26) ++ W0) ++ kt (47 + s0)) ++ Y0) e0_469 e1_469 (by (try simp only [List.length_append, List.length_nil, List.length_cons, pT_len, ktl_0, ktl_1, ktl_2, ktl_3, ktl_4, ktl_5, ktl_6, ktl_7, ktl_8, ktl_9, ktl_10, ktl_11, ktl_12, ktl_13, ktl_14, ktl_15, ktl_16, ktl_17, ktl_18, ktl_19, ktl_20, ktl_21, ktl_22, ktl_23, ktl_24, ktl_25, ktl_26, ktl_27, ktl_28, ktl_29, ktl_30, ktl_31, ktl_32, ktl_33, ktl_34, ktl_35, ktl_36, ktl_37, ktl_38, ktl_39, ktl_40, ktl_41, ktl_42, ktl_43, ktl_44, ktl_45, ktl_46, ktl_47, ktl_48, ktl_49]); omega) (by omega) (by omega) (by first | assumption | decide) (by repeat (first | exact okb_nil | assumption | exact kt_okb (by omega) | exact okb_pT (by omega) | exact dg_ok _ (by omega) | exact okb_one (by omega) | apply okb_app)) (by omega)) (cwV 1 hts gX13_text_J4_append_15ec4 rfl rfl rfl (by decide +kernel) ⟨(Nat.le_of_ble_eq_true rfl), (Nat.le_of_ble_eq_true rfl)⟩) (q_pV hA hW hS (ci := 1) rfl e0_469) rfl rfl hl.1 rfl (lv_room (Nat.le_of_ble_eq_true rfl)) dX13_text_432 ⟨(by show _ ≤ 220 + 221 * bC L; omega), (by show _ ≤ 66000 + 70000 * bC L; omega)⟩) hS (fun r_432x1 f_432x1 n_432x1 H locs hp hW hS => ?_)
  obtain ⟨b1_432x1, m1_432x1, rfl, e0_432x1, e1_432x1, el_432x1, em4_432x1, eb_432x1, en_432x1, hfr_432x1⟩ := hp
  have l_e0_432x1 := hW.lt e0_432x1
  have l_e1_432x1 := hW.lt e1_432x1
  have ha_432x1 : f_432x1 a = some (cLA 9 (nI i) none (some sg) (some on) (some ot) (some b) none) := (hfr_432x1 _ (by omega) (by omega) (by omega)).trans ha_469
  have hsg_432x1 : f_432x1 sg = some (aI E 2 gs) := (hfr_432x1 _ (by omega) (by omega) (by omega)).trans hsg_469
  have hon_432x1 : f_432x1 on = some (aQ E 7 2 go) := (hfr_432x1 _ (by omega) (by omega) (by omega)).trans hon_469
  have hot_432x1 : f_432x1 ot = some (aQ E 7 2 gt) := (hfr_432x1 _ (by omega) (by omega) (by omega)).trans hot_469
  have ha1_432x1 : f_432x1 a1 = some (cNode so1 ka1 xa1 ya1) := (hfr_432x1 _ (by omega) (by omega) (by omega)).trans ha1_469
  have hc1_432x1 : f_432x1 c1 = some (cNode sp1 kc1 xc1 yc1) := (hfr_432x1 _ (by omega) (by omega) (by omega)).trans hc1_469
  refine lv_aload_n hx hb dX13_text_435 rfl (lv_at hl 2 rfl) ?_
  refine q_get hx hb hts hown hA hW iX13 ha_432x1 rfl 4 (by decide) (hts (.fieldLink RX13 15 "HighRecipesLaw$Act" "ones" "[LHighRecipesLaw$Node;") (by decide +kernel)) (fun _ h9 => h9) (v := .ref on) rfl dX13_text_436 ?_
  refine lv_iload_n hx hb dX13_text_439 rfl (lv_at hl 0 rfl) ?_
  refine q_aald hx hb hA hW 7 rfl hon_432x1 (vp_in_nI (by decide) (by decide)) dX13_text_440 ?_
  rw [show go (1 : Int32).toNatClampNeg = some a1 from hgo1]
  refine q_cq (va_runV (As := []) (rest := [.ref n]) ⟨hx, hb, hml, hown, hts⟩ (kX16_text_0 l E f_432x1 n_432x1 a1 pn P _ W1 (NODE.to (fun q hq => have h8 := hP q hq; ⟨hq, ((hfr_432x1 _ (by omega) (by omega) (by omega)).trans ((hfr_469 _ (by omega) (by omega) (by omega)).trans ((hfr_466 _ (by omega)).trans ((hfr_457 _ (by omega) (by omega) (by omega)).trans ((hfr_444 _ (by omega) (by omega) (by omega)).trans ((hfr_441 _ (by omega)).trans ((hfr_432 _ (by omega) (by omega) (by omega)).trans ((hfr_405 _ (by omega) (by omega)).trans (q_ne (by omega) rfl)))))))))⟩) hM1) hpn) (cwV 0 hts gX13_text_X16_text rfl rfl rfl (by decide +kernel) ⟨(Nat.le_of_ble_eq_true rfl), (Nat.le_of_ble_eq_true rfl)⟩) (q_pV hA hW hS (ci := 16) rfl ha1_432x1) rfl rfl hl.1 rfl (lv_room (Nat.le_of_ble_eq_true rfl)) dX13_text_441 ⟨(by show _ ≤ 220 + 221 * bC L; omega), (by show _ ≤ 66000 + 70000 * bC L; omega)⟩) hS (fun r_441x1 f_441x1 n_441x1 H locs hp hW hS => ?_)
  obtain ⟨r_441x1, rfl, eT_441x1, ef_441x1, en_441x1, hfr_441x1⟩ := hp
  have ha_441x1 : f_441x1 a = some (cLA 9 (nI i) none (some sg) (some on) (some ot) (some b) none) := (hfr_441x1 _ (by omega)).trans ha_432x1
  have hsg_441x1 : f_441x1 sg = some (aI E 2 gs) := (hfr_441x1 _ (by omega)).trans hsg_432x1
  have hon_441x1 : f_441x1 on = some (aQ E 7 2 go) := (hfr_441x1 _ (by omega)).trans hon_432x1
  have hot_441x1 : f_441x1 ot = some (aQ E 7 2 gt) := (hfr_441x1 _ (by omega)).trans hot_432x1
  have hc1_441x1 : f_441x1 c1 = some (cNode sp1 kc1 xc1 yc1) := (hfr_441x1 _ (by omega)).trans hc1_432x1
  have hn_441x1 : f_441x1 n = some (cSB b1_432x1 (nI (((((([] : List Int32) ++ kt 26) ++ W0) ++ kt (47 + s0)) ++ Y0) ++ kt 27).length)) := (hfr_441x1 _ (by omega)).trans e0_432x1
  have hb1_432x1_441x1 : f_441x1 b1_432x1 = some (aB E m1_432x1 (tx (((((([] : List Int32) ++ kt 26) ++ W0) ++ kt (47 + s0)) ++ Y0) ++ kt 27))) := (hfr_441x1 _ (by omega)).trans e1_432x1
  refine q_cq (va_runV (As := [.ref r_441x1]) (rest := []) ⟨hx, hb, hml, hown, hts⟩ (kJ4_append_S l E f_441x1 n_441x1 n b1_432x1 m1_432x1 r_441x1 2000 (((((([] : List Int32) ++ kt 26) ++ W0) ++ kt (47 + s0)) ++ Y0) ++ kt 27) W1 hn_441x1 hb1_432x1_441x1 (by (try simp only [List.length_append, List.length_nil, List.length_cons, pT_len, ktl_0, ktl_1, ktl_2, ktl_3, ktl_4, ktl_5, ktl_6, ktl_7, ktl_8, ktl_9, ktl_10, ktl_11, ktl_12, ktl_13, ktl_14, ktl_15, ktl_16, ktl_17, ktl_18, ktl_19, ktl_20, ktl_21, ktl_22, ktl_23, ktl_24, ktl_25, ktl_26, ktl_27, ktl_28, ktl_29, ktl_30, ktl_31, ktl_32, ktl_33, ktl_34, ktl_35, ktl_36, ktl_37, ktl_38, ktl_39, ktl_40, ktl_41, ktl_42, ktl_43, ktl_44, ktl_45, ktl_46, ktl_47, ktl_48, ktl_49]); omega) (by omega) (by omega) (by first | assumption | decide) (by repeat (first | exact okb_nil | assumption | exact kt_okb (by omega) | exact okb_pT (by omega) | exact dg_ok _ (by omega) | exact okb_one (by omega) | apply okb_app)) (by repeat (first | exact okb_nil | assumption | exact kt_okb (by omega) | exact okb_pT (by omega) | exact dg_ok _ (by omega) | exact okb_one (by omega) | apply okb_app)) eT_441x1 (fun rb h9 => by have := ef_441x1 rb h9; omega)) (cwV 1 hts gX13_text_J4_append_15ec4 rfl rfl rfl (by decide +kernel) ⟨(Nat.le_of_ble_eq_true rfl), (Nat.le_of_ble_eq_true rfl)⟩) (q_pV hA hW hS (ci := 1) rfl hn_441x1) rfl rfl hl.1 rfl (lv_room (Nat.le_of_ble_eq_true rfl)) dX13_text_444 ⟨(by show _ ≤ 220 + 221 * bC L; omega), (by show _ ≤ 66000 + 70000 * bC L; omega)⟩) hS (fun r_444x1 f_444x1 n_444x1 H locs hp hW hS => ?_)
  obtain ⟨b1_444x1, m1_444x1, rfl, e0_444x1, e1_444x1, el_444x1, em4_444x1, eb_444x1, en_444x1, hfr_444x1⟩ := hp
  have l_e0_444x1 := hW.lt e0_444x1
  have l_e1_444x1 := hW.lt e1_444x1
  have ha_444x1 : f_444x1 a = some (cLA 9 (nI i) none (some sg) (some on) (some ot) (some b) none) := (hfr_444x1 _ (by omega) (by omega) (by omega)).trans ha_441x1
  have hsg_444x1 : f_444x1 sg = some (aI E 2 gs) := (hfr_444x1 _ (by omega) (by omega) (by omega)).trans hsg_441x1
  have hon_444x1 : f_444x1 on = some (aQ E 7 2 go) := (hfr_444x1 _ (by omega) (by omega) (by omega)).trans hon_441x1
  have hot_444x1 : f_444x1 ot = some (aQ E 7 2 gt) := (hfr_444x1 _ (by omega) (by omega) (by omega)).trans hot_441x1
  have hc1_444x1 : f_444x1 c1 = some (cNode sp1 kc1 xc1 yc1) := (hfr_444x1 _ (by omega) (by omega) (by omega)).trans hc1_441x1
  refine va_gets (n := "COMPARES") (v := .ref (E.2.2.2 105)) hx hb hA.2.2.1.2.2.2.2.1.2.2.2.1 hS hown (hts (.fieldLink RX13 132 "HighRecipesLaw$Act" "COMPARES" "[Ljava/lang/String;") (by decide +kernel)) (fun _ h9 => h9) dX13_text_447 ?_
  refine lv_aload_n hx hb dX13_text_450 rfl (lv_at hl 2 rfl) ?_
  refine q_get hx hb hts hown hA hW iX13 ha_444x1 rfl 3 (by decide) (hts (.fieldLink RX13 7 "HighRecipesLaw$Act" "signs" "[I") (by decide +kernel)) (fun _ h9 => h9) (v := .ref sg) rfl dX13_text_451 ?_
  refine lv_iload_n hx hb dX13_text_454 rfl (lv_at hl 0 rfl) ?_
  refine q_iald hx hb hA hW hsg_444x1 (vp_in_nI (by decide) (by decide)) dX13_text_455 ?_
  rw [show gs (1 : Int32).toNatClampNeg = nI s1 from hgs1]
  refine vb_tq hx hb hA.2.2.1.2.2.2.2.1.2.2.2.2 hS (vp_in_nI (by omega) (by decide)) (v := .ref (E.2.2.2 (200 + (47 + s1)))) (by rw [nI_clamp (by omega)]) dX13_text_456 ?_
  refine q_cq (va_runV (As := [.ref (E.2.2.2 (200 + (47 + s1)))]) (rest := []) ⟨hx, hb, hml, hown, hts⟩ (kJ4_append_k l E f_444x1 n_444x1 n b1_444x1 m1_444x1 (47 + s1) 2000 ((((((([] : List Int32) ++ kt 26) ++ W0) ++ kt (47 + s0)) ++ Y0) ++ kt 27) ++ W1) e0_444x1 e1_444x1 (by (try simp only [List.length_append, List.length_nil, List.length_cons, pT_len, ktl_0, ktl_1, ktl_2, ktl_3, ktl_4, ktl_5, ktl_6, ktl_7, ktl_8, ktl_9, ktl_10, ktl_11, ktl_12, ktl_13, ktl_14, ktl_15, ktl_16, ktl_17, ktl_18, ktl_19, ktl_20, ktl_21, ktl_22, ktl_23, ktl_24, ktl_25, ktl_26, ktl_27, ktl_28, ktl_29, ktl_30, ktl_31, ktl_32, ktl_33, ktl_34, ktl_35, ktl_36, ktl_37, ktl_38, ktl_39, ktl_40, ktl_41, ktl_42, ktl_43, ktl_44, ktl_45, ktl_46, ktl_47, ktl_48, ktl_49]); omega) (by omega) (by omega) (by first | assumption | decide) (by repeat (first | exact okb_nil | assumption | exact kt_okb (by omega) | exact okb_pT (by omega) | exact dg_ok _ (by omega) | exact okb_one (by omega) | apply okb_app)) (by omega)) (cwV 1 hts gX13_text_J4_append_15ec4 rfl rfl rfl (by decide +kernel) ⟨(Nat.le_of_ble_eq_true rfl), (Nat.le_of_ble_eq_true rfl)⟩) (q_pV hA hW hS (ci := 1) rfl e0_444x1) rfl rfl hl.1 rfl (lv_room (Nat.le_of_ble_eq_true rfl)) dX13_text_457 ⟨(by show _ ≤ 220 + 221 * bC L; omega), (by show _ ≤ 66000 + 70000 * bC L; omega)⟩) hS (fun r_457x1 f_457x1 n_457x1 H locs hp hW hS => ?_)
  obtain ⟨b1_457x1, m1_457x1, rfl, e0_457x1, e1_457x1, el_457x1, em4_457x1, eb_457x1, en_457x1, hfr_457x1⟩ := hp
  have l_e0_457x1 := hW.lt e0_457x1
  have l_e1_457x1 := hW.lt e1_457x1
  have ha_457x1 : f_457x1 a = some (cLA 9 (nI i) none (some sg) (some on) (some ot) (some b) none) := (hfr_457x1 _ (by omega) (by omega) (by omega)).trans ha_444x1
  have hsg_457x1 : f_457x1 sg = some (aI E 2 gs) := (hfr_457x1 _ (by omega) (by omega) (by omega)).trans hsg_444x1
  have hon_457x1 : f_457x1 on = some (aQ E 7 2 go) := (hfr_457x1 _ (by omega) (by omega) (by omega)).trans hon_444x1
  have hot_457x1 : f_457x1 ot = some (aQ E 7 2 gt) := (hfr_457x1 _ (by omega) (by omega) (by omega)).trans hot_444x1
  have hc1_457x1 : f_457x1 c1 = some (cNode sp1 kc1 xc1 yc1) := (hfr_457x1 _ (by omega) (by omega) (by omega)).trans hc1_444x1
  refine lv_aload_n hx hb dX13_text_460 rfl (lv_at hl 2 rfl) ?_
  refine q_get hx hb hts hown hA hW iX13 ha_457x1 rfl 5 (by decide) (hts (.fieldLink RX13 19 "HighRecipesLaw$Act" "others" "[LHighRecipesLaw$Node;") (by decide +kernel)) (fun _ h9 => h9) (v := .ref ot) rfl dX13_text_461 ?_
  refine lv_iload_n hx hb dX13_text_464 rfl (lv_at hl 0 rfl) ?_
  refine q_aald hx hb hA hW 7 rfl hot_457x1 (vp_in_nI (by decide) (by decide)) dX13_text_465 ?_
  rw [show gt (1 : Int32).toNatClampNeg = some c1 from hgt1]
  refine q_cq (va_runV (As := []) (rest := [.ref n]) ⟨hx, hb, hml, hown, hts⟩ (kX16_text_0 l E f_457x1 n_457x1 c1 pn P _ Y1 (NODE.to (fun q hq => have h8 := hP q hq; ⟨hq, ((hfr_457x1 _ (by omega) (by omega) (by omega)).trans ((hfr_444x1 _ (by omega) (by omega) (by omega)).trans ((hfr_441x1 _ (by omega)).trans ((hfr_432x1 _ (by omega) (by omega) (by omega)).trans ((hfr_469 _ (by omega) (by omega) (by omega)).trans ((hfr_466 _ (by omega)).trans ((hfr_457 _ (by omega) (by omega) (by omega)).trans ((hfr_444 _ (by omega) (by omega) (by omega)).trans ((hfr_441 _ (by omega)).trans ((hfr_432 _ (by omega) (by omega) (by omega)).trans ((hfr_405 _ (by omega) (by omega)).trans (q_ne (by omega) rfl))))))))))))⟩) hQ1) hpn) (cwV 0 hts gX13_text_X16_text rfl rfl rfl (by decide +kernel) ⟨(Nat.le_of_ble_eq_true rfl), (Nat.le_of_ble_eq_true rfl)⟩) (q_pV hA hW hS (ci := 16) rfl hc1_457x1) rfl rfl hl.1 rfl (lv_room (Nat.le_of_ble_eq_true rfl)) dX13_text_466 ⟨(by show _ ≤ 220 + 221 * bC L; omega), (by show _ ≤ 66000 + 70000 * bC L; omega)⟩) hS (fun r_466x1 f_466x1 n_466x1 H locs hp hW hS => ?_)
  obtain ⟨r_466x1, rfl, eT_466x1, ef_466x1, en_466x1, hfr_466x1⟩ := hp
  have ha_466x1 : f_466x1 a = some (cLA 9 (nI i) none (some sg) (some on) (some ot) (some b) none) := (hfr_466x1 _ (by omega)).trans ha_457x1
  have hsg_466x1 : f_466x1 sg = some (aI E 2 gs) := (hfr_466x1 _ (by omega)).trans hsg_457x1
  have hn_466x1 : f_466x1 n = some (cSB b1_457x1 (nI (((((((([] : List Int32) ++ kt 26) ++ W0) ++ kt (47 + s0)) ++ Y0) ++ kt 27) ++ W1) ++ kt (47 + s1)).length)) := (hfr_466x1 _ (by omega)).trans e0_457x1
  have hb1_457x1_466x1 : f_466x1 b1_457x1 = some (aB E m1_457x1 (tx (((((((([] : List Int32) ++ kt 26) ++ W0) ++ kt (47 + s0)) ++ Y0) ++ kt 27) ++ W1) ++ kt (47 + s1)))) := (hfr_466x1 _ (by omega)).trans e1_457x1
  refine q_cq (va_runV (As := [.ref r_466x1]) (rest := []) ⟨hx, hb, hml, hown, hts⟩ (kJ4_append_S l E f_466x1 n_466x1 n b1_457x1 m1_457x1 r_466x1 2000 (((((((([] : List Int32) ++ kt 26) ++ W0) ++ kt (47 + s0)) ++ Y0) ++ kt 27) ++ W1) ++ kt (47 + s1)) Y1 hn_466x1 hb1_457x1_466x1 (by (try simp only [List.length_append, List.length_nil, List.length_cons, pT_len, ktl_0, ktl_1, ktl_2, ktl_3, ktl_4, ktl_5, ktl_6, ktl_7, ktl_8, ktl_9, ktl_10, ktl_11, ktl_12, ktl_13, ktl_14, ktl_15, ktl_16, ktl_17, ktl_18, ktl_19, ktl_20, ktl_21, ktl_22, ktl_23, ktl_24, ktl_25, ktl_26, ktl_27, ktl_28, ktl_29, ktl_30, ktl_31, ktl_32, ktl_33, ktl_34, ktl_35, ktl_36, ktl_37, ktl_38, ktl_39, ktl_40, ktl_41, ktl_42, ktl_43, ktl_44, ktl_45, ktl_46, ktl_47, ktl_48, ktl_49]); omega) (by omega) (by omega) (by first | assumption | decide) (by repeat (first | exact okb_nil | assumption | exact kt_okb (by omega) | exact okb_pT (by omega) | exact dg_ok _ (by omega) | exact okb_one (by omega) | apply okb_app)) (by repeat (first | exact okb_nil | assumption | exact kt_okb (by omega) | exact okb_pT (by omega) | exact dg_ok _ (by omega) | exact okb_one (by omega) | apply okb_app)) eT_466x1 (fun rb h9 => by have := ef_466x1 rb h9; omega)) (cwV 1 hts gX13_text_J4_append_15ec4 rfl rfl rfl (by decide +kernel) ⟨(Nat.le_of_ble_eq_true rfl), (Nat.le_of_ble_eq_true rfl)⟩) (q_pV hA hW hS (ci := 1) rfl hn_466x1) rfl rfl hl.1 rfl (lv_room (Nat.le_of_ble_eq_true rfl)) dX13_text_469 ⟨(by show _ ≤ 220 + 221 * bC L; omega), (by show _ ≤ 66000 + 70000 * bC L; omega)⟩) hS (fun r_469x1 f_469x1 n_469x1 H locs hp hW hS => ?_)
  obtain ⟨b1_469x1, m1_469x1, rfl, e0_469x1, e1_469x1, el_469x1, em4_469x1, eb_469x1, en_469x1, hfr_469x1⟩ := hp
  have l_e0_469x1 := hW.lt e0_469x1
  have l_e1_469x1 := hW.lt e1_469x1
  have ha_469x1 : f_469x1 a = some (cLA 9 (nI i) none (some sg) (some on) (some ot) (some b) none) := (hfr_469x1 _ (by omega) (by omega) (by omega)).trans ha_466x1
  have hsg_469x1 : f_469x1 sg = some (aI E 2 gs) := (hfr_469x1 _ (by omega) (by omega) (by omega)).trans hsg_466x1
  refine lv_pop hx hb dX13_text_472 rfl ?_
  refine lv_iinc (v := 2) (lv' := [(2, .int 2), (1, .ref n), (0, .ref a)]) hx hb dX13_text_473 hl (k := 0) rfl (by decide) (by decide) rfl (fun ls hl => ?_)
  refine lv_goto (tgt := 411) hx hb dX13_text_476 (by decide) ?_
  refine lv_iload_n hx hb dX13_text_411 rfl (lv_at hl 0 rfl) ?_
  refine lv_aload_n hx hb dX13_text_412 rfl (lv_at hl 2 rfl) ?_
  refine q_get hx hb hts hown hA hW iX13 ha_469x1 rfl 3 (by decide) (hts (.fieldLink RX13 7 "HighRecipesLaw$Act" "signs" "[I") (by decide +kernel)) (fun _ h9 => h9) (v := .ref sg) rfl dX13_text_413 ?_
  refine q_alen hx hb hA hW 0 rfl hsg_469x1 (v := 2) rfl dX13_text_416 ?_
  refine lv_icmp_ge (tgt := 479) hx hb dX13_text_417 (by decide) (fun c_417 => ?_) (fun c_417 => absurd c_417 (by decide))
  refine W.widen (k := 150) (n := 37220) (by omega) (by omega) ?_
  exact K479 f_469x1 n_469x1 b1_469x1 m1_469x1 ((((((((([] : List Int32) ++ kt 26) ++ W0) ++ kt (47 + s0)) ++ Y0) ++ kt 27) ++ W1) ++ kt (47 + s1)) ++ Y1) ha_469x1 e0_469x1 e1_469x1 (by first | assumption | omega) (by omega) (by simp only [List.length_append, List.length_nil, ktl_26, ktl_27, lk0, lk1]; omega) (by repeat (first | assumption | exact kt_okb (by decide) | exact kt_okb (by omega) | exact okb_nil | apply okb_app)) (by omega) (by omega) (by omega) rfl (fun z9 g0 => ((hfr_469x1 _ (by omega) (by omega) (by omega)).trans ((hfr_466x1 _ (by omega)).trans ((hfr_457x1 _ (by omega) (by omega) (by omega)).trans ((hfr_444x1 _ (by omega) (by omega) (by omega)).trans ((hfr_441x1 _ (by omega)).trans ((hfr_432x1 _ (by omega) (by omega) (by omega)).trans ((hfr_469 _ (by omega) (by omega) (by omega)).trans ((hfr_466 _ (by omega)).trans ((hfr_457 _ (by omega) (by omega) (by omega)).trans ((hfr_444 _ (by omega) (by omega) (by omega)).trans ((hfr_441 _ (by omega)).trans ((hfr_432 _ (by omega) (by omega) (by omega)).trans ((hfr_405 _ (by omega) (by omega)).trans (q_ne (by omega) rfl))))))))))))))) _ _ _ hW hS (lv_sub hl [2, 1] rfl)

