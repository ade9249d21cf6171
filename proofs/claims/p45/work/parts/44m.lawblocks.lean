set_option maxHeartbeats 4000000 in
set_option maxRecDepth 100000 in
theorem kX13_texts_4 (l : Launch) (E : q_E) (f : q_H) (n : Nat) (b pn R : Nat) (RS : Nat → q_S) (P : Nat → Prop) (L : List LT)  (hpn : pn ≤ 8) (hP : ∀ q, P q → q < n) (hR : R ≤ 6) (hL : LB P E f (LACT E pn R RS P f 4) b L) (hc : bC L ≤ 14) : Met l yX13_texts wsX13_texts ({ frames := 72, cells := 6 + 221 * bC L, slots := 6200 + 70000 * bC L, locals := 3400 }) (q_P E [.ref b] f n) (q_Qq E (fun r0 f1 n1 => ∃ (r : Nat), some r = r0 ∧ f1 r = some (cStr (r + 1)) ∧ f1 (r + 1) = some (aB E ((bT L).length) (tx (bT L))) ∧ n ≤ r ∧ n ≤ n1 ∧ ∀ z9, z9 < n → f1 z9 = f z9)) (6 + 221 * bC L) (6200 + 70000 * bC L) (q_ge E) := by
  refine Met.ofW (cc := cX13_texts) (maxL := 6) (ret := (some (.object "java/lang/String"))) (by decide) rfl ?_
  intro p0_ e0_ s0_ m0_ args0_ below0_ meth0_ c0_ s1_ B0_ hml hv
  obtain ⟨rfl, hA, hW⟩ := hv
  have hx := B0_.exec
  have hb := B0_.bytes
  have hr := B0_.returns
  have hts := atoms_spec (ws := wsX13_texts) B0_.pre
  have hown : s0_.vm.findClass RX13 = some m0_.cls := findClass_of_methodNamed B0_.named
  have hlocks := B0_.notSynchronized
  have hS : va_S (q_ge E) s0_.heap s0_.heap [] := va_S.rf
  have iJ4 : ∀ w ∈ wsJ40, w ∈ wsX13_texts := by decide +kernel
  have hl := lv_entry ([.ref b]) (n := 6) (Nat.le_of_ble_eq_true rfl)
  rw [lg_entry_eq]
  generalize (lg_sl ([.ref b]) ++ List.replicate (6 - (lg_sl ([.ref b])).length) Slot.unset).toArray = ls at hl ⊢
  have hl : lv_has ls 6 [(0, .ref b)] := hl
  have h1 := hL.2.1
  have l_h1 := hW.lt h1
  have hLn := bV_len (LACT.len hpn hR 4) L hL.2.2
  have lL := hLn.1
  have hm := bC_len L
  refine q_new (ci := 1) hx hb hts hown hA hW hS iJ4 tyJ4 tyJ4_ok (hts (.classLink RX13 61 RJ4) (by decide +kernel)) (hts (.instantiable RJ4 4) (by decide +kernel)) (hts (.initialized RJ4) (by decide +kernel)) rfl (fs := [.null, .int 0, .int 0, .int 0]) (by decide) (by show _ ≤ 6 + 221 * bC L; omega) (by show _ ≤ 6200 + 70000 * bC L; omega) dX13_texts_0 (fun H hW hS => ?_)
  have hW : q_W E (va_up f n (some (rSB none 0 0 0))) (n + 1) H := hW
  refine lv_dup hx hb dX13_texts_3 rfl ?_
  refine va_ldcS (own := "HighRecipesLaw$Act") hx hb hown (q_ldk hA (i := 5) (by decide)) dX13_texts_4 ?_
  refine q_cv (va_runI (As := [.ref (E.2.2.2 (200 + 5))]) (rest := [.ref n]) ⟨hx, hb, hml, hown, hts⟩ (kJ4_init_a7421 l E (va_up f n (some (rSB none 0 0 0))) (n + 1) n 5 q_eq (by omega)) (cwI 1 hts gX13_texts_J4_init_a7421 rfl rfl rfl (hts (.initialized RJ4) (by decide +kernel)) (hts (.methodLink RX13 65 yJ4_init_a7421) (by decide +kernel)) (hts (.instanceMethod yJ4_init_a7421) (by decide +kernel)) rfl (by decide +kernel) ⟨(Nat.le_of_ble_eq_true rfl), (Nat.le_of_ble_eq_true rfl)⟩) (q_pS hA hW hS) rfl rfl hl.1 rfl (lv_room (Nat.le_of_ble_eq_true rfl)) dX13_texts_6 ⟨(by show _ ≤ 6 + 221 * bC L; omega), (by show _ ≤ 6200 + 70000 * bC L; omega)⟩) hS (fun f_6 n_6 H locs hp hW hS => ?_)
  obtain ⟨b1_6, m1_6, e0_6, e1_6, el_6, em4_6, eb_6, en_6, hfr_6⟩ := hp
  have l_e0_6 := hW.lt e0_6
  have l_e1_6 := hW.lt e1_6
  have hb_6 : f_6 b = some (aQ E 6 L.length (lf L)) := (hfr_6 _ (by omega) (by omega)).trans (q_ne (by omega) h1)
  refine lv_astore_n (lv' := [(1, .ref n), (0, .ref b)]) hx hb dX13_texts_9 rfl hl (by decide) rfl (fun ls hl => ?_)
  refine lv_aload_n hx hb dX13_texts_10 rfl (lv_at hl 1 rfl) ?_
  refine lv_astore_n (lv' := [(2, .ref b), (1, .ref n), (0, .ref b)]) hx hb dX13_texts_11 rfl hl (by decide) rfl (fun ls hl => ?_)
  refine lv_aload_n hx hb dX13_texts_12 rfl (lv_at hl 0 rfl) ?_
  refine q_alen hx hb hA hW 6 rfl hb_6 (v := nI L.length) rfl dX13_texts_13 ?_
  refine lv_istore_n (lv' := [(3, .int (nI L.length)), (2, .ref b), (1, .ref n), (0, .ref b)]) hx hb dX13_texts_14 rfl hl (by decide) rfl (fun ls hl => ?_)
  refine lv_iconst (v := 0) hx hb dX13_texts_15 (by decide) ?_
  refine lv_istore (lv' := [(4, .int 0), (3, .int (nI L.length)), (2, .ref b), (1, .ref n), (0, .ref b)]) hx hb dX13_texts_16 hl (by decide) rfl (fun ls hl => ?_)
  have K18 : ∀ (fu : Nat) (F : q_H) (N : Nat) (i : Nat) (sb : Nat) (bb : Nat) (mm : Nat) (hbF : F b = some (aQ E 6 L.length (lf L))) (hsb : F sb = some (cSB bb (nI (kt 5 ++ bV (L.take i)).length))) (hbb : F bb = some (aB E mm (tx (kt 5 ++ bV (L.take i))))) (hlm : (kt 5 ++ bV (L.take i)).length ≤ mm) (hmm : mm ≤ 4000) (hi : i ≤ L.length) (hns : n ≤ sb) (hnb : n ≤ bb) (hsN : sb < N) (hbN : bb < N) (hfr_K18 : ∀ z9, z9 < n → F z9 = f z9) (hm : L.length - i < fu) (H : Heap) (locs : List Loc) (ls : Array Slot), q_W E (F) N H → va_S (q_ge E) s0_.heap H locs → lv_has ls 6 [(1, .ref sb), (2, .ref b), (3, .int (nI L.length)), (4, .int (nI i))] → W p0_ l e0_ (headSpec wsX13_texts ({ frames := 72, cells := 6 + 221 * bC L, slots := 6200 + 70000 * bC L, locals := 3400 })).room s0_ m0_ ([.ref b] : List Value).toArray below0_ meth0_ c0_ H locs (3 + 221 * bC (L.take i)) (140 + 70000 * bC (L.take i)) (MQ below0_ (q_Qq E (fun r0 f1 n1 => ∃ (r : Nat), some r = r0 ∧ f1 r = some (cStr (r + 1)) ∧ f1 (r + 1) = some (aB E ((bT L).length) (tx (bT L))) ∧ n ≤ r ∧ n ≤ n1 ∧ ∀ z9, z9 < n → f1 z9 = f z9)) ([.ref b] : List Value).toArray s0_ (6 + 221 * bC L) (6200 + 70000 * bC L) (q_ge E)) (F0 m0_ 18 ls []) := by
    intro fu
    induction fu with
    | zero =>
      intro F N i sb bb mm hbF hsb hbb hlm hmm hi hns hnb hsN hbN hfr_K18 hm
      exact absurd hm (Nat.not_lt_zero _)
    | succ fu ih =>
      intro F N i sb bb mm hbF hsb hbb hlm hmm hi hns hnb hsN hbN hfr_K18 hm H locs ls hW hS hl
      refine lv_iload hx hb dX13_texts_18 (lv_at hl 3 rfl) ?_
      refine lv_iload_n hx hb dX13_texts_20 rfl (lv_at hl 2 rfl) ?_
      refine lv_icmp_ge (tgt := 46) hx hb dX13_texts_21 (by decide) (fun c_21 => ?_) (fun c_21 => ?_)
      · have hle : i = L.length := Nat.le_antisymm hi (q_leN (by omega) c_21)
        have hbc9 : bC (L.take i) = bC L := by rw [hle, List.take_length]
        refine lv_aload_n hx hb dX13_texts_46 rfl (lv_at hl 0 rfl) ?_
        refine va_ldcS (own := "HighRecipesLaw$Act") hx hb hown (q_ldk hA (i := 29) (by decide)) dX13_texts_47 ?_
        refine q_cq (va_runV (As := [.ref (E.2.2.2 (200 + 29))]) (rest := []) ⟨hx, hb, hml, hown, hts⟩ (kJ4_append_k l E F N sb bb mm 29 2000 (kt 5 ++ bV (L.take i)) hsb hbb (by have h7 := bC_take (L := L) i; have h8 := (bV_len (LACT.len hpn hR 4) (L.take i) (fun x hx => hL.2.2 x (List.mem_of_mem_take hx))).1; (try simp only [List.length_append, ktl_5, ktl_29]); omega) (by omega) (by omega) (by first | assumption | decide) (by have h8 := (bV_len (LACT.len hpn hR 4) (L.take i) (fun x hx => hL.2.2 x (List.mem_of_mem_take hx))).2; repeat (first | assumption | exact kt_okb (by decide) | apply okb_app)) (by omega)) (cwV 1 hts gX13_texts_J4_append_15ec4 rfl rfl rfl (by decide +kernel) ⟨(Nat.le_of_ble_eq_true rfl), (Nat.le_of_ble_eq_true rfl)⟩) (q_pV hA hW hS (ci := 1) rfl hsb) rfl rfl hl.1 rfl (lv_room (Nat.le_of_ble_eq_true rfl)) dX13_texts_49 ⟨(by show _ ≤ 6 + 221 * bC L; omega), (by show _ ≤ 6200 + 70000 * bC L; omega)⟩) hS (fun r_49 f_49 n_49 H locs hp hW hS => ?_)
        obtain ⟨b1_49, m1_49, rfl, e0_49, e1_49, el_49, em4_49, eb_49, en_49, hfr_49⟩ := hp
        have l_e0_49 := hW.lt e0_49
        have l_e1_49 := hW.lt e1_49
        have hb_49 : f_49 b = some (aQ E 6 L.length (lf L)) := (hfr_49 _ (by omega) (by omega) (by omega)).trans hbF
        refine q_cq (va_runV (As := []) (rest := []) ⟨hx, hb, hml, hown, hts⟩ (kJ4_toString_0e30d l E f_49 n_49 sb b1_49 m1_49 2000 ((kt 5 ++ bV (L.take i)) ++ kt 29) e0_49 e1_49 (by assumption) (by omega) (by have h7 := bC_take (L := L) i; have h8 := (bV_len (LACT.len hpn hR 4) (L.take i) (fun x hx => hL.2.2 x (List.mem_of_mem_take hx))).1; (try simp only [List.length_append, ktl_5, ktl_29]); omega) (by omega) (okb_app (by have h8 := (bV_len (LACT.len hpn hR 4) (L.take i) (fun x hx => hL.2.2 x (List.mem_of_mem_take hx))).2; repeat (first | assumption | exact kt_okb (by decide) | apply okb_app)) (kt_okb (by decide)))) (cwV 0 hts gX13_texts_J4_toString_0e30d rfl rfl rfl (by decide +kernel) ⟨(Nat.le_of_ble_eq_true rfl), (Nat.le_of_ble_eq_true rfl)⟩) (q_pV hA hW hS (ci := 1) rfl e0_49) rfl rfl hl.1 rfl (lv_room (Nat.le_of_ble_eq_true rfl)) dX13_texts_52 ⟨(by show _ ≤ 6 + 221 * bC L; omega), (by show _ ≤ 6200 + 70000 * bC L; omega)⟩) hS (fun r_52 f_52 n_52 H locs hp hW hS => ?_)
        obtain ⟨rfl, e0_52, e1_52, en_52, hfr_52⟩ := hp
        have l_e0_52 := hW.lt e0_52
        have l_e1_52 := hW.lt e1_52
        have hb_52 : f_52 b = some (aQ E 6 L.length (lf L)) := (hfr_52 _ (by omega)).trans hb_49
        have hsb_52 : f_52 sb = some (cSB b1_49 (nI ((kt 5 ++ bV (L.take i)) ++ kt 29).length)) := (hfr_52 _ (by omega)).trans e0_49
        have hb1_49_52 : f_52 b1_49 = some (aB E m1_49 (tx ((kt 5 ++ bV (L.take i)) ++ kt 29))) := (hfr_52 _ (by omega)).trans e1_49
        exact q_aret (v := some n_49) hx hb hr (Or.inl ⟨_, rfl⟩) hlocks hW hS ⟨n_49, rfl, e0_52, (by rw [hle, List.take_length] at e1_52; exact e1_52), (by omega), (by omega), (fun q g0 => ((hfr_52 _ (by omega)).trans ((hfr_49 _ (by omega) (by omega) (by omega)).trans ((hfr_K18 _ (by omega)).trans rfl))))⟩ (by show _ ≤ 6 + 221 * bC L; omega) (by show _ ≤ 6200 + 70000 * bC L; omega) dX13_texts_55
      · have hlt : i < L.length := q_gtn (by omega) c_21
        obtain ⟨x, hxi⟩ : ∃ x, L[i]? = some x := ⟨_, List.getElem?_eq_getElem hlt⟩
        have hxL : x ∈ L := List.mem_of_getElem? hxi
        have hxA : LACT E pn R RS P F 4 x := LACT.to (fun q hq => have h8 := hP q hq; ⟨hq, hfr_K18 q h8⟩) (Nat.le_refl _) (fun _ _ => rfl) 4 x (hL.2.2 x hxL)
        obtain ⟨do9, wh9, va9, sg9, on9, ot9, b9, el9, hcx⟩ := hxA.cell
        have l_x := hW.lt hcx
        have hts9 := take_s hxi
        have hbc : bC (L.take (i + 1)) = bC (L.take i) + 1 + x.2.2.2 := by rw [hts9, bC_app]
        have hbl := bC_take (L := L) (i + 1)
        have hxl := LACT.len hpn hR 4 x hxA
        have lx := hxl.1
        have ox := hxl.2
        refine lv_aload_n hx hb dX13_texts_24 rfl (lv_at hl 1 rfl) ?_
        refine lv_iload hx hb dX13_texts_25 (lv_at hl 3 rfl) ?_
        refine q_aald hx hb hA hW 6 rfl hbF (vp_in_nI hlt (by omega)) dX13_texts_27 ?_
        rw [show lf L (nI i).toNatClampNeg = some x.1 from by rw [nI_clamp (by omega)]; unfold lf; rw [hxi]; rfl]
        refine lv_astore (lv' := [(5, .ref x.1), (1, .ref sb), (2, .ref b), (3, .int (nI L.length)), (4, .int (nI i))]) hx hb dX13_texts_28 hl (by decide) rfl (fun ls hl => ?_)
        refine lv_aload_n hx hb dX13_texts_30 rfl (lv_at hl 1 rfl) ?_
        refine lv_aload hx hb dX13_texts_31 (lv_at hl 0 rfl) ?_
        refine q_cq (va_runV (As := []) (rest := [.ref sb]) ⟨hx, hb, hml, hown, hts⟩ (kX13_text_d4 l E F N pn R RS P x hpn (fun q hq => by have := hP q hq; omega) hR hxA (by omega)) (cwV 0 hts gX13_texts_X13_text rfl rfl rfl (by decide +kernel) ⟨(Nat.le_of_ble_eq_true rfl), (Nat.le_of_ble_eq_true rfl)⟩) (q_pV hA hW hS (ci := 13) rfl hcx) rfl rfl hl.1 rfl (lv_room (Nat.le_of_ble_eq_true rfl)) dX13_texts_33 ⟨(by show _ ≤ 6 + 221 * bC L; omega), (by show _ ≤ 6200 + 70000 * bC L; omega)⟩) hS (fun r_33 f_33 n_33 H locs hp hW hS => ?_)
        obtain ⟨r_33, rfl, e0_33, e1_33, er_33, en_33, hfr_33⟩ := hp
        have l_e0_33 := hW.lt e0_33
        have l_e1_33 := hW.lt e1_33
        have hb_33 : f_33 b = some (aQ E 6 L.length (lf L)) := (hfr_33 _ (by omega)).trans hbF
        have hsb_33 : f_33 sb = some (cSB bb (nI (kt 5 ++ bV (L.take i)).length)) := (hfr_33 _ (by omega)).trans hsb
        have hbb_33 : f_33 bb = some (aB E mm (tx (kt 5 ++ bV (L.take i)))) := (hfr_33 _ (by omega)).trans hbb
        have hx_1_33 : f_33 x.1 = some (cLA do9 wh9 va9 (some sg9) (some on9) (some ot9) (some b9) el9) := (hfr_33 _ (by omega)).trans hcx
        refine q_cq (va_runV (As := [.ref r_33]) (rest := []) ⟨hx, hb, hml, hown, hts⟩ (kJ4_append_15ec4 l E f_33 n_33 sb bb mm r_33 (r_33 + 1) 2000 (kt 5 ++ bV (L.take i)) x.2.2.1 hsb_33 hbb_33 e0_33 e1_33 (by have h7 := bC_take (L := L) i; have h8 := (bV_len (LACT.len hpn hR 4) (L.take i) (fun x hx => hL.2.2 x (List.mem_of_mem_take hx))).1; (try simp only [List.length_append, ktl_5, ktl_29]); omega) (by omega) (by omega) (by first | assumption | decide) (by have h8 := (bV_len (LACT.len hpn hR 4) (L.take i) (fun x hx => hL.2.2 x (List.mem_of_mem_take hx))).2; repeat (first | assumption | exact kt_okb (by decide) | apply okb_app)) ox (by omega)) (cwV 1 hts gX13_texts_J4_append_15ec4 rfl rfl rfl (by decide +kernel) ⟨(Nat.le_of_ble_eq_true rfl), (Nat.le_of_ble_eq_true rfl)⟩) (q_pV hA hW hS (ci := 1) rfl hsb_33) rfl rfl hl.1 rfl (lv_room (Nat.le_of_ble_eq_true rfl)) dX13_texts_36 ⟨(by show _ ≤ 6 + 221 * bC L; omega), (by show _ ≤ 6200 + 70000 * bC L; omega)⟩) hS (fun r_36 f_36 n_36 H locs hp hW hS => ?_)
        obtain ⟨b1_36, m1_36, rfl, e0_36, e1_36, el_36, em4_36, eb_36, en_36, hfr_36⟩ := hp
        have l_e0_36 := hW.lt e0_36
        have l_e1_36 := hW.lt e1_36
        have hb_36 : f_36 b = some (aQ E 6 L.length (lf L)) := (hfr_36 _ (by omega) (by omega) (by omega)).trans hb_33
        have hr_33_36 : f_36 r_33 = some (cStr (r_33 + 1)) := (hfr_36 _ (by omega) (by omega) (by omega)).trans e0_33
        have hr_33___1_36 : f_36 (r_33 + 1) = some (aB E x.2.2.1.length (tx x.2.2.1)) := (hfr_36 _ (by omega) (by omega) (by omega)).trans e1_33
        refine lv_pop hx hb dX13_texts_39 rfl ?_
        refine lv_iinc (v := nI (i + 1)) (lv' := [(4, .int (nI (i + 1))), (5, .ref x.1), (1, .ref sb), (2, .ref b), (3, .int (nI L.length))]) hx hb dX13_texts_40 hl (k := 4) rfl (nI_1 i) (by decide) rfl (fun ls hl => ?_)
        refine lv_goto (tgt := 18) hx hb dX13_texts_43 (by decide) ?_
        refine w_eqc (c2 := 3 + 221 * bC (L.take (i + 1))) (s2 := 140 + 70000 * bC (L.take (i + 1))) (by omega) (by omega) ?_
        exact ih f_36 n_36 (i + 1) sb b1_36 m1_36 hb_36 (by rw [(show (kt 5 ++ bV (L.take (i + 1))) = (kt 5 ++ bV (L.take i)) ++ x.2.2.1 by rw [hts9, bV_app]; show kt 5 ++ (bV (L.take i) ++ (x.2.2.1 ++ [])) = _; rw [List.append_nil, List.append_assoc])]; exact e0_36) (by rw [(show (kt 5 ++ bV (L.take (i + 1))) = (kt 5 ++ bV (L.take i)) ++ x.2.2.1 by rw [hts9, bV_app]; show kt 5 ++ (bV (L.take i) ++ (x.2.2.1 ++ [])) = _; rw [List.append_nil, List.append_assoc])]; exact e1_36) (by rw [(show (kt 5 ++ bV (L.take (i + 1))) = (kt 5 ++ bV (L.take i)) ++ x.2.2.1 by rw [hts9, bV_app]; show kt 5 ++ (bV (L.take i) ++ (x.2.2.1 ++ [])) = _; rw [List.append_nil, List.append_assoc])]; assumption) (by omega) hlt (by omega) (by omega) (by omega) (by omega) (fun z9 g0 => ((hfr_36 _ (by omega) (by omega) (by omega)).trans ((hfr_33 _ (by omega)).trans ((hfr_K18 _ (by omega)).trans rfl)))) (by omega) _ _ _ hW hS (lv_sub hl [2, 3, 4, 0] rfl)
  have ebz : bC (L.take 0) = 0 := by rw [List.take_zero]; rfl
  refine w_eqc (c2 := 3 + 221 * bC (L.take 0)) (s2 := 140 + 70000 * bC (L.take 0)) (by omega) (by omega) ?_
  exact K18 _ f_6 n_6 0 n b1_6 m1_6 hb_6 (show _ = some (cSB _ (nI (kt 5 ++ bV (L.take 0)).length)) from (by rw [List.take_zero]; show _ = some (cSB _ (nI (kt 5 ++ []).length)); rw [List.append_nil]; exact e0_6)) (show _ = some (aB E _ (tx (kt 5 ++ bV (L.take 0)))) from (by rw [List.take_zero]; show _ = some (aB E _ (tx (kt 5 ++ []))); rw [List.append_nil]; exact e1_6)) (by rw [List.take_zero]; show (kt 5 ++ []).length ≤ _; rw [List.append_nil]; assumption) (by omega) (Nat.zero_le _) (by omega) (by omega) (by omega) (by omega) (fun z9 g0 => ((hfr_6 _ (by omega) (by omega)).trans (q_ne (by omega) rfl))) (Nat.lt_succ_self _) _ _ _ hW hS (lv_sub hl [3, 2, 1, 0] rfl)

