set_option maxHeartbeats 4000000 in
set_option maxRecDepth 100000 in
theorem kX13_texts_3 (l : Launch) (E : q_E) (f : q_H) (n : Nat) (b pn R : Nat) (RS : Nat → q_S) (P : Nat → Prop) (L : List LT)  (hpn : pn ≤ 8) (hP : ∀ q, P q → q < n) (hR : R ≤ 6) (hL : LB P E f (LACT E pn R RS P f 3) b L) (hc : bC L ≤ 14) : Met l yX13_texts wsX13_texts ({ frames := 64, cells := 6 + 221 * bC L, slots := 6200 + 70000 * bC L, locals := 3200 }) (q_P E [.ref b] f n) (q_Qq E (fun r0 f1 n1 => ∃ (r : Nat), some r = r0 ∧ f1 r = some (cStr (r + 1)) ∧ f1 (r + 1) = some (aB E ((bT L).length) (tx (bT L))) ∧ n ≤ r ∧ n ≤ n1 ∧ ∀ z9, z9 < n → f1 z9 = f z9)) (6 + 221 * bC L) (6200 + 70000 * bC L) (q_ge E) := by
  refine Met.ofW (cc := cX13_texts) (maxL := 6) (ret := (some (.object "java/lang/String"))) (by decide) rfl ?_
  intro p0_ e0_ s0_ m0_ args0_ below0_ meth0_ c0_ s1_ B0_ hml hv
  obtain ⟨rfl, hA, hW⟩ := hv
  have hx := B0_.exec
  have hb := B0_.bytes
  have hr := B0_.returns
  have hts := atoms_spec (ws := wsX13_texts) B0_.pre
  have hown : s0_.vm.findClass RX13 = some m0_.cls := findClass_of_methodNamed B0_.named
  have hlocks := B0_.notSynchronized
  have hS : va_S (q_ge E) s0_.heap s0_.heap [] := va_S.rf
  have iJ4 : ∀ w ∈ wsJ40, w ∈ wsX13_texts := by decide +kernel
  have hl := lv_entry ([.ref b]) (n := 6) (Nat.le_of_ble_eq_true rfl)
  rw [lg_entry_eq]
  generalize (lg_sl ([.ref b]) ++ List.replicate (6 - (lg_sl ([.ref b])).length) Slot.unset).toArray = ls at hl ⊢
  have hl : lv_has ls 6 [(0, .ref b)] := hl
  have h1 := hL.2.1
  have l_h1 := hW.lt h1
  have hLn := bV_len (LACT.len hpn hR 3) L hL.2.2
  have lL := hLn.1
  have hm := bC_len L
  refine q_new (ci := 1) hx hb hts hown hA hW hS iJ4 tyJ4 tyJ4_ok (hts (.classLink RX13 61 RJ4) (by decide +kernel)) (hts (.instantiable RJ4 4) (by decide +kernel)) (hts (.initialized RJ4) (by decide +kernel)) rfl (fs := [.null, .int 0, .int 0, .int 0]) (by decide) (by show _ ≤ 6 + 221 * bC L; omega) (by show _ ≤ 6200 + 70000 * bC L; omega) dX13_texts_0 (fun H hW hS => ?_)
  have hW : q_W E (va_up f n (some (rSB none 0 0 0))) (n + 1) H := hW
  refine lv_dup hx hb dX13_texts_3 rfl ?_
  refine va_ldcS (own := "HighRecipesLaw$Act") hx hb hown (q_ldk hA (i := 5) (by decide)) dX13_texts_4 ?_
  refine q_cv (va_runI (As := [.ref (E.2.2.2 (200 + 5))]) (rest := [.ref n]) ⟨hx, hb, hml, hown, hts⟩ (kJ4_init_a7421 l E (va_up f n (some (rSB none 0 0 0))) (n + 1) n 5 q_eq (by omega)) (cwI 1 hts gX13_texts_J4_init_a7421 rfl rfl rfl (hts (.initialized RJ4) (by decide +kernel)) (hts (.methodLink RX13 65 yJ4_init_a7421) (by decide +kernel)) (hts (.instanceMethod yJ4_init_a7421) (by decide +kernel)) rfl (by decide +kernel) ⟨(Nat.le_of_ble_eq_true rfl), (Nat.le_of_ble_eq_true rfl)⟩) (q_pS hA hW hS) rfl rfl hl.1 rfl (lv_room (Nat.le_of_ble_eq_true rfl)) dX13_texts_6 ⟨(by show _ ≤ 6 + 221 * bC L; omega), (by show _ ≤ 6200 + 70000 * bC L; omega)⟩) hS (fun f_6 n_6 H locs hp hW hS => ?_)
  obtain ⟨b1_6, m1_6, e0_6, e1_6, el_6, em4_6, eb_6, en_6, hfr_6⟩ := hp
  have l_e0_6 := hW.lt e0_6
  have l_e1_6 := hW.lt e1_6
  have hb_6 : f_6 b = some (aQ E 6 L.length (lf L)) := (hfr_6 _ (by omega) (by omega)).trans (q_ne (by omega) h1)
  refine lv_astore_n (lv' := [(1, .ref n), (0, .ref b)]) hx hb dX13_texts_9 rfl hl (by decide) rfl (fun ls hl => ?_)
  refine lv_aload_n hx hb dX13_texts_10 rfl (lv_at hl 1 rfl) ?_
  refine lv_astore_n (lv' := [(2, .ref b), (1, .ref n), (0, .ref b)]) hx hb dX13_texts_11 rfl hl (by decide) rfl (fun ls hl => ?_)
  refine lv_aload_n hx hb dX13_texts_12 rfl (lv_at hl 0 rfl) ?_
  refine q_alen hx hb hA hW 6 rfl hb_6 (v := nI L.length) rfl dX13_texts_13 ?_
  refine lv_istore_n (lv' := [(3, .int (nI L.length)), (2, .ref b), (1, .ref n), (0, .ref b)]) hx hb dX13_texts_14 rfl hl (by decide) rfl (fun ls hl => ?_)
  refine lv_iconst (v := 0) hx hb dX13_texts_15 (by decide) ?_
  refine lv_istore (lv' := [(4, .int 0), (3, .int (nI L.length)), (2, .ref b), (1, .ref n), (0, .ref b)]) hx hb dX13_texts_16 hl (by decide) rfl (fun ls hl => ?_)
  have K18 : ∀ (fu : Nat) (F : q_H) (N : Nat) (i : Nat) (sb : Nat) (bb : Nat) (mm : Nat) (hbF : F b = some (aQ E 6 L.length (lf L))) (hsb : F sb = some (cSB bb (nI (kt 5 ++ bV (L.take i)).length))) (hbb : F bb = some (aB E mm (tx (kt 5 ++ bV (L.take i))))) (hlm : (kt 5 ++ bV (L.take i)).length ≤ mm) (hmm : mm ≤ 4000) (hi : i ≤ L.length) (hns : n ≤ sb) (hnb : n ≤ bb) (hsN : sb < N) (hbN : bb < N) (hfr_K18 : ∀ z9, z9 < n → F z9 = f z9) (hm : L.length - i < fu) (H : Heap) (locs : List Loc) (ls : Array Slot), q_W E (F) N H → va_S (q_ge E) s0_.heap H locs → lv_has ls 6 [(1, .ref sb), (2, .ref b), (3, .int (nI L.length)), (4, .int (nI i))] → W p0_ l e0_ (headSpec wsX13_texts ({ frames := 64, cells := 6 + 221 * bC L, slots := 6200 + 70000 * bC L, locals := 3200 })).room s0_ m0_ ([.ref b] : List Value).toArray below0_ meth0_ c0_ H locs (3 + 221 * bC (L.take i)) (140 + 70000 * bC (L.take i)) (MQ below0_ (q_Qq E (fun r0 f1 n1 => ∃ (r : Nat), some r = r0 ∧ f1 r = some (cStr (r + 1)) ∧ f1 (r + 1) = some (aB E ((bT L).length) (tx (bT L))) ∧ n ≤ r ∧ n ≤ n1 ∧ ∀ z9, z9 < n → f1 z9 = f z9)) ([.ref b] : List Value).toArray s0_ (6 + 221 * bC L) (6200 + 70000 * bC L) (q_ge E)) (F0 m0_ 18 ls []) := by
    intro fu
    induction fu with
    | zero =>
      intro F N i sb bb mm hbF hsb hbb hlm hmm hi hns hnb hsN hbN hfr_K18 hm
      exact absurd hm (Nat.not_lt_zero _)
    | succ fu ih =>
      intro F N i sb bb mm hbF hsb hbb hlm hmm hi hns hnb hsN hbN hfr_K18 hm H locs ls hW hS hl
      refine lv_iload hx hb dX13_texts_18 (lv_at hl 3 rfl) ?_
      refine lv_iload_n hx hb dX13_texts_20 rfl (lv_at hl 2 rfl) ?_
      refine lv_icmp_ge (tgt := 46) hx hb dX13_texts_21 (by decide) (fun c_21 => ?_) (fun c_21 => ?_)
      · have hle : i = L.length := Nat.le_antisymm hi (q_leN (by omega) c_21)
        have hbc9 : bC (L.take i) = bC L := by rw [hle, List.take_length]
        refine lv_aload_n hx hb dX13_texts_46 rfl (lv_at hl 0 rfl) ?_
        refine va_ldcS (own := "HighRecipesLaw$Act") hx hb hown (q_ldk hA (i := 29) (by decide)) dX13_texts_47 ?_
        refine q_cq (va_runV (As := [.ref (E.2.2.2 (200 + 29))]) (rest := []) ⟨hx, hb, hml, hown, hts⟩ (kJ4_append_k l E F N sb bb mm 29 2000 (kt 5 ++ bV (L.take i)) hsb hbb (by have h7 := bC_take (L := L) i; have h8 := (bV_len (LACT.len hpn hR 3) (L.take i) (fun x hx => hL.2.2 x (List.mem_of_mem_take hx))).1; (try simp only [List.length_append, ktl_5, ktl_29]); omega) (by omega) (by omega) (by first | assumption | decide) (by have h8 := (bV_len (LACT.len hpn hR 3) (L.take i) (fun x hx => hL.2.2 x (List.mem_of_mem_take hx))).2; repeat (first | assumption | exact kt_okb (by decide) | apply okb_app)) (by omega)) (cwV 1 hts gX13_texts_J4_append_15ec4 rfl rfl rfl (by decide +kernel) ⟨(Nat.le_of_ble_eq_true rfl), (Nat.le_of_ble_eq_true rfl)⟩) (q_pV hA hW hS (ci := 1) rfl hsb) rfl rfl hl.1 rfl (lv_room (Nat.le_of_ble_eq_true rfl)) dX13_texts_49 ⟨(by show _ ≤ 6 + 221 * bC L; omega), (by show _ ≤ 6200 + 70000 * bC L; omega)⟩) hS (fun r_49 f_49 n_49 H locs hp hW hS => ?_)
        obtain ⟨b1_49, m1_49, rfl, e0_49, e1_49, el_49, em4_49, eb_49, en_49, hfr_49⟩ := hp
        have l_e0_49 := hW.lt e0_49
        have l_e1_49 := hW.lt e1_49
        have hb_49 : f_49 b = some (aQ E 6 L.length (lf L)) := (hfr_49 _ (by omega) (by omega) (by omega)).trans hbF
        refine q_cq (va_runV (As := []) (rest := []) ⟨hx, hb, hml, hown, hts⟩ (kJ4_toString_0e30d l E f_49 n_49 sb b1_49 m1_49 2000 ((kt 5 ++ bV (L.take i)) ++ kt 29) e0_49 e1_49 (by assumption) (by omega) (by have h7 := bC_take (L := L) i; have h8 := (bV_len (LACT.len hpn hR 3) (L.take i) (fun x hx => hL.2.2 x (List.mem_of_mem_take hx))).1; (try simp only [List.length_append, ktl_5, ktl_29]); omega) (by omega) (okb_app (by have h8 := (bV_len (LACT.len hpn hR 3) (L.take i) (fun x hx => hL.2.2 x (List.mem_of_mem_take hx))).2; repeat (first | assumption | exact kt_okb (by decide) | apply okb_app)) (kt_okb (by decide)))) (cwV 0 hts gX13_texts_J4_toString_0e30d rfl rfl rfl (by decide +kernel) ⟨(Nat.le_of_ble_eq_true rfl), (Nat.le_of_ble_eq_true rfl)⟩) (q_pV hA hW hS (ci := 1) rfl e0_49) rfl rfl hl.1 rfl (lv_room (Nat.le_of_ble_eq_true rfl)) dX13_texts_52 ⟨(by show _ ≤ 6 + 221 * bC L; omega), (by show _ ≤ 6200 + 70000 * bC L; omega)⟩) hS (fun r_52 f_52 n_52 H locs hp hW hS => ?_)
        obtain ⟨rfl, e0_52, e1_52, en_52, hfr_52⟩ := hp
        have l_e0_52 := hW.lt e0_52
        have l_e1_52 := hW.lt e1_52
        have hb_52 : f_52 b = some (aQ E 6 L.length (lf L)) := (hfr_52 _ (by omega)).trans hb_49
        have hsb_52 : f_52 sb = some (cSB b1_49 (nI ((kt 5 ++ bV (L.take i)) ++ kt 29).length)) := (hfr_52 _ (by omega)).trans e0_49
        have hb1_49_52 : f_52 b1_49 = some (aB E m1_49 (tx ((kt 5 ++ bV (L.take i)) ++ kt 29))) := (hfr_52 _ (by omega)).trans e1_49
        exact q_aret (v := some n_49) hx hb hr (Or.inl ⟨_, rfl⟩) hlocks hW hS ⟨n_49, rfl, e0_52, (by rw [hle, List.take_length] at e1_52; exact e1_52), (by omega), (by omega), (fun q g0 => ((hfr_52 _ (by omega)).trans ((hfr_49 _ (by omega) (by omega) (by omega)).trans ((hfr_K18 _ (by omega)).trans rfl))))⟩ (by show _ ≤ 6 + 221 * bC L; omega) (by show _ ≤ 6200 + 70000 * bC L; omega) dX13_texts_55
      · have hlt : i < L.length := q_gtn (by omega) c_21
        obtain ⟨x, hxi⟩ : ∃ x, L[i]? = some x := ⟨_, List.getElem?_eq_getElem hlt⟩
        have hxL : x ∈ L := List.mem_of_getElem? hxi
        have hxA : LACT E pn R RS P F 3 x := LACT.to (fun q hq => have h8 := hP q hq; ⟨hq, hfr_K18 q h8⟩) (Nat.le_refl _) (fun _ _ => rfl) 3 x (hL.2.2 x hxL)
        obtain ⟨do9, wh9, va9, sg9, on9, ot9, b9, el9, hcx⟩ := hxA.cell
        have l_x := hW.lt hcx
        have hts9 := take_s hxi
        have hbc : bC (L.take (i + 1)) = bC (L.take i) + 1 + x.2.2.2 := by rw [hts9, bC_app]
        have hbl := bC_take (L := L) (i + 1)
        have hxl := LACT.len hpn hR 3 x hxA
        have lx := hxl.1
        have ox := hxl.2
        refine lv_aload_n hx hb dX13_texts_24 rfl (lv_at hl 1 rfl) ?_
        refine lv_iload hx hb dX13_texts_25 (lv_at hl 3 rfl) ?_
        refine q_aald hx hb hA hW 6 rfl hbF (vp_in_nI hlt (by omega)) dX13_texts_27 ?_
        rw [show lf L (nI i).toNatClampNeg = some x.1 from by rw [nI_clamp (by omega)]; unfold lf; rw [hxi]; rfl]
        refine lv_astore (lv' := [(5, .ref x.1), (1, .ref sb), (2, .ref b), (3, .int (nI L.length)), (4, .int (nI i))]) hx hb dX13_texts_28 hl (by decide) rfl (fun ls hl => ?_)
        refine lv_aload_n hx hb dX13_texts_30 rfl (lv_at hl 1 rfl) ?_
        refine lv_aload hx hb dX13_texts_31 (lv_at hl 0 rfl) ?_
        refine q_cq (va_runV (As := []) (rest := [.ref sb]) ⟨hx, hb, hml, hown, hts⟩ (kX13_text_d3 l E F N pn R RS P x hpn (fun q hq => by have := hP q hq; omega) hR hxA (by omega)) (cwV 0 hts gX13_texts_X13_text rfl rfl rfl (by decide +kernel) ⟨(Nat.le_of_ble_eq_true rfl), (Nat.le_of_ble_eq_true rfl)⟩) (q_pV hA hW hS (ci := 13) rfl hcx) rfl rfl hl.1 rfl (lv_room (Nat.le_of_ble_eq_true rfl)) dX13_texts_33 ⟨(by show _ ≤ 6 + 221 * bC L; omega), (by show _ ≤ 6200 + 70000 * bC L; omega)⟩) hS (fun r_33 f_33 n_33 H locs hp hW hS => ?_)
        obtain ⟨r_33, rfl, e0_33, e1_33, er_33, en_33, hfr_33⟩ := hp
        have l_e0_33 := hW.lt e0_33
        have l_e1_33 := hW.lt e1_33
        have hb_33 : f_33 b = some (aQ E 6 L.length (lf L)) := (hfr_33 _ (by omega)).trans hbF
        have hsb_33 : f_33 sb = some (cSB bb (nI (kt 5 ++ bV (L.take i)).length)) := (hfr_33 _ (by omega)).trans hsb
        have hbb_33 : f_33 bb = some (aB E mm (tx (kt 5 ++ bV (L.take i)))) := (hfr_33 _ (by omega)).trans hbb
        have hx_1_33 : f_33 x.1 = some (cLA do9 wh9 va9 (some sg9) (some on9) (some ot9) (some b9) el9) := (hfr_33 _ (by omega)).trans hcx
        refine q_cq (va_runV (As := [.ref r_33]) (rest := []) ⟨hx, hb, hml, hown, hts⟩ (kJ4_append_15ec4 l E f_33 n_33 sb bb mm r_33 (r_33 + 1) 2000 (kt 5 ++ bV (L.take i)) x.2.2.1 hsb_33 hbb_33 e0_33 e1_33 (by have h7 := bC_take (L := L) i; have h8 := (bV_len (LACT.len hpn hR 3) (L.take i) (fun x hx => hL.2.2 x (List.mem_of_mem_take hx))).1; (try simp only [List.length_append, ktl_5, ktl_29]); omega) (by omega) (by omega) (by first | assumption | decide) (by have h8 := (bV_len (LACT.len hpn hR 3) (L.take i) (fun x hx => hL.2.2 x (List.mem_of_mem_take hx))).2; repeat (first | assumption | exact kt_okb (by decide) | apply okb_app)) ox (by omega)) (cwV 1 hts gX13_texts_J4_append_15ec4 rfl rfl rfl (by decide +kernel) ⟨(Nat.le_of_ble_eq_true rfl), (Nat.le_of_ble_eq_true rfl)⟩) (q_pV hA hW hS (ci := 1) rfl hsb_33) rfl rfl hl.1 rfl (lv_room (Nat.le_of_ble_eq_true rfl)) dX13_texts_36 ⟨(by show _ ≤ 6 + 221 * bC L; omega), (by show _ ≤ 6200 + 70000 * bC L; omega)⟩) hS (fun r_36 f_36 n_36 H locs hp hW hS => ?_)
        obtain ⟨b1_36, m1_36, rfl, e0_36, e1_36, el_36, em4_36, eb_36, en_36, hfr_36⟩ := hp
        have l_e0_36 := hW.lt e0_36
        have l_e1_36 := hW.lt e1_36
        have hb_36 : f_36 b = some (aQ E 6 L.length (lf L)) := (hfr_36 _ (by omega) (by omega) (by omega)).trans hb_33
        have hr_33_36 : f_36 r_33 = some (cStr (r_33 + 1)) := (hfr_36 _ (by omega) (by omega) (by omega)).trans e0_33
        have hr_33___1_36 : f_36 (r_33 + 1) = some (aB E x.2.2.1.length (tx x.2.2.1)) := (hfr_36 _ (by omega) (by omega) (by omega)).trans e1_33
        refine lv_pop hx hb dX13_texts_39 rfl ?_
        refine lv_iinc (v := nI (i + 1)) (lv' := [(4, .int (nI (i + 1))), (5, .ref x.1), (1, .ref sb), (2, .ref b), (3, .int (nI L.length))]) hx hb dX13_texts_40 hl (k := 4) rfl (nI_1 i) (by decide) rfl (fun ls hl => ?_)
        refine lv_goto (tgt := 18) hx hb dX13_texts_43 (by decide) ?_
        refine w_eqc (c2 := 3 + 221 * bC (L.take (i + 1))) (s2 := 140 + 70000 * bC (L.take (i + 1))) (by omega) (by omega) ?_
        exact ih f_36 n_36 (i + 1) sb b1_36 m1_36 hb_36 (by rw [(show (kt 5 ++ bV (L.take (i + 1))) = (kt 5 ++ bV (L.take i)) ++ x.2.2.1 by rw [hts9, bV_app]; show kt 5 ++ (bV (L.take i) ++ (x.2.2.1 ++ [])) = _; rw [List.append_nil, List.append_assoc])]; exact e0_36) (by rw [(show (kt 5 ++ bV (L.take (i + 1))) = (kt 5 ++ bV (L.take i)) ++ x.2.2.1 by rw [hts9, bV_app]; show kt 5 ++ (bV (L.take i) ++ (x.2.2.1 ++ [])) = _; rw [List.append_nil, List.append_assoc])]; exact e1_36) (by rw [(show (kt 5 ++ bV (L.take (i + 1))) = (kt 5 ++ bV (L.take i)) ++ x.2.2.1 by rw [hts9, bV_app]; show kt 5 ++ (bV (L.take i) ++ (x.2.2.1 ++ [])) = _; rw [List.append_nil, List.append_assoc])]; assumption) (by omega) hlt (by omega) (by omega) (by omega) (by omega) (fun z9 g0 => ((hfr_36 _ (by omega) (by omega) (by omega)).trans ((hfr_33 _ (by omega)).trans ((hfr_K18 _ (by omega)).trans rfl)))) (by omega) _ _ _ hW hS (lv_sub hl [2, 3, 4, 0] rfl)
  have ebz : bC (L.take 0) = 0 := by rw [List.take_zero]; rfl
  refine w_eqc (c2 := 3 + 221 * bC (L.take 0)) (s2 := 140 + 70000 * bC (L.take 0)) (by omega) (by omega) ?_
  exact K18 _ f_6 n_6 0 n b1_6 m1_6 hb_6 (show _ = some (cSB _ (nI (kt 5 ++ bV (L.take 0)).length)) from (by rw [List.take_zero]; show _ = some (cSB _ (nI (kt 5 ++ []).length)); rw [List.append_nil]; exact e0_6)) (show _ = some (aB E _ (tx (kt 5 ++ bV (L.take 0)))) from (by rw [List.take_zero]; show _ = some (aB E _ (tx (kt 5 ++ []))); rw [List.append_nil]; exact e1_6)) (by rw [List.take_zero]; show (kt 5 ++ []).length ≤ _; rw [List.append_nil]; assumption) (by omega) (Nat.zero_le _) (by omega) (by omega) (by omega) (by omega) (fun z9 g0 => ((hfr_6 _ (by omega) (by omega)).trans (q_ne (by omega) rfl))) (Nat.lt_succ_self _) _ _ _ hW hS (lv_sub hl [3, 2, 1, 0] rfl)

set_option maxHeartbeats 4000000 in
set_option maxRecDepth 100000 in
theorem kX13_text_8_3 (l : Launch) (E : q_E) (f : q_H) (n : Nat) (a pn R i y b : Nat) (RS : Nat → q_S) (P : Nat → Prop) (D : q_D) (W : List Int32) (L : List LT) (sg on ot el : Option Nat) (h0 : f a = some (cLA 8 (nI i) (some y) sg on ot (some b) el)) (hpn : pn ≤ 8) (hP : ∀ q, P q → q < n) (hR : R ≤ 6) (hN : NODE pn P f 1 y D W) (hL : LB P E f (LACT E pn R RS P f 3) b L) (hc : bC L ≤ 14) : Met l yX13_text wsX13_text ({ frames := 68, cells := 220 + 221 * bC L, slots := 66000 + 70000 * bC L, locals := 3300 }) (q_P E [.ref a] f n) (q_Qq E (fun r0 f1 n1 => ∃ (r : Nat), some r = r0 ∧ f1 r = some (cStr (r + 1)) ∧ f1 (r + 1) = some (aB E ((kt 25 ++ W ++ bT L).length) (tx (kt 25 ++ W ++ bT L))) ∧ n ≤ r ∧ n ≤ n1 ∧ ∀ z9, z9 < n → f1 z9 = f z9)) (220 + 221 * bC L) (66000 + 70000 * bC L) (q_ge E) := by
  refine Met.ofW (cc := cX13_text) (maxL := 3) (ret := (some (.object "java/lang/String"))) (by decide) rfl ?_
  intro p0_ e0_ s0_ m0_ args0_ below0_ meth0_ c0_ s1_ B0_ hml hv
  obtain ⟨rfl, hA, hW⟩ := hv
  have hx := B0_.exec
  have hb := B0_.bytes
  have hr := B0_.returns
  have hts := atoms_spec (ws := wsX13_text) B0_.pre
  have hown : s0_.vm.findClass RX13 = some m0_.cls := findClass_of_methodNamed B0_.named
  have hlocks := B0_.notSynchronized
  have hS : va_S (q_ge E) s0_.heap s0_.heap [] := va_S.rf
  have iJ4 : ∀ w ∈ wsJ40, w ∈ wsX13_text := by decide +kernel
  have iX13 : ∀ w ∈ wsX130, w ∈ wsX13_text := by decide +kernel
  have hl := lv_entry ([.ref a]) (n := 3) (Nat.le_of_ble_eq_true rfl)
  rw [lg_entry_eq]
  generalize (lg_sl ([.ref a]) ++ List.replicate (3 - (lg_sl ([.ref a])).length) Slot.unset).toArray = ls at hl ⊢
  have hl : lv_has ls 3 [(0, .ref a)] := hl
  have l_h0 := hW.lt h0
  have lW := hN.len1
  have oW := hN.okb hpn
  obtain ⟨-, so1, k1, x1, y1, hcy⟩ := hN.cell
  have l_cy := hW.lt hcy
  have hLn := bV_len (LACT.len hpn hR 3) L hL.2.2
  have lL := hLn.1
  have oL := bT_okb hLn.2
  have lT := bT_len L
  refine lv_aload_n hx hb dX13_text_0 rfl (lv_at hl 0 rfl) ?_
  refine q_get hx hb hts hown hA hW iX13 h0 rfl 0 (by decide) (hts (.fieldLink RX13 37 "HighRecipesLaw$Act" "does" "I") (by decide +kernel)) (fun _ h9 => h9) (v := .int 8) rfl dX13_text_1 ?_
  refine lv_tableIn (x := 8) (off := 361) (tgt := 365) hx hb dX13_text_4 (by decide) (by decide) (by decide) (by decide) ?_
  refine q_new (ci := 1) hx hb hts hown hA hW hS iJ4 tyJ4 tyJ4_ok (hts (.classLink RX13 61 RJ4) (by decide +kernel)) (hts (.instantiable RJ4 4) (by decide +kernel)) (hts (.initialized RJ4) (by decide +kernel)) rfl (fs := [.null, .int 0, .int 0, .int 0]) (by decide) (by show _ ≤ 220 + 221 * bC L; omega) (by show _ ≤ 66000 + 70000 * bC L; omega) dX13_text_365 (fun H hW hS => ?_)
  have hW : q_W E (va_up f n (some (rSB none 0 0 0))) (n + 1) H := hW
  refine lv_dup hx hb dX13_text_368 rfl ?_
  refine q_cv (va_runI (As := []) (rest := [.ref n]) ⟨hx, hb, hml, hown, hts⟩ (kJ4_init_da8c8 l E (va_up f n (some (rSB none 0 0 0))) (n + 1) n q_eq) (cwI 0 hts gX13_text_J4_init_da8c8 rfl rfl rfl (hts (.initialized RJ4) (by decide +kernel)) (hts (.methodLink RX13 81 yJ4_init_da8c8) (by decide +kernel)) (hts (.instanceMethod yJ4_init_da8c8) (by decide +kernel)) rfl (by decide +kernel) ⟨(Nat.le_of_ble_eq_true rfl), (Nat.le_of_ble_eq_true rfl)⟩) (q_pS hA hW hS) rfl rfl hl.1 rfl (lv_room (Nat.le_of_ble_eq_true rfl)) dX13_text_369 ⟨(by show _ ≤ 220 + 221 * bC L; omega), (by show _ ≤ 66000 + 70000 * bC L; omega)⟩) hS (fun f_369 n_369 H locs hp hW hS => ?_)
  obtain ⟨e0_369, e1_369, en_369, hfr_369⟩ := hp
  have l_e0_369 := hW.lt e0_369
  have l_e1_369 := hW.lt e1_369
  have ha_369 : f_369 a = some (cLA 8 (nI i) (some y) sg on ot (some b) el) := (hfr_369 _ (by omega) (by omega)).trans (q_ne (by omega) h0)
  have hy_369 : f_369 y = some (cNode so1 k1 x1 y1) := (hfr_369 _ (by omega) (by omega)).trans (q_ne (by omega) hcy)
  refine va_ldcS (own := "HighRecipesLaw$Act") hx hb hown (q_ldk hA (i := 25) (by decide)) dX13_text_372 ?_
  refine q_cq (va_runV (As := [.ref (E.2.2.2 (200 + 25))]) (rest := []) ⟨hx, hb, hml, hown, hts⟩ (kJ4_append_k l E f_369 n_369 n (n + 1) 16 25 2000 ([] : List Int32) e0_369 e1_369 (by (try simp only [List.length_append, List.length_nil, List.length_cons, pT_len, ktl_0, ktl_1, ktl_2, ktl_3, ktl_4, ktl_5, ktl_6, ktl_7, ktl_8, ktl_9, ktl_10, ktl_11, ktl_12, ktl_13, ktl_14, ktl_15, ktl_16, ktl_17, ktl_18, ktl_19, ktl_20, ktl_21, ktl_22, ktl_23, ktl_24, ktl_25, ktl_26, ktl_27, ktl_28, ktl_29, ktl_30, ktl_31, ktl_32, ktl_33, ktl_34, ktl_35, ktl_36, ktl_37, ktl_38, ktl_39, ktl_40, ktl_41, ktl_42, ktl_43, ktl_44, ktl_45, ktl_46, ktl_47, ktl_48, ktl_49]); omega) (by omega) (by omega) (by first | assumption | decide) (by repeat (first | exact okb_nil | assumption | exact kt_okb (by omega) | exact okb_pT (by omega) | exact dg_ok _ (by omega) | exact okb_one (by omega) | apply okb_app)) (by omega)) (cwV 1 hts gX13_text_J4_append_15ec4 rfl rfl rfl (by decide +kernel) ⟨(Nat.le_of_ble_eq_true rfl), (Nat.le_of_ble_eq_true rfl)⟩) (q_pV hA hW hS (ci := 1) rfl e0_369) rfl rfl hl.1 rfl (lv_room (Nat.le_of_ble_eq_true rfl)) dX13_text_374 ⟨(by show _ ≤ 220 + 221 * bC L; omega), (by show _ ≤ 66000 + 70000 * bC L; omega)⟩) hS (fun r_374 f_374 n_374 H locs hp hW hS => ?_)
  obtain ⟨b1_374, m1_374, rfl, e0_374, e1_374, el_374, em4_374, eb_374, en_374, hfr_374⟩ := hp
  have l_e0_374 := hW.lt e0_374
  have l_e1_374 := hW.lt e1_374
  have ha_374 : f_374 a = some (cLA 8 (nI i) (some y) sg on ot (some b) el) := (hfr_374 _ (by omega) (by omega) (by omega)).trans ha_369
  have hy_374 : f_374 y = some (cNode so1 k1 x1 y1) := (hfr_374 _ (by omega) (by omega) (by omega)).trans hy_369
  refine lv_aload_n hx hb dX13_text_377 rfl (lv_at hl 0 rfl) ?_
  refine q_get hx hb hts hown hA hW iX13 ha_374 rfl 2 (by decide) (hts (.fieldLink RX13 47 "HighRecipesLaw$Act" "value" "LHighRecipesLaw$Node;") (by decide +kernel)) (fun _ h9 => h9) (v := .ref y) rfl dX13_text_378 ?_
  refine q_cq (va_runV (As := []) (rest := [.ref n]) ⟨hx, hb, hml, hown, hts⟩ (kX16_text_1 l E f_374 n_374 y pn P D W (NODE.to (fun q hq => have h8 := hP q hq; ⟨hq, ((hfr_374 _ (by omega) (by omega) (by omega)).trans ((hfr_369 _ (by omega) (by omega)).trans (q_ne (by omega) rfl)))⟩) hN) hpn (fun q hq => by have := hP q hq; omega)) (cwV 0 hts gX13_text_X16_text rfl rfl rfl (by decide +kernel) ⟨(Nat.le_of_ble_eq_true rfl), (Nat.le_of_ble_eq_true rfl)⟩) (q_pV hA hW hS (ci := 16) rfl hy_374) rfl rfl hl.1 rfl (lv_room (Nat.le_of_ble_eq_true rfl)) dX13_text_381 ⟨(by show _ ≤ 220 + 221 * bC L; omega), (by show _ ≤ 66000 + 70000 * bC L; omega)⟩) hS (fun r_381 f_381 n_381 H locs hp hW hS => ?_)
  obtain ⟨r_381, rfl, eT_381, ef_381, en_381, hfr_381⟩ := hp
  have ha_381 : f_381 a = some (cLA 8 (nI i) (some y) sg on ot (some b) el) := (hfr_381 _ (by omega)).trans ha_374
  have hn_381 : f_381 n = some (cSB b1_374 (nI (([] : List Int32) ++ kt 25).length)) := (hfr_381 _ (by omega)).trans e0_374
  have hb1_374_381 : f_381 b1_374 = some (aB E m1_374 (tx (([] : List Int32) ++ kt 25))) := (hfr_381 _ (by omega)).trans e1_374
  refine q_cq (va_runV (As := [.ref r_381]) (rest := []) ⟨hx, hb, hml, hown, hts⟩ (kJ4_append_S l E f_381 n_381 n b1_374 m1_374 r_381 2000 (([] : List Int32) ++ kt 25) W hn_381 hb1_374_381 (by (try simp only [List.length_append, List.length_nil, List.length_cons, pT_len, ktl_0, ktl_1, ktl_2, ktl_3, ktl_4, ktl_5, ktl_6, ktl_7, ktl_8, ktl_9, ktl_10, ktl_11, ktl_12, ktl_13, ktl_14, ktl_15, ktl_16, ktl_17, ktl_18, ktl_19, ktl_20, ktl_21, ktl_22, ktl_23, ktl_24, ktl_25, ktl_26, ktl_27, ktl_28, ktl_29, ktl_30, ktl_31, ktl_32, ktl_33, ktl_34, ktl_35, ktl_36, ktl_37, ktl_38, ktl_39, ktl_40, ktl_41, ktl_42, ktl_43, ktl_44, ktl_45, ktl_46, ktl_47, ktl_48, ktl_49]); omega) (by omega) (by omega) (by first | assumption | decide) (by repeat (first | exact okb_nil | assumption | exact kt_okb (by omega) | exact okb_pT (by omega) | exact dg_ok _ (by omega) | exact okb_one (by omega) | apply okb_app)) (by repeat (first | exact okb_nil | assumption | exact kt_okb (by omega) | exact okb_pT (by omega) | exact dg_ok _ (by omega) | exact okb_one (by omega) | apply okb_app)) eT_381 (fun rb h9 => by have := ef_381 rb h9; omega)) (cwV 1 hts gX13_text_J4_append_15ec4 rfl rfl rfl (by decide +kernel) ⟨(Nat.le_of_ble_eq_true rfl), (Nat.le_of_ble_eq_true rfl)⟩) (q_pV hA hW hS (ci := 1) rfl hn_381) rfl rfl hl.1 rfl (lv_room (Nat.le_of_ble_eq_true rfl)) dX13_text_384 ⟨(by show _ ≤ 220 + 221 * bC L; omega), (by show _ ≤ 66000 + 70000 * bC L; omega)⟩) hS (fun r_384 f_384 n_384 H locs hp hW hS => ?_)
  obtain ⟨b1_384, m1_384, rfl, e0_384, e1_384, el_384, em4_384, eb_384, en_384, hfr_384⟩ := hp
  have l_e0_384 := hW.lt e0_384
  have l_e1_384 := hW.lt e1_384
  have ha_384 : f_384 a = some (cLA 8 (nI i) (some y) sg on ot (some b) el) := (hfr_384 _ (by omega) (by omega) (by omega)).trans ha_381
  refine lv_aload_n hx hb dX13_text_387 rfl (lv_at hl 0 rfl) ?_
  refine q_get hx hb hts hown hA hW iX13 ha_384 rfl 6 (by decide) (hts (.fieldLink RX13 22 "HighRecipesLaw$Act" "block" "[LHighRecipesLaw$Act;") (by decide +kernel)) (fun _ h9 => h9) (v := .ref b) rfl dX13_text_388 ?_
  refine q_cq (va_runS (As := [.ref b]) (rest := [.ref n]) ⟨hx, hb, hml, hown, hts⟩ (kX13_texts_3 l E f_384 n_384 b pn R RS P L hpn (fun q hq => by have := hP q hq; omega) hR (LB.to (fun q hq => have h8 := hP q hq; ⟨hq, ((hfr_384 _ (by omega) (by omega) (by omega)).trans ((hfr_381 _ (by omega)).trans ((hfr_374 _ (by omega) (by omega) (by omega)).trans ((hfr_369 _ (by omega) (by omega)).trans (q_ne (by omega) rfl)))))⟩) (fun x hx => LACT.to (fun q hq => have h8 := hP q hq; ⟨hq, ((hfr_384 _ (by omega) (by omega) (by omega)).trans ((hfr_381 _ (by omega)).trans ((hfr_374 _ (by omega) (by omega) (by omega)).trans ((hfr_369 _ (by omega) (by omega)).trans (q_ne (by omega) rfl)))))⟩) (Nat.le_refl _) (fun _ _ => rfl) 3 x hx) hL) hc) (va_cwS 1 hts gX13_text_X13_texts rfl rfl rfl (by decide +kernel) ⟨(Nat.le_of_ble_eq_true rfl), (Nat.le_of_ble_eq_true rfl)⟩) (q_pS hA hW hS) rfl rfl hl.1 rfl (lv_room (Nat.le_of_ble_eq_true rfl)) dX13_text_391 ⟨(by show _ ≤ 220 + 221 * bC L; omega), (by show _ ≤ 66000 + 70000 * bC L; omega)⟩) hS (fun r_391 f_391 n_391 H locs hp hW hS => ?_)
  obtain ⟨r_391, rfl, e0_391, e1_391, er_391, en_391, hfr_391⟩ := hp
  have l_e0_391 := hW.lt e0_391
  have l_e1_391 := hW.lt e1_391
  have ha_391 : f_391 a = some (cLA 8 (nI i) (some y) sg on ot (some b) el) := (hfr_391 _ (by omega)).trans ha_384
  have hn_391 : f_391 n = some (cSB b1_384 (nI ((([] : List Int32) ++ kt 25) ++ W).length)) := (hfr_391 _ (by omega)).trans e0_384
  have hb1_384_391 : f_391 b1_384 = some (aB E m1_384 (tx ((([] : List Int32) ++ kt 25) ++ W))) := (hfr_391 _ (by omega)).trans e1_384
  refine q_cq (va_runV (As := [.ref r_391]) (rest := []) ⟨hx, hb, hml, hown, hts⟩ (kJ4_append_15ec4 l E f_391 n_391 n b1_384 m1_384 r_391 (r_391 + 1) 2000 ((([] : List Int32) ++ kt 25) ++ W) (bT L) hn_391 hb1_384_391 e0_391 e1_391 (by (try simp only [List.length_append, List.length_nil, List.length_cons, pT_len, ktl_0, ktl_1, ktl_2, ktl_3, ktl_4, ktl_5, ktl_6, ktl_7, ktl_8, ktl_9, ktl_10, ktl_11, ktl_12, ktl_13, ktl_14, ktl_15, ktl_16, ktl_17, ktl_18, ktl_19, ktl_20, ktl_21, ktl_22, ktl_23, ktl_24, ktl_25, ktl_26, ktl_27, ktl_28, ktl_29, ktl_30, ktl_31, ktl_32, ktl_33, ktl_34, ktl_35, ktl_36, ktl_37, ktl_38, ktl_39, ktl_40, ktl_41, ktl_42, ktl_43, ktl_44, ktl_45, ktl_46, ktl_47, ktl_48, ktl_49]); omega) (by omega) (by omega) (by first | assumption | decide) (by repeat (first | exact okb_nil | assumption | exact kt_okb (by omega) | exact okb_pT (by omega) | exact dg_ok _ (by omega) | exact okb_one (by omega) | apply okb_app)) (by repeat (first | exact okb_nil | assumption | exact kt_okb (by omega) | exact okb_pT (by omega) | exact dg_ok _ (by omega) | exact okb_one (by omega) | apply okb_app)) (by omega)) (cwV 1 hts gX13_text_J4_append_15ec4 rfl rfl rfl (by decide +kernel) ⟨(Nat.le_of_ble_eq_true rfl), (Nat.le_of_ble_eq_true rfl)⟩) (q_pV hA hW hS (ci := 1) rfl hn_391) rfl rfl hl.1 rfl (lv_room (Nat.le_of_ble_eq_true rfl)) dX13_text_394 ⟨(by show _ ≤ 220 + 221 * bC L; omega), (by show _ ≤ 66000 + 70000 * bC L; omega)⟩) hS (fun r_394 f_394 n_394 H locs hp hW hS => ?_)
  obtain ⟨b1_394, m1_394, rfl, e0_394, e1_394, el_394, em4_394, eb_394, en_394, hfr_394⟩ := hp
  have l_e0_394 := hW.lt e0_394
  have l_e1_394 := hW.lt e1_394
  have ha_394 : f_394 a = some (cLA 8 (nI i) (some y) sg on ot (some b) el) := (hfr_394 _ (by omega) (by omega) (by omega)).trans ha_391
  refine q_cq (va_runV (As := []) (rest := []) ⟨hx, hb, hml, hown, hts⟩ (kJ4_toString_0e30d l E f_394 n_394 n b1_394 m1_394 2000 (((([] : List Int32) ++ kt 25) ++ W) ++ (bT L)) e0_394 e1_394 (by assumption) (by omega) (by (try simp only [List.length_append, List.length_nil, List.length_cons, pT_len, ktl_0, ktl_1, ktl_2, ktl_3, ktl_4, ktl_5, ktl_6, ktl_7, ktl_8, ktl_9, ktl_10, ktl_11, ktl_12, ktl_13, ktl_14, ktl_15, ktl_16, ktl_17, ktl_18, ktl_19, ktl_20, ktl_21, ktl_22, ktl_23, ktl_24, ktl_25, ktl_26, ktl_27, ktl_28, ktl_29, ktl_30, ktl_31, ktl_32, ktl_33, ktl_34, ktl_35, ktl_36, ktl_37, ktl_38, ktl_39, ktl_40, ktl_41, ktl_42, ktl_43, ktl_44, ktl_45, ktl_46, ktl_47, ktl_48, ktl_49]); omega) (by omega) (by repeat (first | exact okb_nil | assumption | exact kt_okb (by omega) | exact okb_pT (by omega) | exact dg_ok _ (by omega) | exact okb_one (by omega) | apply okb_app))) (cwV 0 hts gX13_text_J4_toString_0e30d rfl rfl rfl (by decide +kernel) ⟨(Nat.le_of_ble_eq_true rfl), (Nat.le_of_ble_eq_true rfl)⟩) (q_pV hA hW hS (ci := 1) rfl e0_394) rfl rfl hl.1 rfl (lv_room (Nat.le_of_ble_eq_true rfl)) dX13_text_397 ⟨(by show _ ≤ 220 + 221 * bC L; omega), (by show _ ≤ 66000 + 70000 * bC L; omega)⟩) hS (fun r_397 f_397 n_397 H locs hp hW hS => ?_)
  obtain ⟨rfl, e0_397, e1_397, en_397, hfr_397⟩ := hp
  have l_e0_397 := hW.lt e0_397
  have l_e1_397 := hW.lt e1_397
  have ha_397 : f_397 a = some (cLA 8 (nI i) (some y) sg on ot (some b) el) := (hfr_397 _ (by omega)).trans ha_394
  have hn_397 : f_397 n = some (cSB b1_394 (nI (((([] : List Int32) ++ kt 25) ++ W) ++ (bT L)).length)) := (hfr_397 _ (by omega)).trans e0_394
  have hb1_394_397 : f_397 b1_394 = some (aB E m1_394 (tx (((([] : List Int32) ++ kt 25) ++ W) ++ (bT L)))) := (hfr_397 _ (by omega)).trans e1_394
  exact q_aret (v := some n_394) hx hb hr (Or.inl ⟨_, rfl⟩) hlocks hW hS ⟨n_394, rfl, e0_397, e1_397, (by omega), (by omega), (fun q g0 => ((hfr_397 _ (by omega)).trans ((hfr_394 _ (by omega) (by omega) (by omega)).trans ((hfr_391 _ (by omega)).trans ((hfr_384 _ (by omega) (by omega) (by omega)).trans ((hfr_381 _ (by omega)).trans ((hfr_374 _ (by omega) (by omega) (by omega)).trans ((hfr_369 _ (by omega) (by omega)).trans (q_ne (by omega) rfl)))))))))⟩ (by show _ ≤ 220 + 221 * bC L; omega) (by show _ ≤ 66000 + 70000 * bC L; omega) dX13_text_400

set_option maxHeartbeats 4000000 in
set_option maxRecDepth 100000 in
theorem kX13_text_9_3_1 (l : Launch) (E : q_E) (f : q_H) (n : Nat) (a pn R i b sg on ot : Nat) (RS : Nat → q_S) (P : Nat → Prop) (L : List LT) (s0 a0 c0 : Nat) (D0 E0 : q_D) (W0 Y0 : List Int32) (gs : Nat → Int32) (go gt : Nat → Option Nat) (h0 : f a = some (cLA 9 (nI i) none (some sg) (some on) (some ot) (some b) none)) (h1 : f sg = some (aI E 1 gs)) (h2 : f on = some (aQ E 7 1 go)) (h3 : f ot = some (aQ E 7 1 gt)) (hpn : pn ≤ 8) (hP : ∀ q, P q → q < n) (hR : R ≤ 6) (hs0 : s0 < 3) (hgs0 : gs 0 = nI s0) (hgo0 : go 0 = some a0) (hgt0 : gt 0 = some c0) (hM0 : NODE pn P f 0 a0 D0 W0) (hQ0 : NODE pn P f 0 c0 E0 Y0) (hL : LB P E f (LACT E pn R RS P f 3) b L) (hc : bC L ≤ 14) : Met l yX13_text wsX13_text ({ frames := 68, cells := 220 + 221 * bC L, slots := 66000 + 70000 * bC L, locals := 3300 }) (q_P E [.ref a] f n) (q_Qq E (fun r0 f1 n1 => ∃ (r : Nat), some r = r0 ∧ f1 r = some (cStr (r + 1)) ∧ f1 (r + 1) = some (aB E ((kt 26 ++ W0 ++ kt (47 + s0) ++ Y0 ++ bT L).length) (tx (kt 26 ++ W0 ++ kt (47 + s0) ++ Y0 ++ bT L))) ∧ n ≤ r ∧ n ≤ n1 ∧ ∀ z9, z9 < n → f1 z9 = f z9)) (220 + 221 * bC L) (66000 + 70000 * bC L) (q_ge E) := by
  refine Met.ofW (cc := cX13_text) (maxL := 3) (ret := (some (.object "java/lang/String"))) (by decide) rfl ?_
  intro p0_ e0_ s0_ m0_ args0_ below0_ meth0_ c0_ s1_ B0_ hml hv
  obtain ⟨rfl, hA, hW⟩ := hv
  have hx := B0_.exec
  have hb := B0_.bytes
  have hr := B0_.returns
  have hts := atoms_spec (ws := wsX13_text) B0_.pre
  have hown : s0_.vm.findClass RX13 = some m0_.cls := findClass_of_methodNamed B0_.named
  have hlocks := B0_.notSynchronized
  have hS : va_S (q_ge E) s0_.heap s0_.heap [] := va_S.rf
  have iJ4 : ∀ w ∈ wsJ40, w ∈ wsX13_text := by decide +kernel
  have iX13 : ∀ w ∈ wsX130, w ∈ wsX13_text := by decide +kernel
  have hl := lv_entry ([.ref a]) (n := 3) (Nat.le_of_ble_eq_true rfl)
  rw [lg_entry_eq]
  generalize (lg_sl ([.ref a]) ++ List.replicate (3 - (lg_sl ([.ref a])).length) Slot.unset).toArray = ls at hl ⊢
  have hl : lv_has ls 3 [(0, .ref a)] := hl
  have l_h0 := hW.lt h0
  have l_h1 := hW.lt h1
  have l_h2 := hW.lt h2
  have l_h3 := hW.lt h3
  have lM0 := hM0.len0
  have lQ0 := hQ0.len0
  have oM0 := hM0.okb hpn
  have oQ0 := hQ0.okb hpn
  obtain ⟨-, so0, ka0, xa0, ya0, hca0⟩ := hM0.cell
  obtain ⟨-, sp0, kc0, xc0, yc0, hcc0⟩ := hQ0.cell
  have l_a0 := hW.lt hca0
  have l_c0 := hW.lt hcc0
  have lk0 : (kt (47 + s0)).length = 1 := kt_len47 s0 hs0
  have hnL := bV_len (LACT.len hpn hR 3) L hL.2.2
  have lL := hnL.1
  have oL := bT_okb hnL.2
  have lTL := bT_len L
  have K479 : ∀ (F : q_H) (N bb mm : Nat) (V9 : List Int32) (haF : F a = some (cLA 9 (nI i) none (some sg) (some on) (some ot) (some b) none)) (hsF : F n = some (cSB bb (nI V9.length))) (hbF : F bb = some (aB E mm (tx V9))) (hlm : V9.length ≤ mm) (hmm : mm ≤ 4000) (hlV : V9.length ≤ 200) (hoV : okb V9) (hnb : n ≤ bb) (hnN : n < N) (hbN : bb < N) (hVe : V9 ++ bT L = kt 26 ++ W0 ++ kt (47 + s0) ++ Y0 ++ bT L) (hfr_K479 : ∀ z9, z9 < n → F z9 = f z9) (H : Heap) (locs : List Loc) (ls : Array Slot), q_W E F N H → va_S (q_ge E) s0_.heap H locs → lv_has ls 3 [(0, .ref a), (1, .ref n)] → W p0_ l e0_ (headSpec wsX13_text ({ frames := 68, cells := 220 + 221 * bC L, slots := 66000 + 70000 * bC L, locals := 3300 })).room s0_ m0_ ([.ref a] : List Value).toArray below0_ meth0_ c0_ H locs 150 37220 (MQ below0_ (q_Qq E (fun r0 f1 n1 => ∃ (r : Nat), some r = r0 ∧ f1 r = some (cStr (r + 1)) ∧ f1 (r + 1) = some (aB E ((kt 26 ++ W0 ++ kt (47 + s0) ++ Y0 ++ bT L).length) (tx (kt 26 ++ W0 ++ kt (47 + s0) ++ Y0 ++ bT L))) ∧ n ≤ r ∧ n ≤ n1 ∧ ∀ z9, z9 < n → f1 z9 = f z9)) ([.ref a] : List Value).toArray s0_ (220 + 221 * bC L) (66000 + 70000 * bC L) (q_ge E)) (F0 m0_ 479 ls []) := by
    intro F N bb mm V9 haF hsF hbF hlm hmm hlV hoV hnb hnN hbN hVe hfr_K479 H locs ls hW hS hl
    refine lv_aload_n hx hb dX13_text_479 rfl (lv_at hl 1 rfl) ?_
    refine lv_aload_n hx hb dX13_text_480 rfl (lv_at hl 0 rfl) ?_
    refine q_get hx hb hts hown hA hW iX13 haF rfl 6 (by decide) (hts (.fieldLink RX13 22 "HighRecipesLaw$Act" "block" "[LHighRecipesLaw$Act;") (by decide +kernel)) (fun _ h9 => h9) (v := .ref b) rfl dX13_text_481 ?_
    refine q_cq (va_runS (As := [.ref b]) (rest := [.ref n]) ⟨hx, hb, hml, hown, hts⟩ (kX13_texts_3 l E F N b pn R RS P L hpn (fun q hq => by have := hP q hq; omega) hR (LB.to (fun q hq => have h8 := hP q hq; ⟨hq, ((hfr_K479 _ (by omega)).trans rfl)⟩) (fun x hx => LACT.to (fun q hq => have h8 := hP q hq; ⟨hq, ((hfr_K479 _ (by omega)).trans rfl)⟩) (Nat.le_refl _) (fun _ _ => rfl) 3 x hx) hL) (by omega)) (va_cwS 1 hts gX13_text_X13_texts rfl rfl rfl (by decide +kernel) ⟨(Nat.le_of_ble_eq_true rfl), (Nat.le_of_ble_eq_true rfl)⟩) (q_pS hA hW hS) rfl rfl hl.1 rfl (lv_room (Nat.le_of_ble_eq_true rfl)) dX13_text_484 ⟨(by show _ ≤ 220 + 221 * bC L; omega), (by show _ ≤ 66000 + 70000 * bC L; omega)⟩) hS (fun r_484 f_484 n_484 H locs hp hW hS => ?_)
    obtain ⟨r_484, rfl, e0_484, e1_484, er_484, en_484, hfr_484⟩ := hp
    have l_e0_484 := hW.lt e0_484
    have l_e1_484 := hW.lt e1_484
    have ha_484 : f_484 a = some (cLA 9 (nI i) none (some sg) (some on) (some ot) (some b) none) := (hfr_484 _ (by omega)).trans haF
    have hn_484 : f_484 n = some (cSB bb (nI V9.length)) := (hfr_484 _ (by omega)).trans hsF
    have hbb_484 : f_484 bb = some (aB E mm (tx V9)) := (hfr_484 _ (by omega)).trans hbF
    refine q_cq (va_runV (As := [.ref r_484]) (rest := []) ⟨hx, hb, hml, hown, hts⟩ (kJ4_append_15ec4 l E f_484 n_484 n bb mm r_484 (r_484 + 1) 2000 V9 (bT L) hn_484 hbb_484 e0_484 e1_484 (by (try simp only [List.length_append, List.length_nil, List.length_cons, pT_len, ktl_0, ktl_1, ktl_2, ktl_3, ktl_4, ktl_5, ktl_6, ktl_7, ktl_8, ktl_9, ktl_10, ktl_11, ktl_12, ktl_13, ktl_14, ktl_15, ktl_16, ktl_17, ktl_18, ktl_19, ktl_20, ktl_21, ktl_22, ktl_23, ktl_24, ktl_25, ktl_26, ktl_27, ktl_28, ktl_29, ktl_30, ktl_31, ktl_32, ktl_33, ktl_34, ktl_35, ktl_36, ktl_37, ktl_38, ktl_39, ktl_40, ktl_41, ktl_42, ktl_43, ktl_44, ktl_45, ktl_46, ktl_47, ktl_48, ktl_49]); omega) (by omega) (by omega) (by first | assumption | decide) (by repeat (first | exact okb_nil | assumption | exact kt_okb (by omega) | exact okb_pT (by omega) | exact dg_ok _ (by omega) | exact okb_one (by omega) | apply okb_app)) (by repeat (first | exact okb_nil | assumption | exact kt_okb (by omega) | exact okb_pT (by omega) | exact dg_ok _ (by omega) | exact okb_one (by omega) | apply okb_app)) (by omega)) (cwV 1 hts gX13_text_J4_append_15ec4 rfl rfl rfl (by decide +kernel) ⟨(Nat.le_of_ble_eq_true rfl), (Nat.le_of_ble_eq_true rfl)⟩) (q_pV hA hW hS (ci := 1) rfl hn_484) rfl rfl hl.1 rfl (lv_room (Nat.le_of_ble_eq_true rfl)) dX13_text_487 ⟨(by show _ ≤ 220 + 221 * bC L; omega), (by show _ ≤ 66000 + 70000 * bC L; omega)⟩) hS (fun r_487 f_487 n_487 H locs hp hW hS => ?_)
    obtain ⟨b1_487, m1_487, rfl, e0_487, e1_487, el_487, em4_487, eb_487, en_487, hfr_487⟩ := hp
    have l_e0_487 := hW.lt e0_487
    have l_e1_487 := hW.lt e1_487
    have ha_487 : f_487 a = some (cLA 9 (nI i) none (some sg) (some on) (some ot) (some b) none) := (hfr_487 _ (by omega) (by omega) (by omega)).trans ha_484
    refine lv_pop hx hb dX13_text_490 rfl ?_
    refine lv_aload_n hx hb dX13_text_491 rfl (lv_at hl 0 rfl) ?_
    refine q_get hx hb hts hown hA hW iX13 ha_487 rfl 7 (by decide) (hts (.fieldLink RX13 58 "HighRecipesLaw$Act" "other" "[LHighRecipesLaw$Act;") (by decide +kernel)) (fun _ h9 => h9) (v := .null) rfl dX13_text_492 ?_
    refine lv_ifnullN (tgt := 515) hx hb dX13_text_495 (by decide) ?_
    refine lv_aload_n hx hb dX13_text_515 rfl (lv_at hl 1 rfl) ?_
    refine q_cq (va_runV (As := []) (rest := []) ⟨hx, hb, hml, hown, hts⟩ (kJ4_toString_0e30d l E f_487 n_487 n b1_487 m1_487 2000 (V9 ++ (bT L)) e0_487 e1_487 (by assumption) (by omega) (by (try simp only [List.length_append, List.length_nil, List.length_cons, pT_len, ktl_0, ktl_1, ktl_2, ktl_3, ktl_4, ktl_5, ktl_6, ktl_7, ktl_8, ktl_9, ktl_10, ktl_11, ktl_12, ktl_13, ktl_14, ktl_15, ktl_16, ktl_17, ktl_18, ktl_19, ktl_20, ktl_21, ktl_22, ktl_23, ktl_24, ktl_25, ktl_26, ktl_27, ktl_28, ktl_29, ktl_30, ktl_31, ktl_32, ktl_33, ktl_34, ktl_35, ktl_36, ktl_37, ktl_38, ktl_39, ktl_40, ktl_41, ktl_42, ktl_43, ktl_44, ktl_45, ktl_46, ktl_47, ktl_48, ktl_49]); omega) (by omega) (by repeat (first | exact okb_nil | assumption | exact kt_okb (by omega) | exact okb_pT (by omega) | exact dg_ok _ (by omega) | exact okb_one (by omega) | apply okb_app))) (cwV 0 hts gX13_text_J4_toString_0e30d rfl rfl rfl (by decide +kernel) ⟨(Nat.le_of_ble_eq_true rfl), (Nat.le_of_ble_eq_true rfl)⟩) (q_pV hA hW hS (ci := 1) rfl e0_487) rfl rfl hl.1 rfl (lv_room (Nat.le_of_ble_eq_true rfl)) dX13_text_516 ⟨(by show _ ≤ 220 + 221 * bC L; omega), (by show _ ≤ 66000 + 70000 * bC L; omega)⟩) hS (fun r_516 f_516 n_516 H locs hp hW hS => ?_)
    obtain ⟨rfl, e0_516, e1_516, en_516, hfr_516⟩ := hp
    have l_e0_516 := hW.lt e0_516
    have l_e1_516 := hW.lt e1_516
    have ha_516 : f_516 a = some (cLA 9 (nI i) none (some sg) (some on) (some ot) (some b) none) := (hfr_516 _ (by omega)).trans ha_487
    have hn_516 : f_516 n = some (cSB b1_487 (nI (V9 ++ (bT L)).length)) := (hfr_516 _ (by omega)).trans e0_487
    have hb1_487_516 : f_516 b1_487 = some (aB E m1_487 (tx (V9 ++ (bT L)))) := (hfr_516 _ (by omega)).trans e1_487
    exact q_aret (v := some n_487) hx hb hr (Or.inl ⟨_, rfl⟩) hlocks hW hS ⟨n_487, rfl, e0_516, (by rw [← hVe]; exact e1_516), (by omega), (by omega), (fun q g0 => ((hfr_516 _ (by omega)).trans ((hfr_487 _ (by omega) (by omega) (by omega)).trans ((hfr_484 _ (by omega)).trans ((hfr_K479 _ (by omega)).trans rfl)))))⟩ (by show _ ≤ 220 + 221 * bC L; omega) (by show _ ≤ 66000 + 70000 * bC L; omega) dX13_text_519
  refine lv_aload_n hx hb dX13_text_0 rfl (lv_at hl 0 rfl) ?_
  refine q_get hx hb hts hown hA hW iX13 h0 rfl 0 (by decide) (hts (.fieldLink RX13 37 "HighRecipesLaw$Act" "does" "I") (by decide +kernel)) (fun _ h9 => h9) (v := .int 9) rfl dX13_text_1 ?_
  refine lv_tableOut (x := 9) (tgt := 401) hx hb dX13_text_4 (by decide) (by decide) ?_
  refine q_new (ci := 1) hx hb hts hown hA hW hS iJ4 tyJ4 tyJ4_ok (hts (.classLink RX13 61 RJ4) (by decide +kernel)) (hts (.instantiable RJ4 4) (by decide +kernel)) (hts (.initialized RJ4) (by decide +kernel)) rfl (fs := [.null, .int 0, .int 0, .int 0]) (by decide) (by show _ ≤ 220 + 221 * bC L; omega) (by show _ ≤ 66000 + 70000 * bC L; omega) dX13_text_401 (fun H hW hS => ?_)
  have hW : q_W E (va_up f n (some (rSB none 0 0 0))) (n + 1) H := hW
  refine lv_dup hx hb dX13_text_404 rfl ?_
  refine q_cv (va_runI (As := []) (rest := [.ref n]) ⟨hx, hb, hml, hown, hts⟩ (kJ4_init_da8c8 l E (va_up f n (some (rSB none 0 0 0))) (n + 1) n q_eq) (cwI 0 hts gX13_text_J4_init_da8c8 rfl rfl rfl (hts (.initialized RJ4) (by decide +kernel)) (hts (.methodLink RX13 81 yJ4_init_da8c8) (by decide +kernel)) (hts (.instanceMethod yJ4_init_da8c8) (by decide +kernel)) rfl (by decide +kernel) ⟨(Nat.le_of_ble_eq_true rfl), (Nat.le_of_ble_eq_true rfl)⟩) (q_pS hA hW hS) rfl rfl hl.1 rfl (lv_room (Nat.le_of_ble_eq_true rfl)) dX13_text_405 ⟨(by show _ ≤ 220 + 221 * bC L; omega), (by show _ ≤ 66000 + 70000 * bC L; omega)⟩) hS (fun f_405 n_405 H locs hp hW hS => ?_)
  obtain ⟨e0_405, e1_405, en_405, hfr_405⟩ := hp
  have l_e0_405 := hW.lt e0_405
  have l_e1_405 := hW.lt e1_405
  have ha_405 : f_405 a = some (cLA 9 (nI i) none (some sg) (some on) (some ot) (some b) none) := (hfr_405 _ (by omega) (by omega)).trans (q_ne (by omega) h0)
  have hsg_405 : f_405 sg = some (aI E 1 gs) := (hfr_405 _ (by omega) (by omega)).trans (q_ne (by omega) h1)
  have hon_405 : f_405 on = some (aQ E 7 1 go) := (hfr_405 _ (by omega) (by omega)).trans (q_ne (by omega) h2)
  have hot_405 : f_405 ot = some (aQ E 7 1 gt) := (hfr_405 _ (by omega) (by omega)).trans (q_ne (by omega) h3)
  have ha0_405 : f_405 a0 = some (cNode so0 ka0 xa0 ya0) := (hfr_405 _ (by omega) (by omega)).trans (q_ne (by omega) hca0)
  have hc0_405 : f_405 c0 = some (cNode sp0 kc0 xc0 yc0) := (hfr_405 _ (by omega) (by omega)).trans (q_ne (by omega) hcc0)
  refine lv_astore_n (lv' := [(1, .ref n), (0, .ref a)]) hx hb dX13_text_408 rfl hl (by decide) rfl (fun ls hl => ?_)
  refine lv_iconst (v := 0) hx hb dX13_text_409 (by decide) ?_
  refine lv_istore_n (lv' := [(2, .int 0), (1, .ref n), (0, .ref a)]) hx hb dX13_text_410 rfl hl (by decide) rfl (fun ls hl => ?_)
  refine lv_iload_n hx hb dX13_text_411 rfl (lv_at hl 0 rfl) ?_
  refine lv_aload_n hx hb dX13_text_412 rfl (lv_at hl 2 rfl) ?_
  refine q_get hx hb hts hown hA hW iX13 ha_405 rfl 3 (by decide) (hts (.fieldLink RX13 7 "HighRecipesLaw$Act" "signs" "[I") (by decide +kernel)) (fun _ h9 => h9) (v := .ref sg) rfl dX13_text_413 ?_
  refine q_alen hx hb hA hW 0 rfl hsg_405 (v := 1) rfl dX13_text_416 ?_
  refine lv_icmp_ge (tgt := 479) hx hb dX13_text_417 (by decide) (fun c_417 => absurd c_417 (by decide)) (fun c_417 => ?_)
  refine lv_aload_n hx hb dX13_text_420 rfl (lv_at hl 1 rfl) ?_
  refine lv_iload_n hx hb dX13_text_421 rfl (lv_at hl 0 rfl) ?_
  refine lv_if_ne (tgt := 430) hx hb dX13_text_422 (by decide) (fun c_422 => absurd c_422 (by decide)) (fun c_422 => ?_)
  refine va_ldcS (own := "HighRecipesLaw$Act") hx hb hown (q_ldk hA (i := 26) (by decide)) dX13_text_425 ?_
  refine lv_goto (tgt := 432) hx hb dX13_text_427 (by decide) ?_
  refine q_cq (va_runV (As := [.ref (E.2.2.2 (200 + 26))]) (rest := []) ⟨hx, hb, hml, hown, hts⟩ (kJ4_append_k l E f_405 n_405 n (n + 1) 16 26 2000 ([] : List Int32) e0_405 e1_405 (by (try simp only [List.length_append, List.length_nil, List.length_cons, pT_len, ktl_0, ktl_1, ktl_2, ktl_3, ktl_4, ktl_5, ktl_6, ktl_7, ktl_8, ktl_9, ktl_10, ktl_11, ktl_12, ktl_13, ktl_14, ktl_15, ktl_16, ktl_17, ktl_18, ktl_19, ktl_20, ktl_21, ktl_22, ktl_23, ktl_24, ktl_25, ktl_26, ktl_27, ktl_28, ktl_29, ktl_30, ktl_31, ktl_32, ktl_33, ktl_34, ktl_35, ktl_36, ktl_37, ktl_38, ktl_39, ktl_40, ktl_41, ktl_42, ktl_43, ktl_44, ktl_45, ktl_46, ktl_47, ktl_48, ktl_49]); omega) (by omega) (by omega) (by first | assumption | decide) (by repeat (first | exact okb_nil | assumption | exact kt_okb (by omega) | exact okb_pT (by omega) | exact dg_ok _ (by omega) | exact okb_one (by omega) | apply okb_app)) (by omega)) (cwV 1 hts gX13_text_J4_append_15ec4 rfl rfl rfl (by decide +kernel) ⟨(Nat.le_of_ble_eq_true rfl), (Nat.le_of_ble_eq_true rfl)⟩) (q_pV hA hW hS (ci := 1) rfl e0_405) rfl rfl hl.1 rfl (lv_room (Nat.le_of_ble_eq_true rfl)) dX13_text_432 ⟨(by show _ ≤ 220 + 221 * bC L; omega), (by show _ ≤ 66000 + 70000 * bC L; omega)⟩) hS (fun r_432 f_432 n_432 H locs hp hW hS => ?_)
  obtain ⟨b1_432, m1_432, rfl, e0_432, e1_432, el_432, em4_432, eb_432, en_432, hfr_432⟩ := hp
  have l_e0_432 := hW.lt e0_432
  have l_e1_432 := hW.lt e1_432
  have ha_432 : f_432 a = some (cLA 9 (nI i) none (some sg) (some on) (some ot) (some b) none) := (hfr_432 _ (by omega) (by omega) (by omega)).trans ha_405
  have hsg_432 : f_432 sg = some (aI E 1 gs) := (hfr_432 _ (by omega) (by omega) (by omega)).trans hsg_405
  have hon_432 : f_432 on = some (aQ E 7 1 go) := (hfr_432 _ (by omega) (by omega) (by omega)).trans hon_405
  have hot_432 : f_432 ot = some (aQ E 7 1 gt) := (hfr_432 _ (by omega) (by omega) (by omega)).trans hot_405
  have ha0_432 : f_432 a0 = some (cNode so0 ka0 xa0 ya0) := (hfr_432 _ (by omega) (by omega) (by omega)).trans ha0_405
  have hc0_432 : f_432 c0 = some (cNode sp0 kc0 xc0 yc0) := (hfr_432 _ (by omega) (by omega) (by omega)).trans hc0_405
  refine lv_aload_n hx hb dX13_text_435 rfl (lv_at hl 2 rfl) ?_
  refine q_get hx hb hts hown hA hW iX13 ha_432 rfl 4 (by decide) (hts (.fieldLink RX13 15 "HighRecipesLaw$Act" "ones" "[LHighRecipesLaw$Node;") (by decide +kernel)) (fun _ h9 => h9) (v := .ref on) rfl dX13_text_436 ?_
  refine lv_iload_n hx hb dX13_text_439 rfl (lv_at hl 0 rfl) ?_
  refine q_aald hx hb hA hW 7 rfl hon_432 (vp_in_nI (by decide) (by decide)) dX13_text_440 ?_
  rw [show go (0 : Int32).toNatClampNeg = some a0 from hgo0]
  refine q_cq (va_runV (As := []) (rest := [.ref n]) ⟨hx, hb, hml, hown, hts⟩ (kX16_text_0 l E f_432 n_432 a0 pn P _ W0 (NODE.to (fun q hq => have h8 := hP q hq; ⟨hq, ((hfr_432 _ (by omega) (by omega) (by omega)).trans ((hfr_405 _ (by omega) (by omega)).trans (q_ne (by omega) rfl)))⟩) hM0) hpn) (cwV 0 hts gX13_text_X16_text rfl rfl rfl (by decide +kernel) ⟨(Nat.le_of_ble_eq_true rfl), (Nat.le_of_ble_eq_true rfl)⟩) (q_pV hA hW hS (ci := 16) rfl ha0_432) rfl rfl hl.1 rfl (lv_room (Nat.le_of_ble_eq_true rfl)) dX13_text_441 ⟨(by show _ ≤ 220 + 221 * bC L; omega), (by show _ ≤ 66000 + 70000 * bC L; omega)⟩) hS (fun r_441 f_441 n_441 H locs hp hW hS => ?_)
  obtain ⟨r_441, rfl, eT_441, ef_441, en_441, hfr_441⟩ := hp
  have ha_441 : f_441 a = some (cLA 9 (nI i) none (some sg) (some on) (some ot) (some b) none) := (hfr_441 _ (by omega)).trans ha_432
  have hsg_441 : f_441 sg = some (aI E 1 gs) := (hfr_441 _ (by omega)).trans hsg_432
  have hon_441 : f_441 on = some (aQ E 7 1 go) := (hfr_441 _ (by omega)).trans hon_432
  have hot_441 : f_441 ot = some (aQ E 7 1 gt) := (hfr_441 _ (by omega)).trans hot_432
  have hc0_441 : f_441 c0 = some (cNode sp0 kc0 xc0 yc0) := (hfr_441 _ (by omega)).trans hc0_432
  have hn_441 : f_441 n = some (cSB b1_432 (nI (([] : List Int32) ++ kt 26).length)) := (hfr_441 _ (by omega)).trans e0_432
  have hb1_432_441 : f_441 b1_432 = some (aB E m1_432 (tx (([] : List Int32) ++ kt 26))) := (hfr_441 _ (by omega)).trans e1_432
  refine q_cq (va_runV (As := [.ref r_441]) (rest := []) ⟨hx, hb, hml, hown, hts⟩ (kJ4_append_S l E f_441 n_441 n b1_432 m1_432 r_441 2000 (([] : List Int32) ++ kt 26) W0 hn_441 hb1_432_441 (by (try simp only [List.length_append, List.length_nil, List.length_cons, pT_len, ktl_0, ktl_1, ktl_2, ktl_3, ktl_4, ktl_5, ktl_6, ktl_7, ktl_8, ktl_9, ktl_10, ktl_11, ktl_12, ktl_13, ktl_14, ktl_15, ktl_16, ktl_17, ktl_18, ktl_19, ktl_20, ktl_21, ktl_22, ktl_23, ktl_24, ktl_25, ktl_26, ktl_27, ktl_28, ktl_29, ktl_30, ktl_31, ktl_32, ktl_33, ktl_34, ktl_35, ktl_36, ktl_37, ktl_38, ktl_39, ktl_40, ktl_41, ktl_42, ktl_43, ktl_44, ktl_45, ktl_46, ktl_47, ktl_48, ktl_49]); omega) (by omega) (by omega) (by first | assumption | decide) (by repeat (first | exact okb_nil | assumption | exact kt_okb (by omega) | exact okb_pT (by omega) | exact dg_ok _ (by omega) | exact okb_one (by omega) | apply okb_app)) (by repeat (first | exact okb_nil | assumption | exact kt_okb (by omega) | exact okb_pT (by omega) | exact dg_ok _ (by omega) | exact okb_one (by omega) | apply okb_app)) eT_441 (fun rb h9 => by have := ef_441 rb h9; omega)) (cwV 1 hts gX13_text_J4_append_15ec4 rfl rfl rfl (by decide +kernel) ⟨(Nat.le_of_ble_eq_true rfl), (Nat.le_of_ble_eq_true rfl)⟩) (q_pV hA hW hS (ci := 1) rfl hn_441) rfl rfl hl.1 rfl (lv_room (Nat.le_of_ble_eq_true rfl)) dX13_text_444 ⟨(by show _ ≤ 220 + 221 * bC L; omega), (by show _ ≤ 66000 + 70000 * bC L; omega)⟩) hS (fun r_444 f_444 n_444 H locs hp hW hS => ?_)
  obtain ⟨b1_444, m1_444, rfl, e0_444, e1_444, el_444, em4_444, eb_444, en_444, hfr_444⟩ := hp
  have l_e0_444 := hW.lt e0_444
  have l_e1_444 := hW.lt e1_444
  have ha_444 : f_444 a = some (cLA 9 (nI i) none (some sg) (some on) (some ot) (some b) none) := (hfr_444 _ (by omega) (by omega) (by omega)).trans ha_441
  have hsg_444 : f_444 sg = some (aI E 1 gs) := (hfr_444 _ (by omega) (by omega) (by omega)).trans hsg_441
  have hon_444 : f_444 on = some (aQ E 7 1 go) := (hfr_444 _ (by omega) (by omega) (by omega)).trans hon_441
  have hot_444 : f_444 ot = some (aQ E 7 1 gt) := (hfr_444 _ (by omega) (by omega) (by omega)).trans hot_441
  have hc0_444 : f_444 c0 = some (cNode sp0 kc0 xc0 yc0) := (hfr_444 _ (by omega) (by omega) (by omega)).trans hc0_441
  refine va_gets (n := "COMPARES") (v := .ref (E.2.2.2 105)) hx hb hA.2.2.1.2.2.2.2.1.2.2.2.1 hS hown (hts (.fieldLink RX13 132 "HighRecipesLaw$Act" "COMPARES" "[Ljava/lang/String;") (by decide +kernel)) (fun _ h9 => h9) dX13_text_447 ?_
  refine lv_aload_n hx hb dX13_text_450 rfl (lv_at hl 2 rfl) ?_
  refine q_get hx hb hts hown hA hW iX13 ha_444 rfl 3 (by decide) (hts (.fieldLink RX13 7 "HighRecipesLaw$Act" "signs" "[I") (by decide +kernel)) (fun _ h9 => h9) (v := .ref sg) rfl dX13_text_451 ?_
  refine lv_iload_n hx hb dX13_text_454 rfl (lv_at hl 0 rfl) ?_
  refine q_iald hx hb hA hW hsg_444 (vp_in_nI (by decide) (by decide)) dX13_text_455 ?_
  rw [show gs (0 : Int32).toNatClampNeg = nI s0 from hgs0]
  refine vb_tq hx hb hA.2.2.1.2.2.2.2.1.2.2.2.2 hS (vp_in_nI (by omega) (by decide)) (v := .ref (E.2.2.2 (200 + (47 + s0)))) (by rw [nI_clamp (by omega)]) dX13_text_456 ?_
  refine q_cq (va_runV (As := [.ref (E.2.2.2 (200 + (47 + s0)))]) (rest := []) ⟨hx, hb, hml, hown, hts⟩ (kJ4_append_k l E f_444 n_444 n b1_444 m1_444 (47 + s0) 2000 ((([] : List Int32) ++ kt 26) ++ W0) e0_444 e1_444 (by (try simp only [List.length_append, List.length_nil, List.length_cons, pT_len, ktl_0, ktl_1, ktl_2, ktl_3, ktl_4, ktl_5, ktl_6, ktl_7, ktl_8, ktl_9, ktl_10, ktl_11, ktl_12, ktl_13, ktl_14, ktl_15, ktl_16, ktl_17, ktl_18, ktl_19, ktl_20, ktl_21, ktl_22, ktl_23, ktl_24, ktl_25, ktl_26, ktl_27, ktl_28, ktl_29, ktl_30, ktl_31, ktl_32, ktl_33, ktl_34, ktl_35, ktl_36, ktl_37, ktl_38, ktl_39, ktl_40, ktl_41, ktl_42, ktl_43, ktl_44, ktl_45, ktl_46, ktl_47, ktl_48, ktl_49]); omega) (by omega) (by omega) (by first | assumption | decide) (by repeat (first | exact okb_nil | assumption | exact kt_okb (by omega) | exact okb_pT (by omega) | exact dg_ok _ (by omega) | exact okb_one (by omega) | apply okb_app)) (by omega)) (cwV 1 hts gX13_text_J4_append_15ec4 rfl rfl rfl (by decide +kernel) ⟨(Nat.le_of_ble_eq_true rfl), (Nat.le_of_ble_eq_true rfl)⟩) (q_pV hA hW hS (ci := 1) rfl e0_444) rfl rfl hl.1 rfl (lv_room (Nat.le_of_ble_eq_true rfl)) dX13_text_457 ⟨(by show _ ≤ 220 + 221 * bC L; omega), (by show _ ≤ 66000 + 70000 * bC L; omega)⟩) hS (fun r_457 f_457 n_457 H locs hp hW hS => ?_)
  obtain ⟨b1_457, m1_457, rfl, e0_457, e1_457, el_457, em4_457, eb_457, en_457, hfr_457⟩ := hp
  have l_e0_457 := hW.lt e0_457
  have l_e1_457 := hW.lt e1_457
  have ha_457 : f_457 a = some (cLA 9 (nI i) none (some sg) (some on) (some ot) (some b) none) := (hfr_457 _ (by omega) (by omega) (by omega)).trans ha_444
  have hsg_457 : f_457 sg = some (aI E 1 gs) := (hfr_457 _ (by omega) (by omega) (by omega)).trans hsg_444
  have hon_457 : f_457 on = some (aQ E 7 1 go) := (hfr_457 _ (by omega) (by omega) (by omega)).trans hon_444
  have hot_457 : f_457 ot = some (aQ E 7 1 gt) := (hfr_457 _ (by omega) (by omega) (by omega)).trans hot_444
  have hc0_457 : f_457 c0 = some (cNode sp0 kc0 xc0 yc0) := (hfr_457 _ (by omega) (by omega) (by omega)).trans hc0_444
  refine lv_aload_n hx hb dX13_text_460 rfl (lv_at hl 2 rfl) ?_
  refine q_get hx hb hts hown hA hW iX13 ha_457 rfl 5 (by decide) (hts (.fieldLink RX13 19 "HighRecipesLaw$Act" "others" "[LHighRecipesLaw$Node;") (by decide +kernel)) (fun _ h9 => h9) (v := .ref ot) rfl dX13_text_461 ?_
  refine lv_iload_n hx hb dX13_text_464 rfl (lv_at hl 0 rfl) ?_
  refine q_aald hx hb hA hW 7 rfl hot_457 (vp_in_nI (by decide) (by decide)) dX13_text_465 ?_
  rw [show gt (0 : Int32).toNatClampNeg = some c0 from hgt0]
  refine q_cq (va_runV (As := []) (rest := [.ref n]) ⟨hx, hb, hml, hown, hts⟩ (kX16_text_0 l E f_457 n_457 c0 pn P _ Y0 (NODE.to (fun q hq => have h8 := hP q hq; ⟨hq, ((hfr_457 _ (by omega) (by omega) (by omega)).trans ((hfr_444 _ (by omega) (by omega) (by omega)).trans ((hfr_441 _ (by omega)).trans ((hfr_432 _ (by omega) (by omega) (by omega)).trans ((hfr_405 _ (by omega) (by omega)).trans (q_ne (by omega) rfl))))))⟩) hQ0) hpn) (cwV 0 hts gX13_text_X16_text rfl rfl rfl (by decide +kernel) ⟨(Nat.le_of_ble_eq_true rfl), (Nat.le_of_ble_eq_true rfl)⟩) (q_pV hA hW hS (ci := 16) rfl hc0_457) rfl rfl hl.1 rfl (lv_room (Nat.le_of_ble_eq_true rfl)) dX13_text_466 ⟨(by show _ ≤ 220 + 221 * bC L; omega), (by show _ ≤ 66000 + 70000 * bC L; omega)⟩) hS (fun r_466 f_466 n_466 H locs hp hW hS => ?_)
  obtain ⟨r_466, rfl, eT_466, ef_466, en_466, hfr_466⟩ := hp
  have ha_466 : f_466 a = some (cLA 9 (nI i) none (some sg) (some on) (some ot) (some b) none) := (hfr_466 _ (by omega)).trans ha_457
  have hsg_466 : f_466 sg = some (aI E 1 gs) := (hfr_466 _ (by omega)).trans hsg_457
  have hn_466 : f_466 n = some (cSB b1_457 (nI (((([] : List Int32) ++ kt 26) ++ W0) ++ kt (47 + s0)).length)) := (hfr_466 _ (by omega)).trans e0_457
  have hb1_457_466 : f_466 b1_457 = some (aB E m1_457 (tx (((([] : List Int32) ++ kt 26) ++ W0) ++ kt (47 + s0)))) := (hfr_466 _ (by omega)).trans e1_457
  refine q_cq (va_runV (As := [.ref r_466]) (rest := []) ⟨hx, hb, hml, hown, hts⟩ (kJ4_append_S l E f_466 n_466 n b1_457 m1_457 r_466 2000 (((([] : List Int32) ++ kt 26) ++ W0) ++ kt (47 + s0)) Y0 hn_466 hb1_457_466 (by (try simp only [List.length_append, List.length_nil, List.length_cons, pT_len, ktl_0, ktl_1, ktl_2, ktl_3, ktl_4, ktl_5, ktl_6, ktl_7, ktl_8, ktl_9, ktl_10, ktl_11, ktl_12, ktl_13, ktl_14, ktl_15, ktl_16, ktl_17, ktl_18, ktl_19, ktl_20, ktl_21, ktl_22, ktl_23, ktl_24, ktl_25, ktl_26, ktl_27, ktl_28, ktl_29, ktl_30, ktl_31, ktl_32, ktl_33, ktl_34, ktl_35, ktl_36, ktl_37, ktl_38, ktl_39, ktl_40, ktl_41, ktl_42, ktl_43, ktl_44, ktl_45, ktl_46, ktl_47, ktl_48, ktl_49]); omega) (by omega) (by omega) (by first | assumption | decide) (by repeat (first | exact okb_nil | assumption | exact kt_okb (by omega) | exact okb_pT (by omega) | exact dg_ok _ (by omega) | exact okb_one (by omega) | apply okb_app)) (by repeat (first | exact okb_nil | assumption | exact kt_okb (by omega) | exact okb_pT (by omega) | exact dg_ok _ (by omega) | exact okb_one (by omega) | apply okb_app)) eT_466 (fun rb h9 => by have := ef_466 rb h9; omega)) (cwV 1 hts gX13_text_J4_append_15ec4 rfl rfl rfl (by decide +kernel) ⟨(Nat.le_of_ble_eq_true rfl), (Nat.le_of_ble_eq_true rfl)⟩) (q_pV hA hW hS (ci := 1) rfl hn_466) rfl rfl hl.1 rfl (lv_room (Nat.le_of_ble_eq_true rfl)) dX13_text_469 ⟨(by show _ ≤ 220 + 221 * bC L; omega), (by show _ ≤ 66000 + 70000 * bC L; omega)⟩) hS (fun r_469 f_469 n_469 H locs hp hW hS => ?_)
  obtain ⟨b1_469, m1_469, rfl, e0_469, e1_469, el_469, em4_469, eb_469, en_469, hfr_469⟩ := hp
  have l_e0_469 := hW.lt e0_469
  have l_e1_469 := hW.lt e1_469
  have ha_469 : f_469 a = some (cLA 9 (nI i) none (some sg) (some on) (some ot) (some b) none) := (hfr_469 _ (by omega) (by omega) (by omega)).trans ha_466
  have hsg_469 : f_469 sg = some (aI E 1 gs) := (hfr_469 _ (by omega) (by omega) (by omega)).trans hsg_466
  refine lv_pop hx hb dX13_text_472 rfl ?_
  refine lv_iinc (v := 1) (lv' := [(2, .int 1), (1, .ref n), (0, .ref a)]) hx hb dX13_text_473 hl (k := 0) rfl (by decide) (by decide) rfl (fun ls hl => ?_)
  refine lv_goto (tgt := 411) hx hb dX13_text_476 (by decide) ?_
  refine lv_iload_n hx hb dX13_text_411 rfl (lv_at hl 0 rfl) ?_
  refine lv_aload_n hx hb dX13_text_412 rfl (lv_at hl 2 rfl) ?_
  refine q_get hx hb hts hown hA hW iX13 ha_469 rfl 3 (by decide) (hts (.fieldLink RX13 7 "HighRecipesLaw$Act" "signs" "[I") (by decide +kernel)) (fun _ h9 => h9) (v := .ref sg) rfl dX13_text_413 ?_
  refine q_alen hx hb hA hW 0 rfl hsg_469 (v := 1) rfl dX13_text_416 ?_
  refine lv_icmp_ge (tgt := 479) hx hb dX13_text_417 (by decide) (fun c_417 => ?_) (fun c_417 => absurd c_417 (by decide))
  refine W.widen (k := 150) (n := 37220) (by omega) (by omega) ?_
  exact K479 f_469 n_469 b1_469 m1_469 ((((([] : List Int32) ++ kt 26) ++ W0) ++ kt (47 + s0)) ++ Y0) ha_469 e0_469 e1_469 (by first | assumption | omega) (by omega) (by simp only [List.length_append, List.length_nil, ktl_26, ktl_27, lk0]; omega) (by repeat (first | assumption | exact kt_okb (by decide) | exact kt_okb (by omega) | exact okb_nil | apply okb_app)) (by omega) (by omega) (by omega) rfl (fun z9 g0 => ((hfr_469 _ (by omega) (by omega) (by omega)).trans ((hfr_466 _ (by omega)).trans ((hfr_457 _ (by omega) (by omega) (by omega)).trans ((hfr_444 _ (by omega) (by omega) (by omega)).trans ((hfr_441 _ (by omega)).trans ((hfr_432 _ (by omega) (by omega) (by omega)).trans ((hfr_405 _ (by omega) (by omega)).trans (q_ne (by omega) rfl))))))))) _ _ _ hW hS (lv_sub hl [2, 1] rfl)

set_option maxHeartbeats 4000000 in
set_option maxRecDepth 100000 in
theorem kX13_text_9_3_1e (l : Launch) (E : q_E) (f : q_H) (n : Nat) (a pn R i b b2 sg on ot : Nat) (RS : Nat → q_S) (P : Nat → Prop) (L L2 : List LT) (s0 a0 c0 : Nat) (D0 E0 : q_D) (W0 Y0 : List Int32) (gs : Nat → Int32) (go gt : Nat → Option Nat) (h0 : f a = some (cLA 9 (nI i) none (some sg) (some on) (some ot) (some b) (some b2))) (h1 : f sg = some (aI E 1 gs)) (h2 : f on = some (aQ E 7 1 go)) (h3 : f ot = some (aQ E 7 1 gt)) (hpn : pn ≤ 8) (hP : ∀ q, P q → q < n) (hR : R ≤ 6) (hs0 : s0 < 3) (hgs0 : gs 0 = nI s0) (hgo0 : go 0 = some a0) (hgt0 : gt 0 = some c0) (hM0 : NODE pn P f 0 a0 D0 W0) (hQ0 : NODE pn P f 0 c0 E0 Y0) (hL : LB P E f (LACT E pn R RS P f 3) b L) (hL2 : LB P E f (LACT E pn R RS P f 3) b2 L2) (hc : bC L + bC L2 ≤ 14) : Met l yX13_text wsX13_text ({ frames := 68, cells := 220 + 221 * (bC L + bC L2), slots := 66000 + 70000 * (bC L + bC L2), locals := 3300 }) (q_P E [.ref a] f n) (q_Qq E (fun r0 f1 n1 => ∃ (r : Nat), some r = r0 ∧ f1 r = some (cStr (r + 1)) ∧ f1 (r + 1) = some (aB E ((kt 26 ++ W0 ++ kt (47 + s0) ++ Y0 ++ bT L ++ kt 28 ++ bT L2).length) (tx (kt 26 ++ W0 ++ kt (47 + s0) ++ Y0 ++ bT L ++ kt 28 ++ bT L2))) ∧ n ≤ r ∧ n ≤ n1 ∧ ∀ z9, z9 < n → f1 z9 = f z9)) (220 + 221 * (bC L + bC L2)) (66000 + 70000 * (bC L + bC L2)) (q_ge E) := by
  refine Met.ofW (cc := cX13_text) (maxL := 3) (ret := (some (.object "java/lang/String"))) (by decide) rfl ?_
  intro p0_ e0_ s0_ m0_ args0_ below0_ meth0_ c0_ s1_ B0_ hml hv
  obtain ⟨rfl, hA, hW⟩ := hv
  have hx := B0_.exec
  have hb := B0_.bytes
  have hr := B0_.returns
  have hts := atoms_spec (ws := wsX13_text) B0_.pre
  have hown : s0_.vm.findClass RX13 = some m0_.cls := findClass_of_methodNamed B0_.named
  have hlocks := B0_.notSynchronized
  have hS : va_S (q_ge E) s0_.heap s0_.heap [] := va_S.rf
  have iJ4 : ∀ w ∈ wsJ40, w ∈ wsX13_text := by decide +kernel
  have iX13 : ∀ w ∈ wsX130, w ∈ wsX13_text := by decide +kernel
  have hl := lv_entry ([.ref a]) (n := 3) (Nat.le_of_ble_eq_true rfl)
  rw [lg_entry_eq]
  generalize (lg_sl ([.ref a]) ++ List.replicate (3 - (lg_sl ([.ref a])).length) Slot.unset).toArray = ls at hl ⊢
  have hl : lv_has ls 3 [(0, .ref a)] := hl
  have l_h0 := hW.lt h0
  have l_h1 := hW.lt h1
  have l_h2 := hW.lt h2
  have l_h3 := hW.lt h3
  have lM0 := hM0.len0
  have lQ0 := hQ0.len0
  have oM0 := hM0.okb hpn
  have oQ0 := hQ0.okb hpn
  obtain ⟨-, so0, ka0, xa0, ya0, hca0⟩ := hM0.cell
  obtain ⟨-, sp0, kc0, xc0, yc0, hcc0⟩ := hQ0.cell
  have l_a0 := hW.lt hca0
  have l_c0 := hW.lt hcc0
  have lk0 : (kt (47 + s0)).length = 1 := kt_len47 s0 hs0
  have hnL := bV_len (LACT.len hpn hR 3) L hL.2.2
  have lL := hnL.1
  have oL := bT_okb hnL.2
  have lTL := bT_len L
  have hnL2 := bV_len (LACT.len hpn hR 3) L2 hL2.2.2
  have lL2 := hnL2.1
  have oL2 := bT_okb hnL2.2
  have lTL2 := bT_len L2
  have K479 : ∀ (F : q_H) (N bb mm : Nat) (V9 : List Int32) (haF : F a = some (cLA 9 (nI i) none (some sg) (some on) (some ot) (some b) (some b2))) (hsF : F n = some (cSB bb (nI V9.length))) (hbF : F bb = some (aB E mm (tx V9))) (hlm : V9.length ≤ mm) (hmm : mm ≤ 4000) (hlV : V9.length ≤ 200) (hoV : okb V9) (hnb : n ≤ bb) (hnN : n < N) (hbN : bb < N) (hVe : V9 ++ bT L ++ kt 28 ++ bT L2 = kt 26 ++ W0 ++ kt (47 + s0) ++ Y0 ++ bT L ++ kt 28 ++ bT L2) (hfr_K479 : ∀ z9, z9 < n → F z9 = f z9) (H : Heap) (locs : List Loc) (ls : Array Slot), q_W E F N H → va_S (q_ge E) s0_.heap H locs → lv_has ls 3 [(0, .ref a), (1, .ref n)] → W p0_ l e0_ (headSpec wsX13_text ({ frames := 68, cells := 220 + 221 * (bC L + bC L2), slots := 66000 + 70000 * (bC L + bC L2), locals := 3300 })).room s0_ m0_ ([.ref a] : List Value).toArray below0_ meth0_ c0_ H locs 150 37220 (MQ below0_ (q_Qq E (fun r0 f1 n1 => ∃ (r : Nat), some r = r0 ∧ f1 r = some (cStr (r + 1)) ∧ f1 (r + 1) = some (aB E ((kt 26 ++ W0 ++ kt (47 + s0) ++ Y0 ++ bT L ++ kt 28 ++ bT L2).length) (tx (kt 26 ++ W0 ++ kt (47 + s0) ++ Y0 ++ bT L ++ kt 28 ++ bT L2))) ∧ n ≤ r ∧ n ≤ n1 ∧ ∀ z9, z9 < n → f1 z9 = f z9)) ([.ref a] : List Value).toArray s0_ (220 + 221 * (bC L + bC L2)) (66000 + 70000 * (bC L + bC L2)) (q_ge E)) (F0 m0_ 479 ls []) := by
    intro F N bb mm V9 haF hsF hbF hlm hmm hlV hoV hnb hnN hbN hVe hfr_K479 H locs ls hW hS hl
    refine lv_aload_n hx hb dX13_text_479 rfl (lv_at hl 1 rfl) ?_
    refine lv_aload_n hx hb dX13_text_480 rfl (lv_at hl 0 rfl) ?_
    refine q_get hx hb hts hown hA hW iX13 haF rfl 6 (by decide) (hts (.fieldLink RX13 22 "HighRecipesLaw$Act" "block" "[LHighRecipesLaw$Act;") (by decide +kernel)) (fun _ h9 => h9) (v := .ref b) rfl dX13_text_481 ?_
    refine q_cq (va_runS (As := [.ref b]) (rest := [.ref n]) ⟨hx, hb, hml, hown, hts⟩ (kX13_texts_3 l E F N b pn R RS P L hpn (fun q hq => by have := hP q hq; omega) hR (LB.to (fun q hq => have h8 := hP q hq; ⟨hq, ((hfr_K479 _ (by omega)).trans rfl)⟩) (fun x hx => LACT.to (fun q hq => have h8 := hP q hq; ⟨hq, ((hfr_K479 _ (by omega)).trans rfl)⟩) (Nat.le_refl _) (fun _ _ => rfl) 3 x hx) hL) (by omega)) (va_cwS 1 hts gX13_text_X13_texts rfl rfl rfl (by decide +kernel) ⟨(Nat.le_of_ble_eq_true rfl), (Nat.le_of_ble_eq_true rfl)⟩) (q_pS hA hW hS) rfl rfl hl.1 rfl (lv_room (Nat.le_of_ble_eq_true rfl)) dX13_text_484 ⟨(by show _ ≤ 220 + 221 * (bC L + bC L2); omega), (by show _ ≤ 66000 + 70000 * (bC L + bC L2); omega)⟩) hS (fun r_484 f_484 n_484 H locs hp hW hS => ?_)
    obtain ⟨r_484, rfl, e0_484, e1_484, er_484, en_484, hfr_484⟩ := hp
    have l_e0_484 := hW.lt e0_484
    have l_e1_484 := hW.lt e1_484
    have ha_484 : f_484 a = some (cLA 9 (nI i) none (some sg) (some on) (some ot) (some b) (some b2)) := (hfr_484 _ (by omega)).trans haF
    have hn_484 : f_484 n = some (cSB bb (nI V9.length)) := (hfr_484 _ (by omega)).trans hsF
    have hbb_484 : f_484 bb = some (aB E mm (tx V9)) := (hfr_484 _ (by omega)).trans hbF
    refine q_cq (va_runV (As := [.ref r_484]) (rest := []) ⟨hx, hb, hml, hown, hts⟩ (kJ4_append_15ec4 l E f_484 n_484 n bb mm r_484 (r_484 + 1) 2000 V9 (bT L) hn_484 hbb_484 e0_484 e1_484 (by (try simp only [List.length_append, List.length_nil, List.length_cons, pT_len, ktl_0, ktl_1, ktl_2, ktl_3, ktl_4, ktl_5, ktl_6, ktl_7, ktl_8, ktl_9, ktl_10, ktl_11, ktl_12, ktl_13, ktl_14, ktl_15, ktl_16, ktl_17, ktl_18, ktl_19, ktl_20, ktl_21, ktl_22, ktl_23, ktl_24, ktl_25, ktl_26, ktl_27, ktl_28, ktl_29, ktl_30, ktl_31, ktl_32, ktl_33, ktl_34, ktl_35, ktl_36, ktl_37, ktl_38, ktl_39, ktl_40, ktl_41, ktl_42, ktl_43, ktl_44, ktl_45, ktl_46, ktl_47, ktl_48, ktl_49]); omega) (by omega) (by omega) (by first | assumption | decide) (by repeat (first | exact okb_nil | assumption | exact kt_okb (by omega) | exact okb_pT (by omega) | exact dg_ok _ (by omega) | exact okb_one (by omega) | apply okb_app)) (by repeat (first | exact okb_nil | assumption | exact kt_okb (by omega) | exact okb_pT (by omega) | exact dg_ok _ (by omega) | exact okb_one (by omega) | apply okb_app)) (by omega)) (cwV 1 hts gX13_text_J4_append_15ec4 rfl rfl rfl (by decide +kernel) ⟨(Nat.le_of_ble_eq_true rfl), (Nat.le_of_ble_eq_true rfl)⟩) (q_pV hA hW hS (ci := 1) rfl hn_484) rfl rfl hl.1 rfl (lv_room (Nat.le_of_ble_eq_true rfl)) dX13_text_487 ⟨(by show _ ≤ 220 + 221 * (bC L + bC L2); omega), (by show _ ≤ 66000 + 70000 * (bC L + bC L2); omega)⟩) hS (fun r_487 f_487 n_487 H locs hp hW hS => ?_)
    obtain ⟨b1_487, m1_487, rfl, e0_487, e1_487, el_487, em4_487, eb_487, en_487, hfr_487⟩ := hp
    have l_e0_487 := hW.lt e0_487
    have l_e1_487 := hW.lt e1_487
    have ha_487 : f_487 a = some (cLA 9 (nI i) none (some sg) (some on) (some ot) (some b) (some b2)) := (hfr_487 _ (by omega) (by omega) (by omega)).trans ha_484
    refine lv_pop hx hb dX13_text_490 rfl ?_
    refine lv_aload_n hx hb dX13_text_491 rfl (lv_at hl 0 rfl) ?_
    refine q_get hx hb hts hown hA hW iX13 ha_487 rfl 7 (by decide) (hts (.fieldLink RX13 58 "HighRecipesLaw$Act" "other" "[LHighRecipesLaw$Act;") (by decide +kernel)) (fun _ h9 => h9) (v := .ref b2) rfl dX13_text_492 ?_
    refine lv_ifnull hx hb dX13_text_495 ?_
    refine lv_aload_n hx hb dX13_text_498 rfl (lv_at hl 1 rfl) ?_
    refine va_ldcS (own := "HighRecipesLaw$Act") hx hb hown (q_ldk hA (i := 28) (by decide)) dX13_text_499 ?_
    refine q_cq (va_runV (As := [.ref (E.2.2.2 (200 + 28))]) (rest := []) ⟨hx, hb, hml, hown, hts⟩ (kJ4_append_k l E f_487 n_487 n b1_487 m1_487 28 2000 (V9 ++ (bT L)) e0_487 e1_487 (by (try simp only [List.length_append, List.length_nil, List.length_cons, pT_len, ktl_0, ktl_1, ktl_2, ktl_3, ktl_4, ktl_5, ktl_6, ktl_7, ktl_8, ktl_9, ktl_10, ktl_11, ktl_12, ktl_13, ktl_14, ktl_15, ktl_16, ktl_17, ktl_18, ktl_19, ktl_20, ktl_21, ktl_22, ktl_23, ktl_24, ktl_25, ktl_26, ktl_27, ktl_28, ktl_29, ktl_30, ktl_31, ktl_32, ktl_33, ktl_34, ktl_35, ktl_36, ktl_37, ktl_38, ktl_39, ktl_40, ktl_41, ktl_42, ktl_43, ktl_44, ktl_45, ktl_46, ktl_47, ktl_48, ktl_49]); omega) (by omega) (by omega) (by first | assumption | decide) (by repeat (first | exact okb_nil | assumption | exact kt_okb (by omega) | exact okb_pT (by omega) | exact dg_ok _ (by omega) | exact okb_one (by omega) | apply okb_app)) (by omega)) (cwV 1 hts gX13_text_J4_append_15ec4 rfl rfl rfl (by decide +kernel) ⟨(Nat.le_of_ble_eq_true rfl), (Nat.le_of_ble_eq_true rfl)⟩) (q_pV hA hW hS (ci := 1) rfl e0_487) rfl rfl hl.1 rfl (lv_room (Nat.le_of_ble_eq_true rfl)) dX13_text_501 ⟨(by show _ ≤ 220 + 221 * (bC L + bC L2); omega), (by show _ ≤ 66000 + 70000 * (bC L + bC L2); omega)⟩) hS (fun r_501 f_501 n_501 H locs hp hW hS => ?_)
    obtain ⟨b1_501, m1_501, rfl, e0_501, e1_501, el_501, em4_501, eb_501, en_501, hfr_501⟩ := hp
    have l_e0_501 := hW.lt e0_501
    have l_e1_501 := hW.lt e1_501
    have ha_501 : f_501 a = some (cLA 9 (nI i) none (some sg) (some on) (some ot) (some b) (some b2)) := (hfr_501 _ (by omega) (by omega) (by omega)).trans ha_487
    refine lv_aload_n hx hb dX13_text_504 rfl (lv_at hl 0 rfl) ?_
    refine q_get hx hb hts hown hA hW iX13 ha_501 rfl 7 (by decide) (hts (.fieldLink RX13 58 "HighRecipesLaw$Act" "other" "[LHighRecipesLaw$Act;") (by decide +kernel)) (fun _ h9 => h9) (v := .ref b2) rfl dX13_text_505 ?_
    refine q_cq (va_runS (As := [.ref b2]) (rest := [.ref n]) ⟨hx, hb, hml, hown, hts⟩ (kX13_texts_3 l E f_501 n_501 b2 pn R RS P L2 hpn (fun q hq => by have := hP q hq; omega) hR (LB.to (fun q hq => have h8 := hP q hq; ⟨hq, ((hfr_501 _ (by omega) (by omega) (by omega)).trans ((hfr_487 _ (by omega) (by omega) (by omega)).trans ((hfr_484 _ (by omega)).trans ((hfr_K479 _ (by omega)).trans rfl))))⟩) (fun x hx => LACT.to (fun q hq => have h8 := hP q hq; ⟨hq, ((hfr_501 _ (by omega) (by omega) (by omega)).trans ((hfr_487 _ (by omega) (by omega) (by omega)).trans ((hfr_484 _ (by omega)).trans ((hfr_K479 _ (by omega)).trans rfl))))⟩) (Nat.le_refl _) (fun _ _ => rfl) 3 x hx) hL2) (by omega)) (va_cwS 1 hts gX13_text_X13_texts rfl rfl rfl (by decide +kernel) ⟨(Nat.le_of_ble_eq_true rfl), (Nat.le_of_ble_eq_true rfl)⟩) (q_pS hA hW hS) rfl rfl hl.1 rfl (lv_room (Nat.le_of_ble_eq_true rfl)) dX13_text_508 ⟨(by show _ ≤ 220 + 221 * (bC L + bC L2); omega), (by show _ ≤ 66000 + 70000 * (bC L + bC L2); omega)⟩) hS (fun r_508 f_508 n_508 H locs hp hW hS => ?_)
    obtain ⟨r_508, rfl, e0_508, e1_508, er_508, en_508, hfr_508⟩ := hp
    have l_e0_508 := hW.lt e0_508
    have l_e1_508 := hW.lt e1_508
    have ha_508 : f_508 a = some (cLA 9 (nI i) none (some sg) (some on) (some ot) (some b) (some b2)) := (hfr_508 _ (by omega)).trans ha_501
    have hn_508 : f_508 n = some (cSB b1_501 (nI ((V9 ++ (bT L)) ++ kt 28).length)) := (hfr_508 _ (by omega)).trans e0_501
    have hb1_501_508 : f_508 b1_501 = some (aB E m1_501 (tx ((V9 ++ (bT L)) ++ kt 28))) := (hfr_508 _ (by omega)).trans e1_501
    refine q_cq (va_runV (As := [.ref r_508]) (rest := []) ⟨hx, hb, hml, hown, hts⟩ (kJ4_append_15ec4 l E f_508 n_508 n b1_501 m1_501 r_508 (r_508 + 1) 2000 ((V9 ++ (bT L)) ++ kt 28) (bT L2) hn_508 hb1_501_508 e0_508 e1_508 (by (try simp only [List.length_append, List.length_nil, List.length_cons, pT_len, ktl_0, ktl_1, ktl_2, ktl_3, ktl_4, ktl_5, ktl_6, ktl_7, ktl_8, ktl_9, ktl_10, ktl_11, ktl_12, ktl_13, ktl_14, ktl_15, ktl_16, ktl_17, ktl_18, ktl_19, ktl_20, ktl_21, ktl_22, ktl_23, ktl_24, ktl_25, ktl_26, ktl_27, ktl_28, ktl_29, ktl_30, ktl_31, ktl_32, ktl_33, ktl_34, ktl_35, ktl_36, ktl_37, ktl_38, ktl_39, ktl_40, ktl_41, ktl_42, ktl_43, ktl_44, ktl_45, ktl_46, ktl_47, ktl_48, ktl_49]); omega) (by omega) (by omega) (by first | assumption | decide) (by repeat (first | exact okb_nil | assumption | exact kt_okb (by omega) | exact okb_pT (by omega) | exact dg_ok _ (by omega) | exact okb_one (by omega) | apply okb_app)) (by repeat (first | exact okb_nil | assumption | exact kt_okb (by omega) | exact okb_pT (by omega) | exact dg_ok _ (by omega) | exact okb_one (by omega) | apply okb_app)) (by omega)) (cwV 1 hts gX13_text_J4_append_15ec4 rfl rfl rfl (by decide +kernel) ⟨(Nat.le_of_ble_eq_true rfl), (Nat.le_of_ble_eq_true rfl)⟩) (q_pV hA hW hS (ci := 1) rfl hn_508) rfl rfl hl.1 rfl (lv_room (Nat.le_of_ble_eq_true rfl)) dX13_text_511 ⟨(by show _ ≤ 220 + 221 * (bC L + bC L2); omega), (by show _ ≤ 66000 + 70000 * (bC L + bC L2); omega)⟩) hS (fun r_511 f_511 n_511 H locs hp hW hS => ?_)
    obtain ⟨b1_511, m1_511, rfl, e0_511, e1_511, el_511, em4_511, eb_511, en_511, hfr_511⟩ := hp
    have l_e0_511 := hW.lt e0_511
    have l_e1_511 := hW.lt e1_511
    have ha_511 : f_511 a = some (cLA 9 (nI i) none (some sg) (some on) (some ot) (some b) (some b2)) := (hfr_511 _ (by omega) (by omega) (by omega)).trans ha_508
    refine lv_pop hx hb dX13_text_514 rfl ?_
    refine lv_aload_n hx hb dX13_text_515 rfl (lv_at hl 1 rfl) ?_
    refine q_cq (va_runV (As := []) (rest := []) ⟨hx, hb, hml, hown, hts⟩ (kJ4_toString_0e30d l E f_511 n_511 n b1_511 m1_511 2000 (((V9 ++ (bT L)) ++ kt 28) ++ (bT L2)) e0_511 e1_511 (by assumption) (by omega) (by (try simp only [List.length_append, List.length_nil, List.length_cons, pT_len, ktl_0, ktl_1, ktl_2, ktl_3, ktl_4, ktl_5, ktl_6, ktl_7, ktl_8, ktl_9, ktl_10, ktl_11, ktl_12, ktl_13, ktl_14, ktl_15, ktl_16, ktl_17, ktl_18, ktl_19, ktl_20, ktl_21, ktl_22, ktl_23, ktl_24, ktl_25, ktl_26, ktl_27, ktl_28, ktl_29, ktl_30, ktl_31, ktl_32, ktl_33, ktl_34, ktl_35, ktl_36, ktl_37, ktl_38, ktl_39, ktl_40, ktl_41, ktl_42, ktl_43, ktl_44, ktl_45, ktl_46, ktl_47, ktl_48, ktl_49]); omega) (by omega) (by repeat (first | exact okb_nil | assumption | exact kt_okb (by omega) | exact okb_pT (by omega) | exact dg_ok _ (by omega) | exact okb_one (by omega) | apply okb_app))) (cwV 0 hts gX13_text_J4_toString_0e30d rfl rfl rfl (by decide +kernel) ⟨(Nat.le_of_ble_eq_true rfl), (Nat.le_of_ble_eq_true rfl)⟩) (q_pV hA hW hS (ci := 1) rfl e0_511) rfl rfl hl.1 rfl (lv_room (Nat.le_of_ble_eq_true rfl)) dX13_text_516 ⟨(by show _ ≤ 220 + 221 * (bC L + bC L2); omega), (by show _ ≤ 66000 + 70000 * (bC L + bC L2); omega)⟩) hS (fun r_516 f_516 n_516 H locs hp hW hS => ?_)
    obtain ⟨rfl, e0_516, e1_516, en_516, hfr_516⟩ := hp
    have l_e0_516 := hW.lt e0_516
    have l_e1_516 := hW.lt e1_516
    have ha_516 : f_516 a = some (cLA 9 (nI i) none (some sg) (some on) (some ot) (some b) (some b2)) := (hfr_516 _ (by omega)).trans ha_511
    have hn_516 : f_516 n = some (cSB b1_511 (nI (((V9 ++ (bT L)) ++ kt 28) ++ (bT L2)).length)) := (hfr_516 _ (by omega)).trans e0_511
    have hb1_511_516 : f_516 b1_511 = some (aB E m1_511 (tx (((V9 ++ (bT L)) ++ kt 28) ++ (bT L2)))) := (hfr_516 _ (by omega)).trans e1_511
    exact q_aret (v := some n_511) hx hb hr (Or.inl ⟨_, rfl⟩) hlocks hW hS ⟨n_511, rfl, e0_516, (by rw [← hVe]; exact e1_516), (by omega), (by omega), (fun q g0 => ((hfr_516 _ (by omega)).trans ((hfr_511 _ (by omega) (by omega) (by omega)).trans ((hfr_508 _ (by omega)).trans ((hfr_501 _ (by omega) (by omega) (by omega)).trans ((hfr_487 _ (by omega) (by omega) (by omega)).trans ((hfr_484 _ (by omega)).trans ((hfr_K479 _ (by omega)).trans rfl))))))))⟩ (by show _ ≤ 220 + 221 * (bC L + bC L2); omega) (by show _ ≤ 66000 + 70000 * (bC L + bC L2); omega) dX13_text_519
  refine lv_aload_n hx hb dX13_text_0 rfl (lv_at hl 0 rfl) ?_
  refine q_get hx hb hts hown hA hW iX13 h0 rfl 0 (by decide) (hts (.fieldLink RX13 37 "HighRecipesLaw$Act" "does" "I") (by decide +kernel)) (fun _ h9 => h9) (v := .int 9) rfl dX13_text_1 ?_
  refine lv_tableOut (x := 9) (tgt := 401) hx hb dX13_text_4 (by decide) (by decide) ?_
  refine q_new (ci := 1) hx hb hts hown hA hW hS iJ4 tyJ4 tyJ4_ok (hts (.classLink RX13 61 RJ4) (by decide +kernel)) (hts (.instantiable RJ4 4) (by decide +kernel)) (hts (.initialized RJ4) (by decide +kernel)) rfl (fs := [.null, .int 0, .int 0, .int 0]) (by decide) (by show _ ≤ 220 + 221 * (bC L + bC L2); omega) (by show _ ≤ 66000 + 70000 * (bC L + bC L2); omega) dX13_text_401 (fun H hW hS => ?_)
  have hW : q_W E (va_up f n (some (rSB none 0 0 0))) (n + 1) H := hW
  refine lv_dup hx hb dX13_text_404 rfl ?_
  refine q_cv (va_runI (As := []) (rest := [.ref n]) ⟨hx, hb, hml, hown, hts⟩ (kJ4_init_da8c8 l E (va_up f n (some (rSB none 0 0 0))) (n + 1) n q_eq) (cwI 0 hts gX13_text_J4_init_da8c8 rfl rfl rfl (hts (.initialized RJ4) (by decide +kernel)) (hts (.methodLink RX13 81 yJ4_init_da8c8) (by decide +kernel)) (hts (.instanceMethod yJ4_init_da8c8) (by decide +kernel)) rfl (by decide +kernel) ⟨(Nat.le_of_ble_eq_true rfl), (Nat.le_of_ble_eq_true rfl)⟩) (q_pS hA hW hS) rfl rfl hl.1 rfl (lv_room (Nat.le_of_ble_eq_true rfl)) dX13_text_405 ⟨(by show _ ≤ 220 + 221 * (bC L + bC L2); omega), (by show _ ≤ 66000 + 70000 * (bC L + bC L2); omega)⟩) hS (fun f_405 n_405 H locs hp hW hS => ?_)
  obtain ⟨e0_405, e1_405, en_405, hfr_405⟩ := hp
  have l_e0_405 := hW.lt e0_405
  have l_e1_405 := hW.lt e1_405
  have ha_405 : f_405 a = some (cLA 9 (nI i) none (some sg) (some on) (some ot) (some b) (some b2)) := (hfr_405 _ (by omega) (by omega)).trans (q_ne (by omega) h0)
  have hsg_405 : f_405 sg = some (aI E 1 gs) := (hfr_405 _ (by omega) (by omega)).trans (q_ne (by omega) h1)
  have hon_405 : f_405 on = some (aQ E 7 1 go) := (hfr_405 _ (by omega) (by omega)).trans (q_ne (by omega) h2)
  have hot_405 : f_405 ot = some (aQ E 7 1 gt) := (hfr_405 _ (by omega) (by omega)).trans (q_ne (by omega) h3)
  have ha0_405 : f_405 a0 = some (cNode so0 ka0 xa0 ya0) := (hfr_405 _ (by omega) (by omega)).trans (q_ne (by omega) hca0)
  have hc0_405 : f_405 c0 = some (cNode sp0 kc0 xc0 yc0) := (hfr_405 _ (by omega) (by omega)).trans (q_ne (by omega) hcc0)
  refine lv_astore_n (lv' := [(1, .ref n), (0, .ref a)]) hx hb dX13_text_408 rfl hl (by decide) rfl (fun ls hl => ?_)
  refine lv_iconst (v := 0) hx hb dX13_text_409 (by decide) ?_
  refine lv_istore_n (lv' := [(2, .int 0), (1, .ref n), (0, .ref a)]) hx hb dX13_text_410 rfl hl (by decide) rfl (fun ls hl => ?_)
  refine lv_iload_n hx hb dX13_text_411 rfl (lv_at hl 0 rfl) ?_
  refine lv_aload_n hx hb dX13_text_412 rfl (lv_at hl 2 rfl) ?_
  refine q_get hx hb hts hown hA hW iX13 ha_405 rfl 3 (by decide) (hts (.fieldLink RX13 7 "HighRecipesLaw$Act" "signs" "[I") (by decide +kernel)) (fun _ h9 => h9) (v := .ref sg) rfl dX13_text_413 ?_
  refine q_alen hx hb hA hW 0 rfl hsg_405 (v := 1) rfl dX13_text_416 ?_
  refine lv_icmp_ge (tgt := 479) hx hb dX13_text_417 (by decide) (fun c_417 => absurd c_417 (by decide)) (fun c_417 => ?_)
  refine lv_aload_n hx hb dX13_text_420 rfl (lv_at hl 1 rfl) ?_
  refine lv_iload_n hx hb dX13_text_421 rfl (lv_at hl 0 rfl) ?_
  refine lv_if_ne (tgt := 430) hx hb dX13_text_422 (by decide) (fun c_422 => absurd c_422 (by decide)) (fun c_422 => ?_)
  refine va_ldcS (own := "HighRecipesLaw$Act") hx hb hown (q_ldk hA (i := 26) (by decide)) dX13_text_425 ?_
  refine lv_goto (tgt := 432) hx hb dX13_text_427 (by decide) ?_
  refine q_cq (va_runV (As := [.ref (E.2.2.2 (200 + 26))]) (rest := []) ⟨hx, hb, hml, hown, hts⟩ (kJ4_append_k l E f_405 n_405 n (n + 1) 16 26 2000 ([] : List Int32) e0_405 e1_405 (by (try simp only [List.length_append, List.length_nil, List.length_cons, pT_len, ktl_0, ktl_1, ktl_2, ktl_3, ktl_4, ktl_5, ktl_6, ktl_7, ktl_8, ktl_9, ktl_10, ktl_11, ktl_12, ktl_13, ktl_14, ktl_15, ktl_16, ktl_17, ktl_18, ktl_19, ktl_20, ktl_21, ktl_22, ktl_23, ktl_24, ktl_25, ktl_26, ktl_27, ktl_28, ktl_29, ktl_30, ktl_31, ktl_32, ktl_33, ktl_34, ktl_35, ktl_36, ktl_37, ktl_38, ktl_39, ktl_40, ktl_41, ktl_42, ktl_43, ktl_44, ktl_45, ktl_46, ktl_47, ktl_48, ktl_49]); omega) (by omega) (by omega) (by first | assumption | decide) (by repeat (first | exact okb_nil | assumption | exact kt_okb (by omega) | exact okb_pT (by omega) | exact dg_ok _ (by omega) | exact okb_one (by omega) | apply okb_app)) (by omega)) (cwV 1 hts gX13_text_J4_append_15ec4 rfl rfl rfl (by decide +kernel) ⟨(Nat.le_of_ble_eq_true rfl), (Nat.le_of_ble_eq_true rfl)⟩) (q_pV hA hW hS (ci := 1) rfl e0_405) rfl rfl hl.1 rfl (lv_room (Nat.le_of_ble_eq_true rfl)) dX13_text_432 ⟨(by show _ ≤ 220 + 221 * (bC L + bC L2); omega), (by show _ ≤ 66000 + 70000 * (bC L + bC L2); omega)⟩) hS (fun r_432 f_432 n_432 H locs hp hW hS => ?_)
  obtain ⟨b1_432, m1_432, rfl, e0_432, e1_432, el_432, em4_432, eb_432, en_432, hfr_432⟩ := hp
  have l_e0_432 := hW.lt e0_432
  have l_e1_432 := hW.lt e1_432
  have ha_432 : f_432 a = some (cLA 9 (nI i) none (some sg) (some on) (some ot) (some b) (some b2)) := (hfr_432 _ (by omega) (by omega) (by omega)).trans ha_405
  have hsg_432 : f_432 sg = some (aI E 1 gs) := (hfr_432 _ (by omega) (by omega) (by omega)).trans hsg_405
  have hon_432 : f_432 on = some (aQ E 7 1 go) := (hfr_432 _ (by omega) (by omega) (by omega)).trans hon_405
  have hot_432 : f_432 ot = some (aQ E 7 1 gt) := (hfr_432 _ (by omega) (by omega) (by omega)).trans hot_405
  have ha0_432 : f_432 a0 = some (cNode so0 ka0 xa0 ya0) := (hfr_432 _ (by omega) (by omega) (by omega)).trans ha0_405
  have hc0_432 : f_432 c0 = some (cNode sp0 kc0 xc0 yc0) := (hfr_432 _ (by omega) (by omega) (by omega)).trans hc0_405
  refine lv_aload_n hx hb dX13_text_435 rfl (lv_at hl 2 rfl) ?_
  refine q_get hx hb hts hown hA hW iX13 ha_432 rfl 4 (by decide) (hts (.fieldLink RX13 15 "HighRecipesLaw$Act" "ones" "[LHighRecipesLaw$Node;") (by decide +kernel)) (fun _ h9 => h9) (v := .ref on) rfl dX13_text_436 ?_
  refine lv_iload_n hx hb dX13_text_439 rfl (lv_at hl 0 rfl) ?_
  refine q_aald hx hb hA hW 7 rfl hon_432 (vp_in_nI (by decide) (by decide)) dX13_text_440 ?_
  rw [show go (0 : Int32).toNatClampNeg = some a0 from hgo0]
  refine q_cq (va_runV (As := []) (rest := [.ref n]) ⟨hx, hb, hml, hown, hts⟩ (kX16_text_0 l E f_432 n_432 a0 pn P _ W0 (NODE.to (fun q hq => have h8 := hP q hq; ⟨hq, ((hfr_432 _ (by omega) (by omega) (by omega)).trans ((hfr_405 _ (by omega) (by omega)).trans (q_ne (by omega) rfl)))⟩) hM0) hpn) (cwV 0 hts gX13_text_X16_text rfl rfl rfl (by decide +kernel) ⟨(Nat.le_of_ble_eq_true rfl), (Nat.le_of_ble_eq_true rfl)⟩) (q_pV hA hW hS (ci := 16) rfl ha0_432) rfl rfl hl.1 rfl (lv_room (Nat.le_of_ble_eq_true rfl)) dX13_text_441 ⟨(by show _ ≤ 220 + 221 * (bC L + bC L2); omega), (by show _ ≤ 66000 + 70000 * (bC L + bC L2); omega)⟩) hS (fun r_441 f_441 n_441 H locs hp hW hS => ?_)
  obtain ⟨r_441, rfl, eT_441, ef_441, en_441, hfr_441⟩ := hp
  have ha_441 : f_441 a = some (cLA 9 (nI i) none (some sg) (some on) (some ot) (some b) (some b2)) := (hfr_441 _ (by omega)).trans ha_432
  have hsg_441 : f_441 sg = some (aI E 1 gs) := (hfr_441 _ (by omega)).trans hsg_432
  have hon_441 : f_441 on = some (aQ E 7 1 go) := (hfr_441 _ (by omega)).trans hon_432
  have hot_441 : f_441 ot = some (aQ E 7 1 gt) := (hfr_441 _ (by omega)).trans hot_432
  have hc0_441 : f_441 c0 = some (cNode sp0 kc0 xc0 yc0) := (hfr_441 _ (by omega)).trans hc0_432
  have hn_441 : f_441 n = some (cSB b1_432 (nI (([] : List Int32) ++ kt 26).length)) := (hfr_441 _ (by omega)).trans e0_432
  have hb1_432_441 : f_441 b1_432 = some (aB E m1_432 (tx (([] : List Int32) ++ kt 26))) := (hfr_441 _ (by omega)).trans e1_432
  refine q_cq (va_runV (As := [.ref r_441]) (rest := []) ⟨hx, hb, hml, hown, hts⟩ (kJ4_append_S l E f_441 n_441 n b1_432 m1_432 r_441 2000 (([] : List Int32) ++ kt 26) W0 hn_441 hb1_432_441 (by (try simp only [List.length_append, List.length_nil, List.length_cons, pT_len, ktl_0, ktl_1, ktl_2, ktl_3, ktl_4, ktl_5, ktl_6, ktl_7, ktl_8, ktl_9, ktl_10, ktl_11, ktl_12, ktl_13, ktl_14, ktl_15, ktl_16, ktl_17, ktl_18, ktl_19, ktl_20, ktl_21, ktl_22, ktl_23, ktl_24, ktl_25, ktl_26, ktl_27, ktl_28, ktl_29, ktl_30, ktl_31, ktl_32, ktl_33, ktl_34, ktl_35, ktl_36, ktl_37, ktl_38, ktl_39, ktl_40, ktl_41, ktl_42, ktl_43, ktl_44, ktl_45, ktl_46, ktl_47, ktl_48, ktl_49]); omega) (by omega) (by omega) (by first | assumption | decide) (by repeat (first | exact okb_nil | assumption | exact kt_okb (by omega) | exact okb_pT (by omega) | exact dg_ok _ (by omega) | exact okb_one (by omega) | apply okb_app)) (by repeat (first | exact okb_nil | assumption | exact kt_okb (by omega) | exact okb_pT (by omega) | exact dg_ok _ (by omega) | exact okb_one (by omega) | apply okb_app)) eT_441 (fun rb h9 => by have := ef_441 rb h9; omega)) (cwV 1 hts gX13_text_J4_append_15ec4 rfl rfl rfl (by decide +kernel) ⟨(Nat.le_of_ble_eq_true rfl), (Nat.le_of_ble_eq_true rfl)⟩) (q_pV hA hW hS (ci := 1) rfl hn_441) rfl rfl hl.1 rfl (lv_room (Nat.le_of_ble_eq_true rfl)) dX13_text_444 ⟨(by show _ ≤ 220 + 221 * (bC L + bC L2); omega), (by show _ ≤ 66000 + 70000 * (bC L + bC L2); omega)⟩) hS (fun r_444 f_444 n_444 H locs hp hW hS => ?_)
  obtain ⟨b1_444, m1_444, rfl, e0_444, e1_444, el_444, em4_444, eb_444, en_444, hfr_444⟩ := hp
  have l_e0_444 := hW.lt e0_444
  have l_e1_444 := hW.lt e1_444
  have ha_444 : f_444 a = some (cLA 9 (nI i) none (some sg) (some on) (some ot) (some b) (some b2)) := (hfr_444 _ (by omega) (by omega) (by omega)).trans ha_441
  have hsg_444 : f_444 sg = some (aI E 1 gs) := (hfr_444 _ (by omega) (by omega) (by omega)).trans hsg_441
  have hon_444 : f_444 on = some (aQ E 7 1 go) := (hfr_444 _ (by omega) (by omega) (by omega)).trans hon_441
  have hot_444 : f_444 ot = some (aQ E 7 1 gt) := (hfr_444 _ (by omega) (by omega) (by omega)).trans hot_441
  have hc0_444 : f_444 c0 = some (cNode sp0 kc0 xc0 yc0) := (hfr_444 _ (by omega) (by omega) (by omega)).trans hc0_441
  refine va_gets (n := "COMPARES") (v := .ref (E.2.2.2 105)) hx hb hA.2.2.1.2.2.2.2.1.2.2.2.1 hS hown (hts (.fieldLink RX13 132 "HighRecipesLaw$Act" "COMPARES" "[Ljava/lang/String;") (by decide +kernel)) (fun _ h9 => h9) dX13_text_447 ?_
  refine lv_aload_n hx hb dX13_text_450 rfl (lv_at hl 2 rfl) ?_
  refine q_get hx hb hts hown hA hW iX13 ha_444 rfl 3 (by decide) (hts (.fieldLink RX13 7 "HighRecipesLaw$Act" "signs" "[I") (by decide +kernel)) (fun _ h9 => h9) (v := .ref sg) rfl dX13_text_451 ?_
  refine lv_iload_n hx hb dX13_text_454 rfl (lv_at hl 0 rfl) ?_
  refine q_iald hx hb hA hW hsg_444 (vp_in_nI (by decide) (by decide)) dX13_text_455 ?_
  rw [show gs (0 : Int32).toNatClampNeg = nI s0 from hgs0]
  refine vb_tq hx hb hA.2.2.1.2.2.2.2.1.2.2.2.2 hS (vp_in_nI (by omega) (by decide)) (v := .ref (E.2.2.2 (200 + (47 + s0)))) (by rw [nI_clamp (by omega)]) dX13_text_456 ?_
  refine q_cq (va_runV (As := [.ref (E.2.2.2 (200 + (47 + s0)))]) (rest := []) ⟨hx, hb, hml, hown, hts⟩ (kJ4_append_k l E f_444 n_444 n b1_444 m1_444 (47 + s0) 2000 ((([] : List Int32) ++ kt 26) ++ W0) e0_444 e1_444 (by (try simp only [List.length_append, List.length_nil, List.length_cons, pT_len, ktl_0, ktl_1, ktl_2, ktl_3, ktl_4, ktl_5, ktl_6, ktl_7, ktl_8, ktl_9, ktl_10, ktl_11, ktl_12, ktl_13, ktl_14, ktl_15, ktl_16, ktl_17, ktl_18, ktl_19, ktl_20, ktl_21, ktl_22, ktl_23, ktl_24, ktl_25, ktl_26, ktl_27, ktl_28, ktl_29, ktl_30, ktl_31, ktl_32, ktl_33, ktl_34, ktl_35, ktl_36, ktl_37, ktl_38, ktl_39, ktl_40, ktl_41, ktl_42, ktl_43, ktl_44, ktl_45, ktl_46, ktl_47, ktl_48, ktl_49]); omega) (by omega) (by omega) (by first | assumption | decide) (by repeat (first | exact okb_nil | assumption | exact kt_okb (by omega) | exact okb_pT (by omega) | exact dg_ok _ (by omega) | exact okb_one (by omega) | apply okb_app)) (by omega)) (cwV 1 hts gX13_text_J4_append_15ec4 rfl rfl rfl (by decide +kernel) ⟨(Nat.le_of_ble_eq_true rfl), (Nat.le_of_ble_eq_true rfl)⟩) (q_pV hA hW hS (ci := 1) rfl e0_444) rfl rfl hl.1 rfl (lv_room (Nat.le_of_ble_eq_true rfl)) dX13_text_457 ⟨(by show _ ≤ 220 + 221 * (bC L + bC L2); omega), (by show _ ≤ 66000 + 70000 * (bC L + bC L2); omega)⟩) hS (fun r_457 f_457 n_457 H locs hp hW hS => ?_)
  obtain ⟨b1_457, m1_457, rfl, e0_457, e1_457, el_457, em4_457, eb_457, en_457, hfr_457⟩ := hp
  have l_e0_457 := hW.lt e0_457
  have l_e1_457 := hW.lt e1_457
  have ha_457 : f_457 a = some (cLA 9 (nI i) none (some sg) (some on) (some ot) (some b) (some b2)) := (hfr_457 _ (by omega) (by omega) (by omega)).trans ha_444
  have hsg_457 : f_457 sg = some (aI E 1 gs) := (hfr_457 _ (by omega) (by omega) (by omega)).trans hsg_444
  have hon_457 : f_457 on = some (aQ E 7 1 go) := (hfr_457 _ (by omega) (by omega) (by omega)).trans hon_444
  have hot_457 : f_457 ot = some (aQ E 7 1 gt) := (hfr_457 _ (by omega) (by omega) (by omega)).trans hot_444
  have hc0_457 : f_457 c0 = some (cNode sp0 kc0 xc0 yc0) := (hfr_457 _ (by omega) (by omega) (by omega)).trans hc0_444
  refine lv_aload_n hx hb dX13_text_460 rfl (lv_at hl 2 rfl) ?_
  refine q_get hx hb hts hown hA hW iX13 ha_457 rfl 5 (by decide) (hts (.fieldLink RX13 19 "HighRecipesLaw$Act" "others" "[LHighRecipesLaw$Node;") (by decide +kernel)) (fun _ h9 => h9) (v := .ref ot) rfl dX13_text_461 ?_
  refine lv_iload_n hx hb dX13_text_464 rfl (lv_at hl 0 rfl) ?_
  refine q_aald hx hb hA hW 7 rfl hot_457 (vp_in_nI (by decide) (by decide)) dX13_text_465 ?_
  rw [show gt (0 : Int32).toNatClampNeg = some c0 from hgt0]
  refine q_cq (va_runV (As := []) (rest := [.ref n]) ⟨hx, hb, hml, hown, hts⟩ (kX16_text_0 l E f_457 n_457 c0 pn P _ Y0 (NODE.to (fun q hq => have h8 := hP q hq; ⟨hq, ((hfr_457 _ (by omega) (by omega) (by omega)).trans ((hfr_444 _ (by omega) (by omega) (by omega)).trans ((hfr_441 _ (by omega)).trans ((hfr_432 _ (by omega) (by omega) (by omega)).trans ((hfr_405 _ (by omega) (by omega)).trans (q_ne (by omega) rfl))))))⟩) hQ0) hpn) (cwV 0 hts gX13_text_X16_text rfl rfl rfl (by decide +kernel) ⟨(Nat.le_of_ble_eq_true rfl), (Nat.le_of_ble_eq_true rfl)⟩) (q_pV hA hW hS (ci := 16) rfl hc0_457) rfl rfl hl.1 rfl (lv_room (Nat.le_of_ble_eq_true rfl)) dX13_text_466 ⟨(by show _ ≤ 220 + 221 * (bC L + bC L2); omega), (by show _ ≤ 66000 + 70000 * (bC L + bC L2); omega)⟩) hS (fun r_466 f_466 n_466 H locs hp hW hS => ?_)
  obtain ⟨r_466, rfl, eT_466, ef_466, en_466, hfr_466⟩ := hp
  have ha_466 : f_466 a = some (cLA 9 (nI i) none (some sg) (some on) (some ot) (some b) (some b2)) := (hfr_466 _ (by omega)).trans ha_457
  have hsg_466 : f_466 sg = some (aI E 1 gs) := (hfr_466 _ (by omega)).trans hsg_457
  have hn_466 : f_466 n = some (cSB b1_457 (nI (((([] : List Int32) ++ kt 26) ++ W0) ++ kt (47 + s0)).length)) := (hfr_466 _ (by omega)).trans e0_457
  have hb1_457_466 : f_466 b1_457 = some (aB E m1_457 (tx (((([] : List Int32) ++ kt 26) ++ W0) ++ kt (47 + s0)))) := (hfr_466 _ (by omega)).trans e1_457
  refine q_cq (va_runV (As := [.ref r_466]) (rest := []) ⟨hx, hb, hml, hown, hts⟩ (kJ4_append_S l E f_466 n_466 n b1_457 m1_457 r_466 2000 (((([] : List Int32) ++ kt 26) ++ W0) ++ kt (47 + s0)) Y0 hn_466 hb1_457_466 (by (try simp only [List.length_append, List.length_nil, List.length_cons, pT_len, ktl_0, ktl_1, ktl_2, ktl_3, ktl_4, ktl_5, ktl_6, ktl_7, ktl_8, ktl_9, ktl_10, ktl_11, ktl_12, ktl_13, ktl_14, ktl_15, ktl_16, ktl_17, ktl_18, ktl_19, ktl_20, ktl_21, ktl_22, ktl_23, ktl_24, ktl_25, ktl_26, ktl_27, ktl_28, ktl_29, ktl_30, ktl_31, ktl_32, ktl_33, ktl_34, ktl_35, ktl_36, ktl_37, ktl_38, ktl_39, ktl_40, ktl_41, ktl_42, ktl_43, ktl_44, ktl_45, ktl_46, ktl_47, ktl_48, ktl_49]); omega) (by omega) (by omega) (by first | assumption | decide) (by repeat (first | exact okb_nil | assumption | exact kt_okb (by omega) | exact okb_pT (by omega) | exact dg_ok _ (by omega) | exact okb_one (by omega) | apply okb_app)) (by repeat (first | exact okb_nil | assumption | exact kt_okb (by omega) | exact okb_pT (by omega) | exact dg_ok _ (by omega) | exact okb_one (by omega) | apply okb_app)) eT_466 (fun rb h9 => by have := ef_466 rb h9; omega)) (cwV 1 hts gX13_text_J4_append_15ec4 rfl rfl rfl (by decide +kernel) ⟨(Nat.le_of_ble_eq_true rfl), (Nat.le_of_ble_eq_true rfl)⟩) (q_pV hA hW hS (ci := 1) rfl hn_466) rfl rfl hl.1 rfl (lv_room (Nat.le_of_ble_eq_true rfl)) dX13_text_469 ⟨(by show _ ≤ 220 + 221 * (bC L + bC L2); omega), (by show _ ≤ 66000 + 70000 * (bC L + bC L2); omega)⟩) hS (fun r_469 f_469 n_469 H locs hp hW hS => ?_)
  obtain ⟨b1_469, m1_469, rfl, e0_469, e1_469, el_469, em4_469, eb_469, en_469, hfr_469⟩ := hp
  have l_e0_469 := hW.lt e0_469
  have l_e1_469 := hW.lt e1_469
  have ha_469 : f_469 a = some (cLA 9 (nI i) none (some sg) (some on) (some ot) (some b) (some b2)) := (hfr_469 _ (by omega) (by omega) (by omega)).trans ha_466
  have hsg_469 : f_469 sg = some (aI E 1 gs) := (hfr_469 _ (by omega) (by omega) (by omega)).trans hsg_466
  refine lv_pop hx hb dX13_text_472 rfl ?_
  refine lv_iinc (v := 1) (lv' := [(2, .int 1), (1, .ref n), (0, .ref a)]) hx hb dX13_text_473 hl (k := 0) rfl (by decide) (by decide) rfl (fun ls hl => ?_)
  refine lv_goto (tgt := 411) hx hb dX13_text_476 (by decide) ?_
  refine lv_iload_n hx hb dX13_text_411 rfl (lv_at hl 0 rfl) ?_
  refine lv_aload_n hx hb dX13_text_412 rfl (lv_at hl 2 rfl) ?_
  refine q_get hx hb hts hown hA hW iX13 ha_469 rfl 3 (by decide) (hts (.fieldLink RX13 7 "HighRecipesLaw$Act" "signs" "[I") (by decide +kernel)) (fun _ h9 => h9) (v := .ref sg) rfl dX13_text_413 ?_
  refine q_alen hx hb hA hW 0 rfl hsg_469 (v := 1) rfl dX13_text_416 ?_
  refine lv_icmp_ge (tgt := 479) hx hb dX13_text_417 (by decide) (fun c_417 => ?_) (fun c_417 => absurd c_417 (by decide))
  refine W.widen (k := 150) (n := 37220) (by omega) (by omega) ?_
  exact K479 f_469 n_469 b1_469 m1_469 ((((([] : List Int32) ++ kt 26) ++ W0) ++ kt (47 + s0)) ++ Y0) ha_469 e0_469 e1_469 (by first | assumption | omega) (by omega) (by simp only [List.length_append, List.length_nil, ktl_26, ktl_27, lk0]; omega) (by repeat (first | assumption | exact kt_okb (by decide) | exact kt_okb (by omega) | exact okb_nil | apply okb_app)) (by omega) (by omega) (by omega) rfl (fun z9 g0 => ((hfr_469 _ (by omega) (by omega) (by omega)).trans ((hfr_466 _ (by omega)).trans ((hfr_457 _ (by omega) (by omega) (by omega)).trans ((hfr_444 _ (by omega) (by omega) (by omega)).trans ((hfr_441 _ (by omega)).trans ((hfr_432 _ (by omega) (by omega) (by omega)).trans ((hfr_405 _ (by omega) (by omega)).trans (q_ne (by omega) rfl))))))))) _ _ _ hW hS (lv_sub hl [2, 1] rfl)

