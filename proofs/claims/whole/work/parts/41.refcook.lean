/-! the reference does blocks and acts -/
def MBLK (l : Launch) (E : q_E) (pn : Nat) (B : q_R) (RS : Nat → q_S) (R d : Nat) : Prop := ∀ (f : q_H) (n M : Nat) (r : q_R) (bb BB lo mm : Nat) (o : Int32) (S : q_S), RM E f M r → bR r 8 = B → r 120 0 = nI pn → pn ≤ 8 → r 110 0 = nI bb → (r 111 0 = -1 ∨ ¬ r 111 0 < 0) → BB ≤ 2 ^ 29 → k_inv BB (r 42, bb, r 111 0) → v_ok pn (r 9) (r 42) → mRS B pn 400 400 80 RS R → mL B lo 80 (mA B pn 400 400 80 RS R d) mm o S → 1 ≤ d →
  Met l yX14_doBlock wsX14_doBlock ({ frames := 5 * (d + 6 * R) + 20, cells := 0, slots := 0, locals := 200 * (d + 6 * R) + 1000 }) (q_P E [.ref M, .int o] f n) (q_Qv E (fun f1 n1 => rO E f M (r_ks r (S (r 9) (r 42, bb, r 111 0))) = f1 ∧ n = n1)) 0 0 (q_ge E)
def MACT (l : Launch) (E : q_E) (pn : Nat) (B : q_R) (RS : Nat → q_S) (R d : Nat) : Prop := ∀ (f : q_H) (n M : Nat) (r : q_R) (bb BB a : Nat) (S : q_S), RM E f M r → bR r 8 = B → r 120 0 = nI pn → pn ≤ 8 → r 110 0 = nI bb → (r 111 0 = -1 ∨ ¬ r 111 0 < 0) → BB ≤ 2 ^ 29 → k_inv1 BB (r 42, bb, r 111 0) → v_ok pn (r 9) (r 42) → mRS B pn 400 400 80 RS R → mA B pn 400 400 80 RS R d a S → 1 ≤ d →
  Met l yX14_does wsX14_does ({ frames := 5 * (d + 6 * R) + 19, cells := 0, slots := 0, locals := 200 * (d + 6 * R) + 900 }) (q_P E [.ref M, .int (nI a)] f n) (q_Qv E (fun f1 n1 => rO E f M (r_ks r (S (r 9) (r 42, bb, r 111 0))) = f1 ∧ n = n1)) 0 0 (q_ge E)

set_option maxHeartbeats 4000000 in
set_option maxRecDepth 100000 in
theorem kX14_does_4 (l : Launch) (E : q_E) (f : q_H) (n : Nat) (M : Nat) (r : q_R) (pn bb : Nat) (BB : Nat) (Bw : q_R) (RS : Nat → q_S) (R d : Nat) (a : Nat) (i x : Nat) (D : q_D)  (hm : RM E f M r) (hpn9 : (r 120 0) = nI pn) (hpn : pn ≤ 8) (hb9 : (r 110 0) = nI bb) (hw : (r 111 0) = -1 ∨ ¬ (r 111 0) < 0) (hB8 : bR r 8 = Bw) (hB29 : BB ≤ 2 ^ 29) (hvo : v_ok pn (r 9) (r 42)) (hRS : mRS Bw pn 400 400 80 RS R) (hd0 : 1 ≤ d) (ihB : ∀ d1 R1, d1 + 6 * R1 < d + 6 * R → MBLK l E pn Bw RS R1 d1) (hinv : k_inv1 BB ((r 42), bb, (r 111 0))) (ha : a < 80) (h3 : (r 11) a = 4) (hi : i < pn) (h4 : (r 12) a = nI i) (h5 : (r 13) a = nI x) (hV : mV (bR r 8) pn 400 5 x D) : Met l yX14_does wsX14_does ({ frames := 5 * (d + 6 * R) + 19, cells := 0, slots := 0, locals := 200 * (d + 6 * R) + 900 }) (q_P E [.ref M, .int (nI a)] f n) (q_Qv E (fun f1 n1 => rO E f M (r_ks r (k_pour pn i 0 D (r 9) ((r 42), bb, (r 111 0)))) = f1 ∧ n = n1)) 0 0 (q_ge E) := by
  refine Met.ofW (cc := cX14_does) (maxL := 6) (ret := none) (by decide) rfl ?_
  intro p e s m args below meth c s₁ B hml hv
  obtain ⟨rfl, hA, hW⟩ := hv
  have hx := B.exec
  have hb := B.bytes
  have hr := B.returns
  have hts := atoms_spec (ws := wsX14_does) B.pre
  have hown : s.vm.findClass RX14 = some m.cls := findClass_of_methodNamed B.named
  have hlocks := B.notSynchronized
  have hS : va_S (q_ge E) s.heap s.heap [] := va_S.rf
  have iX13 : ∀ w ∈ wsX130, w ∈ wsX14_does := by decide +kernel
  have iX14 : ∀ w ∈ wsX140, w ∈ wsX14_does := by decide +kernel
  have hl := lv_entry ([.ref M, .int (nI a)]) (n := 6) (Nat.le_of_ble_eq_true rfl)
  rw [lg_entry_eq]
  generalize (lg_sl ([.ref M, .int (nI a)]) ++ List.replicate (6 - (lg_sl ([.ref M, .int (nI a)])).length) Slot.unset).toArray = ls at hl ⊢
  have hl : lv_has ls 6 [(0, .ref M), (1, .int (nI a))] := hl
  have hmE := hm.eq
  rw [hm.eq] at hW
  have hok : k_ok (r 42) := hinv.le.ok hB29
  refine lv_aload_n hx hb dX14_does_0 rfl (lv_at hl 0 rfl) ?_
  refine q_get hx hb hts hown hA hW iX14 rO_0 rfl 17 (by decide) (hts (.fieldLink RX14 38 "HighRecipesModel" "told" "LHighRecipesModel$Book;") (by decide +kernel)) (fun _ h9 => h9) (v := .ref (M + 8)) rfl dX14_does_1 ?_
  refine q_getN hx hb hts hown hA hW iX13 rO_8 rfl 6 (by decide) (va_Nw.use rfl (hA.2.2.2.1 ("HighRecipesModel", 250, "HighRecipesModel$Book", "whom", "[I", "HighRecipesModel") (by decide +kernel))) (fun _ h9 => h9) (v := .ref (M + 12)) rfl dX14_does_4 ?_
  refine lv_iload_n hx hb dX14_does_7 rfl (lv_at hl 1 rfl) ?_
  refine q_ald hx hb hA hW (rO_12 (g := r 12) rfl) a rfl (by omega) (by decide) (x := nI i) h4 dX14_does_8 ?_
  refine lv_istore_n (lv' := [(2, .int (nI i)), (0, .ref M), (1, .int (nI a))]) hx hb dX14_does_9 rfl hl (by decide) rfl (fun ls hl => ?_)
  refine lv_aload_n hx hb dX14_does_10 rfl (lv_at hl 1 rfl) ?_
  refine q_get hx hb hts hown hA hW iX14 rO_0 rfl 17 (by decide) (hts (.fieldLink RX14 38 "HighRecipesModel" "told" "LHighRecipesModel$Book;") (by decide +kernel)) (fun _ h9 => h9) (v := .ref (M + 8)) rfl dX14_does_11 ?_
  refine q_getN hx hb hts hown hA hW iX13 rO_8 rfl 5 (by decide) (va_Nw.use rfl (hA.2.2.2.1 ("HighRecipesModel", 218, "HighRecipesModel$Book", "does", "[I", "HighRecipesModel") (by decide +kernel))) (fun _ h9 => h9) (v := .ref (M + 11)) rfl dX14_does_14 ?_
  refine lv_iload_n hx hb dX14_does_17 rfl (lv_at hl 2 rfl) ?_
  refine q_ald hx hb hA hW (rO_11 (g := r 11) rfl) a rfl (by omega) (by decide) (x := 4) h3 dX14_does_18 ?_
  refine lv_tableIn (x := 4) (off := 61) (tgt := 80) hx hb dX14_does_19 (by decide) (by decide) (by decide) (by decide) ?_
  refine lv_aload_n hx hb dX14_does_80 rfl (lv_at hl 1 rfl) ?_
  refine lv_iload_n hx hb dX14_does_81 rfl (lv_at hl 0 rfl) ?_
  refine lv_iconst (v := 0) hx hb dX14_does_82 (by decide) ?_
  refine lv_aload_n hx hb dX14_does_83 rfl (lv_at hl 1 rfl) ?_
  refine lv_aload_n hx hb dX14_does_84 rfl (lv_at hl 1 rfl) ?_
  refine q_get hx hb hts hown hA hW iX14 rO_0 rfl 17 (by decide) (hts (.fieldLink RX14 38 "HighRecipesModel" "told" "LHighRecipesModel$Book;") (by decide +kernel)) (fun _ h9 => h9) (v := .ref (M + 8)) rfl dX14_does_85 ?_
  refine q_getN hx hb hts hown hA hW iX13 rO_8 rfl 7 (by decide) (va_Nw.use rfl (hA.2.2.2.1 ("HighRecipesModel", 239, "HighRecipesModel$Book", "value", "[I", "HighRecipesModel") (by decide +kernel))) (fun _ h9 => h9) (v := .ref (M + 13)) rfl dX14_does_88 ?_
  refine lv_iload_n hx hb dX14_does_91 rfl (lv_at hl 2 rfl) ?_
  refine q_ald hx hb hA hW (rO_13 (g := r 13) rfl) a rfl (by omega) (by decide) (x := nI x) h5 dX14_does_92 ?_
  refine q_ci (va_runV (As := [.int (nI x)]) (rest := [.int 0, .int (nI i), .ref M]) ⟨hx, hb, hml, hown, hts⟩ (kX14_reckon l E n M r pn hpn 5 x D (rO E f M r) rO_K hV) (cwV 1 hts gX14_does_X14_reckon rfl rfl rfl (by decide +kernel) ⟨(by show 15 + 1 ≤ 5 * (d + 6 * R) + 19; omega), (by show 8 + (3 + 11) + 500 ≤ 200 * (d + 6 * R) + 900; omega)⟩) (q_pV hA hW hS (ci := 12) rfl rO_0) rfl rfl hl.1 rfl (lv_room (Nat.le_of_ble_eq_true rfl)) dX14_does_93 ⟨Nat.le_of_ble_eq_true rfl, Nat.le_of_ble_eq_true rfl⟩) hS (fun r_93 f_93 n_93 H locs hp hW hS => ?_)
  obtain ⟨rfl, rfl, rfl⟩ := hp
  have hW : q_W E (rO E f M r) n H := hW
  refine q_cv (va_runV (As := [.int (nI i), .int 0, .int (D (r 9) (r 42))]) (rest := []) ⟨hx, hb, hml, hown, hts⟩ (kX14_pours_0 l E (rO E f M r) n M r pn bb i (D (r 9) (r 42)) rO_K hpn9 (by assumption) hb9 (by first | assumption | decide) (by assumption) (by assumption) (by assumption)) (cwV 3 hts gX14_does_X14_pours rfl rfl rfl (by decide +kernel) ⟨(by show 4 + 1 ≤ 5 * (d + 6 * R) + 19; omega), (by show 8 + (5 + 11) + 89 ≤ 200 * (d + 6 * R) + 900; omega)⟩) (q_pV hA hW hS (ci := 12) rfl rO_0) rfl rfl hl.1 rfl (lv_room (Nat.le_of_ble_eq_true rfl)) dX14_does_96 ⟨Nat.le_of_ble_eq_true rfl, Nat.le_of_ble_eq_true rfl⟩) hS (fun f_96 n_96 H locs hp hW hS => ?_)
  obtain ⟨rfl, rfl⟩ := hp
  have hW : q_W E (rO E f M (rp (rp (rp r 42 ((k_pour pn i 0 (fun _ _ => (D (r 9) (r 42))) (r 9) ((r 42), bb, (r 111 0))).1)) 110 (fun _ => nI (k_pour pn i 0 (fun _ _ => (D (r 9) (r 42))) (r 9) ((r 42), bb, (r 111 0))).2.1)) 111 (fun _ => (k_pour pn i 0 (fun _ _ => (D (r 9) (r 42))) (r 9) ((r 42), bb, (r 111 0))).2.2))) n H := by rw [rO_rO] at hW; exact hW
  have hW : q_W E (rO E f M (rp (rp (rp r 42 ((k_pour pn i 0 (fun _ _ => (D (r 9) (r 42))) (r 9) ((r 42), bb, (r 111 0))).1)) 110 (fun _ => nI (k_pour pn i 0 (fun _ _ => (D (r 9) (r 42))) (r 9) ((r 42), bb, (r 111 0))).2.1)) 111 (fun _ => (k_pour pn i 0 (fun _ _ => (D (r 9) (r 42))) (r 9) ((r 42), bb, (r 111 0))).2.2))) n H := hW
  refine lv_goto (tgt := 364) hx hb dX14_does_99 (by decide) ?_
  have hW := q_rr 42 (g := (k_pour pn i 0 (fun _ _ => (D (r 9) (r 42))) (r 9) ((r 42), bb, (r 111 0))).1) hW rfl
  rw [rp_d2] at hW
  have hW := q_sc 110 (x := nI (k_pour pn i 0 (fun _ _ => (D (r 9) (r 42))) (r 9) ((r 42), bb, (r 111 0))).2.1) hW rfl (by decide)
  rw [rp_d2] at hW
  have hW := q_sc 111 (x := (k_pour pn i 0 (fun _ _ => (D (r 9) (r 42))) (r 9) ((r 42), bb, (r 111 0))).2.2) hW rfl (by decide)
  rw [rp_d2] at hW
  exact q_vret hx hb hr hlocks hW hS ⟨(congrArg (fun z : q_KS => rO E f M (r_ks r z)) (show (k_pour pn i 0 D (r 9) ((r 42), bb, (r 111 0))) = ((k_pour pn i 0 (fun _ _ => (D (r 9) (r 42))) (r 9) ((r 42), bb, (r 111 0))).1, (k_pour pn i 0 (fun _ _ => (D (r 9) (r 42))) (r 9) ((r 42), bb, (r 111 0))).2.1, (k_pour pn i 0 (fun _ _ => (D (r 9) (r 42))) (r 9) ((r 42), bb, (r 111 0))).2.2) from rfl)), rfl⟩ (Nat.le_of_ble_eq_true rfl) (Nat.le_of_ble_eq_true rfl) dX14_does_364

set_option maxHeartbeats 4000000 in
set_option maxRecDepth 100000 in
theorem kX14_does_5 (l : Launch) (E : q_E) (f : q_H) (n : Nat) (M : Nat) (r : q_R) (pn bb : Nat) (BB : Nat) (Bw : q_R) (RS : Nat → q_S) (R d : Nat) (a : Nat) (i x : Nat) (D : q_D)  (hm : RM E f M r) (hpn9 : (r 120 0) = nI pn) (hpn : pn ≤ 8) (hb9 : (r 110 0) = nI bb) (hw : (r 111 0) = -1 ∨ ¬ (r 111 0) < 0) (hB8 : bR r 8 = Bw) (hB29 : BB ≤ 2 ^ 29) (hvo : v_ok pn (r 9) (r 42)) (hRS : mRS Bw pn 400 400 80 RS R) (hd0 : 1 ≤ d) (ihB : ∀ d1 R1, d1 + 6 * R1 < d + 6 * R → MBLK l E pn Bw RS R1 d1) (hinv : k_inv1 BB ((r 42), bb, (r 111 0))) (ha : a < 80) (h3 : (r 11) a = 5) (hi : i < pn) (h4 : (r 12) a = nI i) (h5 : (r 13) a = nI x) (hV : mV (bR r 8) pn 400 5 x D) : Met l yX14_does wsX14_does ({ frames := 5 * (d + 6 * R) + 19, cells := 0, slots := 0, locals := 200 * (d + 6 * R) + 900 }) (q_P E [.ref M, .int (nI a)] f n) (q_Qv E (fun f1 n1 => rO E f M (r_ks r (k_pour pn i 1 D (r 9) ((r 42), bb, (r 111 0)))) = f1 ∧ n = n1)) 0 0 (q_ge E) := by
  refine Met.ofW (cc := cX14_does) (maxL := 6) (ret := none) (by decide) rfl ?_
  intro p e s m args below meth c s₁ B hml hv
  obtain ⟨rfl, hA, hW⟩ := hv
  have hx := B.exec
  have hb := B.bytes
  have hr := B.returns
  have hts := atoms_spec (ws := wsX14_does) B.pre
  have hown : s.vm.findClass RX14 = some m.cls := findClass_of_methodNamed B.named
  have hlocks := B.notSynchronized
  have hS : va_S (q_ge E) s.heap s.heap [] := va_S.rf
  have iX13 : ∀ w ∈ wsX130, w ∈ wsX14_does := by decide +kernel
  have iX14 : ∀ w ∈ wsX140, w ∈ wsX14_does := by decide +kernel
  have hl := lv_entry ([.ref M, .int (nI a)]) (n := 6) (Nat.le_of_ble_eq_true rfl)
  rw [lg_entry_eq]
  generalize (lg_sl ([.ref M, .int (nI a)]) ++ List.replicate (6 - (lg_sl ([.ref M, .int (nI a)])).length) Slot.unset).toArray = ls at hl ⊢
  have hl : lv_has ls 6 [(0, .ref M), (1, .int (nI a))] := hl
  have hmE := hm.eq
  rw [hm.eq] at hW
  have hok : k_ok (r 42) := hinv.le.ok hB29
  refine lv_aload_n hx hb dX14_does_0 rfl (lv_at hl 0 rfl) ?_
  refine q_get hx hb hts hown hA hW iX14 rO_0 rfl 17 (by decide) (hts (.fieldLink RX14 38 "HighRecipesModel" "told" "LHighRecipesModel$Book;") (by decide +kernel)) (fun _ h9 => h9) (v := .ref (M + 8)) rfl dX14_does_1 ?_
  refine q_getN hx hb hts hown hA hW iX13 rO_8 rfl 6 (by decide) (va_Nw.use rfl (hA.2.2.2.1 ("HighRecipesModel", 250, "HighRecipesModel$Book", "whom", "[I", "HighRecipesModel") (by decide +kernel))) (fun _ h9 => h9) (v := .ref (M + 12)) rfl dX14_does_4 ?_
  refine lv_iload_n hx hb dX14_does_7 rfl (lv_at hl 1 rfl) ?_
  refine q_ald hx hb hA hW (rO_12 (g := r 12) rfl) a rfl (by omega) (by decide) (x := nI i) h4 dX14_does_8 ?_
  refine lv_istore_n (lv' := [(2, .int (nI i)), (0, .ref M), (1, .int (nI a))]) hx hb dX14_does_9 rfl hl (by decide) rfl (fun ls hl => ?_)
  refine lv_aload_n hx hb dX14_does_10 rfl (lv_at hl 1 rfl) ?_
  refine q_get hx hb hts hown hA hW iX14 rO_0 rfl 17 (by decide) (hts (.fieldLink RX14 38 "HighRecipesModel" "told" "LHighRecipesModel$Book;") (by decide +kernel)) (fun _ h9 => h9) (v := .ref (M + 8)) rfl dX14_does_11 ?_
  refine q_getN hx hb hts hown hA hW iX13 rO_8 rfl 5 (by decide) (va_Nw.use rfl (hA.2.2.2.1 ("HighRecipesModel", 218, "HighRecipesModel$Book", "does", "[I", "HighRecipesModel") (by decide +kernel))) (fun _ h9 => h9) (v := .ref (M + 11)) rfl dX14_does_14 ?_
  refine lv_iload_n hx hb dX14_does_17 rfl (lv_at hl 2 rfl) ?_
  refine q_ald hx hb hA hW (rO_11 (g := r 11) rfl) a rfl (by omega) (by decide) (x := 5) h3 dX14_does_18 ?_
  refine lv_tableIn (x := 5) (off := 83) (tgt := 102) hx hb dX14_does_19 (by decide) (by decide) (by decide) (by decide) ?_
  refine lv_aload_n hx hb dX14_does_102 rfl (lv_at hl 1 rfl) ?_
  refine lv_iload_n hx hb dX14_does_103 rfl (lv_at hl 0 rfl) ?_
  refine lv_iconst (v := 1) hx hb dX14_does_104 (by decide) ?_
  refine lv_aload_n hx hb dX14_does_105 rfl (lv_at hl 1 rfl) ?_
  refine lv_aload_n hx hb dX14_does_106 rfl (lv_at hl 1 rfl) ?_
  refine q_get hx hb hts hown hA hW iX14 rO_0 rfl 17 (by decide) (hts (.fieldLink RX14 38 "HighRecipesModel" "told" "LHighRecipesModel$Book;") (by decide +kernel)) (fun _ h9 => h9) (v := .ref (M + 8)) rfl dX14_does_107 ?_
  refine q_getN hx hb hts hown hA hW iX13 rO_8 rfl 7 (by decide) (va_Nw.use rfl (hA.2.2.2.1 ("HighRecipesModel", 239, "HighRecipesModel$Book", "value", "[I", "HighRecipesModel") (by decide +kernel))) (fun _ h9 => h9) (v := .ref (M + 13)) rfl dX14_does_110 ?_
  refine lv_iload_n hx hb dX14_does_113 rfl (lv_at hl 2 rfl) ?_
  refine q_ald hx hb hA hW (rO_13 (g := r 13) rfl) a rfl (by omega) (by decide) (x := nI x) h5 dX14_does_114 ?_
  refine q_ci (va_runV (As := [.int (nI x)]) (rest := [.int 1, .int (nI i), .ref M]) ⟨hx, hb, hml, hown, hts⟩ (kX14_reckon l E n M r pn hpn 5 x D (rO E f M r) rO_K hV) (cwV 1 hts gX14_does_X14_reckon rfl rfl rfl (by decide +kernel) ⟨(by show 15 + 1 ≤ 5 * (d + 6 * R) + 19; omega), (by show 8 + (3 + 11) + 500 ≤ 200 * (d + 6 * R) + 900; omega)⟩) (q_pV hA hW hS (ci := 12) rfl rO_0) rfl rfl hl.1 rfl (lv_room (Nat.le_of_ble_eq_true rfl)) dX14_does_115 ⟨Nat.le_of_ble_eq_true rfl, Nat.le_of_ble_eq_true rfl⟩) hS (fun r_115 f_115 n_115 H locs hp hW hS => ?_)
  obtain ⟨rfl, rfl, rfl⟩ := hp
  have hW : q_W E (rO E f M r) n H := hW
  refine q_cv (va_runV (As := [.int (nI i), .int 1, .int (D (r 9) (r 42))]) (rest := []) ⟨hx, hb, hml, hown, hts⟩ (kX14_pours_1 l E (rO E f M r) n M r pn bb i (D (r 9) (r 42)) rO_K hpn9 (by assumption) hb9 (by first | assumption | decide) (by assumption) (by assumption) (by assumption)) (cwV 3 hts gX14_does_X14_pours rfl rfl rfl (by decide +kernel) ⟨(by show 4 + 1 ≤ 5 * (d + 6 * R) + 19; omega), (by show 8 + (5 + 11) + 89 ≤ 200 * (d + 6 * R) + 900; omega)⟩) (q_pV hA hW hS (ci := 12) rfl rO_0) rfl rfl hl.1 rfl (lv_room (Nat.le_of_ble_eq_true rfl)) dX14_does_118 ⟨Nat.le_of_ble_eq_true rfl, Nat.le_of_ble_eq_true rfl⟩) hS (fun f_118 n_118 H locs hp hW hS => ?_)
  obtain ⟨rfl, rfl⟩ := hp
  have hW : q_W E (rO E f M (rp (rp (rp r 42 ((k_pour pn i 1 (fun _ _ => (D (r 9) (r 42))) (r 9) ((r 42), bb, (r 111 0))).1)) 110 (fun _ => nI (k_pour pn i 1 (fun _ _ => (D (r 9) (r 42))) (r 9) ((r 42), bb, (r 111 0))).2.1)) 111 (fun _ => (k_pour pn i 1 (fun _ _ => (D (r 9) (r 42))) (r 9) ((r 42), bb, (r 111 0))).2.2))) n H := by rw [rO_rO] at hW; exact hW
  have hW : q_W E (rO E f M (rp (rp (rp r 42 ((k_pour pn i 1 (fun _ _ => (D (r 9) (r 42))) (r 9) ((r 42), bb, (r 111 0))).1)) 110 (fun _ => nI (k_pour pn i 1 (fun _ _ => (D (r 9) (r 42))) (r 9) ((r 42), bb, (r 111 0))).2.1)) 111 (fun _ => (k_pour pn i 1 (fun _ _ => (D (r 9) (r 42))) (r 9) ((r 42), bb, (r 111 0))).2.2))) n H := hW
  refine lv_goto (tgt := 364) hx hb dX14_does_121 (by decide) ?_
  have hW := q_rr 42 (g := (k_pour pn i 1 (fun _ _ => (D (r 9) (r 42))) (r 9) ((r 42), bb, (r 111 0))).1) hW rfl
  rw [rp_d2] at hW
  have hW := q_sc 110 (x := nI (k_pour pn i 1 (fun _ _ => (D (r 9) (r 42))) (r 9) ((r 42), bb, (r 111 0))).2.1) hW rfl (by decide)
  rw [rp_d2] at hW
  have hW := q_sc 111 (x := (k_pour pn i 1 (fun _ _ => (D (r 9) (r 42))) (r 9) ((r 42), bb, (r 111 0))).2.2) hW rfl (by decide)
  rw [rp_d2] at hW
  exact q_vret hx hb hr hlocks hW hS ⟨(congrArg (fun z : q_KS => rO E f M (r_ks r z)) (show (k_pour pn i 1 D (r 9) ((r 42), bb, (r 111 0))) = ((k_pour pn i 1 (fun _ _ => (D (r 9) (r 42))) (r 9) ((r 42), bb, (r 111 0))).1, (k_pour pn i 1 (fun _ _ => (D (r 9) (r 42))) (r 9) ((r 42), bb, (r 111 0))).2.1, (k_pour pn i 1 (fun _ _ => (D (r 9) (r 42))) (r 9) ((r 42), bb, (r 111 0))).2.2) from rfl)), rfl⟩ (Nat.le_of_ble_eq_true rfl) (Nat.le_of_ble_eq_true rfl) dX14_does_364

set_option maxHeartbeats 4000000 in
set_option maxRecDepth 100000 in
theorem kX14_does_7 (l : Launch) (E : q_E) (f : q_H) (n : Nat) (M : Nat) (r : q_R) (pn bb : Nat) (BB : Nat) (Bw : q_R) (RS : Nat → q_S) (R d : Nat) (a : Nat) (i x : Nat) (D : q_D)  (hm : RM E f M r) (hpn9 : (r 120 0) = nI pn) (hpn : pn ≤ 8) (hb9 : (r 110 0) = nI bb) (hw : (r 111 0) = -1 ∨ ¬ (r 111 0) < 0) (hB8 : bR r 8 = Bw) (hB29 : BB ≤ 2 ^ 29) (hvo : v_ok pn (r 9) (r 42)) (hRS : mRS Bw pn 400 400 80 RS R) (hd0 : 1 ≤ d) (ihB : ∀ d1 R1, d1 + 6 * R1 < d + 6 * R → MBLK l E pn Bw RS R1 d1) (hinv : k_inv1 BB ((r 42), bb, (r 111 0))) (ha : a < 80) (h3 : (r 11) a = 7) (hi : i < pn) (h4 : (r 12) a = nI i) (h5 : (r 13) a = nI x) (hV : mV (bR r 8) pn 400 5 x D) : Met l yX14_does wsX14_does ({ frames := 5 * (d + 6 * R) + 19, cells := 0, slots := 0, locals := 200 * (d + 6 * R) + 900 }) (q_P E [.ref M, .int (nI a)] f n) (q_Qv E (fun f1 n1 => rO E f M (r_ks r (k_heat pn i D (r 9) ((r 42), bb, (r 111 0)))) = f1 ∧ n = n1)) 0 0 (q_ge E) := by
  refine Met.ofW (cc := cX14_does) (maxL := 6) (ret := none) (by decide) rfl ?_
  intro p e s m args below meth c s₁ B hml hv
  obtain ⟨rfl, hA, hW⟩ := hv
  have hx := B.exec
  have hb := B.bytes
  have hr := B.returns
  have hts := atoms_spec (ws := wsX14_does) B.pre
  have hown : s.vm.findClass RX14 = some m.cls := findClass_of_methodNamed B.named
  have hlocks := B.notSynchronized
  have hS : va_S (q_ge E) s.heap s.heap [] := va_S.rf
  have iX13 : ∀ w ∈ wsX130, w ∈ wsX14_does := by decide +kernel
  have iX14 : ∀ w ∈ wsX140, w ∈ wsX14_does := by decide +kernel
  have hl := lv_entry ([.ref M, .int (nI a)]) (n := 6) (Nat.le_of_ble_eq_true rfl)
  rw [lg_entry_eq]
  generalize (lg_sl ([.ref M, .int (nI a)]) ++ List.replicate (6 - (lg_sl ([.ref M, .int (nI a)])).length) Slot.unset).toArray = ls at hl ⊢
  have hl : lv_has ls 6 [(0, .ref M), (1, .int (nI a))] := hl
  have hmE := hm.eq
  rw [hm.eq] at hW
  have hok : k_ok (r 42) := hinv.le.ok hB29
  refine lv_aload_n hx hb dX14_does_0 rfl (lv_at hl 0 rfl) ?_
  refine q_get hx hb hts hown hA hW iX14 rO_0 rfl 17 (by decide) (hts (.fieldLink RX14 38 "HighRecipesModel" "told" "LHighRecipesModel$Book;") (by decide +kernel)) (fun _ h9 => h9) (v := .ref (M + 8)) rfl dX14_does_1 ?_
  refine q_getN hx hb hts hown hA hW iX13 rO_8 rfl 6 (by decide) (va_Nw.use rfl (hA.2.2.2.1 ("HighRecipesModel", 250, "HighRecipesModel$Book", "whom", "[I", "HighRecipesModel") (by decide +kernel))) (fun _ h9 => h9) (v := .ref (M + 12)) rfl dX14_does_4 ?_
  refine lv_iload_n hx hb dX14_does_7 rfl (lv_at hl 1 rfl) ?_
  refine q_ald hx hb hA hW (rO_12 (g := r 12) rfl) a rfl (by omega) (by decide) (x := nI i) h4 dX14_does_8 ?_
  refine lv_istore_n (lv' := [(2, .int (nI i)), (0, .ref M), (1, .int (nI a))]) hx hb dX14_does_9 rfl hl (by decide) rfl (fun ls hl => ?_)
  refine lv_aload_n hx hb dX14_does_10 rfl (lv_at hl 1 rfl) ?_
  refine q_get hx hb hts hown hA hW iX14 rO_0 rfl 17 (by decide) (hts (.fieldLink RX14 38 "HighRecipesModel" "told" "LHighRecipesModel$Book;") (by decide +kernel)) (fun _ h9 => h9) (v := .ref (M + 8)) rfl dX14_does_11 ?_
  refine q_getN hx hb hts hown hA hW iX13 rO_8 rfl 5 (by decide) (va_Nw.use rfl (hA.2.2.2.1 ("HighRecipesModel", 218, "HighRecipesModel$Book", "does", "[I", "HighRecipesModel") (by decide +kernel))) (fun _ h9 => h9) (v := .ref (M + 11)) rfl dX14_does_14 ?_
  refine lv_iload_n hx hb dX14_does_17 rfl (lv_at hl 2 rfl) ?_
  refine q_ald hx hb hA hW (rO_11 (g := r 11) rfl) a rfl (by omega) (by decide) (x := 7) h3 dX14_does_18 ?_
  refine lv_tableIn (x := 7) (off := 105) (tgt := 124) hx hb dX14_does_19 (by decide) (by decide) (by decide) (by decide) ?_
  refine lv_aload_n hx hb dX14_does_124 rfl (lv_at hl 1 rfl) ?_
  refine lv_iload_n hx hb dX14_does_125 rfl (lv_at hl 0 rfl) ?_
  refine lv_aload_n hx hb dX14_does_126 rfl (lv_at hl 1 rfl) ?_
  refine lv_aload_n hx hb dX14_does_127 rfl (lv_at hl 1 rfl) ?_
  refine q_get hx hb hts hown hA hW iX14 rO_0 rfl 17 (by decide) (hts (.fieldLink RX14 38 "HighRecipesModel" "told" "LHighRecipesModel$Book;") (by decide +kernel)) (fun _ h9 => h9) (v := .ref (M + 8)) rfl dX14_does_128 ?_
  refine q_getN hx hb hts hown hA hW iX13 rO_8 rfl 7 (by decide) (va_Nw.use rfl (hA.2.2.2.1 ("HighRecipesModel", 239, "HighRecipesModel$Book", "value", "[I", "HighRecipesModel") (by decide +kernel))) (fun _ h9 => h9) (v := .ref (M + 13)) rfl dX14_does_131 ?_
  refine lv_iload_n hx hb dX14_does_134 rfl (lv_at hl 2 rfl) ?_
  refine q_ald hx hb hA hW (rO_13 (g := r 13) rfl) a rfl (by omega) (by decide) (x := nI x) h5 dX14_does_135 ?_
  refine q_ci (va_runV (As := [.int (nI x)]) (rest := [.int (nI i), .ref M]) ⟨hx, hb, hml, hown, hts⟩ (kX14_reckon l E n M r pn hpn 5 x D (rO E f M r) rO_K hV) (cwV 1 hts gX14_does_X14_reckon rfl rfl rfl (by decide +kernel) ⟨(by show 15 + 1 ≤ 5 * (d + 6 * R) + 19; omega), (by show 8 + (3 + 11) + 500 ≤ 200 * (d + 6 * R) + 900; omega)⟩) (q_pV hA hW hS (ci := 12) rfl rO_0) rfl rfl hl.1 rfl (lv_room (Nat.le_of_ble_eq_true rfl)) dX14_does_136 ⟨Nat.le_of_ble_eq_true rfl, Nat.le_of_ble_eq_true rfl⟩) hS (fun r_136 f_136 n_136 H locs hp hW hS => ?_)
  obtain ⟨rfl, rfl, rfl⟩ := hp
  have hW : q_W E (rO E f M r) n H := hW
  refine q_cv (va_runV (As := [.int (nI i), .int (D (r 9) (r 42))]) (rest := []) ⟨hx, hb, hml, hown, hts⟩ (kX14_heats l E (rO E f M r) n M r pn bb i (D (r 9) (r 42)) rO_K hpn9 (by assumption) hb9 (by first | assumption | decide) (by assumption) (by assumption) (by assumption)) (cwV 2 hts gX14_does_X14_heats rfl rfl rfl (by decide +kernel) ⟨(by show 2 + 1 ≤ 5 * (d + 6 * R) + 19; omega), (by show 8 + (5 + 11) + 44 ≤ 200 * (d + 6 * R) + 900; omega)⟩) (q_pV hA hW hS (ci := 12) rfl rO_0) rfl rfl hl.1 rfl (lv_room (Nat.le_of_ble_eq_true rfl)) dX14_does_139 ⟨Nat.le_of_ble_eq_true rfl, Nat.le_of_ble_eq_true rfl⟩) hS (fun f_139 n_139 H locs hp hW hS => ?_)
  obtain ⟨rfl, rfl⟩ := hp
  have hW : q_W E (rO E f M (rp (rp (rp r 42 ((k_heat pn i (fun _ _ => (D (r 9) (r 42))) (r 9) ((r 42), bb, (r 111 0))).1)) 110 (fun _ => nI (k_heat pn i (fun _ _ => (D (r 9) (r 42))) (r 9) ((r 42), bb, (r 111 0))).2.1)) 111 (fun _ => (k_heat pn i (fun _ _ => (D (r 9) (r 42))) (r 9) ((r 42), bb, (r 111 0))).2.2))) n H := by rw [rO_rO] at hW; exact hW
  have hW : q_W E (rO E f M (rp (rp (rp r 42 ((k_heat pn i (fun _ _ => (D (r 9) (r 42))) (r 9) ((r 42), bb, (r 111 0))).1)) 110 (fun _ => nI (k_heat pn i (fun _ _ => (D (r 9) (r 42))) (r 9) ((r 42), bb, (r 111 0))).2.1)) 111 (fun _ => (k_heat pn i (fun _ _ => (D (r 9) (r 42))) (r 9) ((r 42), bb, (r 111 0))).2.2))) n H := hW
  refine lv_goto (tgt := 364) hx hb dX14_does_142 (by decide) ?_
  have hW := q_rr 42 (g := (k_heat pn i (fun _ _ => (D (r 9) (r 42))) (r 9) ((r 42), bb, (r 111 0))).1) hW rfl
  rw [rp_d2] at hW
  have hW := q_sc 110 (x := nI (k_heat pn i (fun _ _ => (D (r 9) (r 42))) (r 9) ((r 42), bb, (r 111 0))).2.1) hW rfl (by decide)
  rw [rp_d2] at hW
  have hW := q_sc 111 (x := (k_heat pn i (fun _ _ => (D (r 9) (r 42))) (r 9) ((r 42), bb, (r 111 0))).2.2) hW rfl (by decide)
  rw [rp_d2] at hW
  exact q_vret hx hb hr hlocks hW hS ⟨(congrArg (fun z : q_KS => rO E f M (r_ks r z)) (show (k_heat pn i D (r 9) ((r 42), bb, (r 111 0))) = ((k_heat pn i (fun _ _ => (D (r 9) (r 42))) (r 9) ((r 42), bb, (r 111 0))).1, (k_heat pn i (fun _ _ => (D (r 9) (r 42))) (r 9) ((r 42), bb, (r 111 0))).2.1, (k_heat pn i (fun _ _ => (D (r 9) (r 42))) (r 9) ((r 42), bb, (r 111 0))).2.2) from rfl)), rfl⟩ (Nat.le_of_ble_eq_true rfl) (Nat.le_of_ble_eq_true rfl) dX14_does_364

set_option maxHeartbeats 4000000 in
set_option maxRecDepth 100000 in
theorem kX14_does_9 (l : Launch) (E : q_E) (f : q_H) (n : Nat) (M : Nat) (r : q_R) (pn bb : Nat) (BB : Nat) (Bw : q_R) (RS : Nat → q_S) (R d : Nat) (a : Nat) (i x : Nat) (D : q_D)  (hm : RM E f M r) (hpn9 : (r 120 0) = nI pn) (hpn : pn ≤ 8) (hb9 : (r 110 0) = nI bb) (hw : (r 111 0) = -1 ∨ ¬ (r 111 0) < 0) (hB8 : bR r 8 = Bw) (hB29 : BB ≤ 2 ^ 29) (hvo : v_ok pn (r 9) (r 42)) (hRS : mRS Bw pn 400 400 80 RS R) (hd0 : 1 ≤ d) (ihB : ∀ d1 R1, d1 + 6 * R1 < d + 6 * R → MBLK l E pn Bw RS R1 d1) (hinv : k_inv1 BB ((r 42), bb, (r 111 0))) (ha : a < 80) (h3 : (r 11) a = 9) (hi : i < pn) (h4 : (r 12) a = nI i) (h5 : (r 13) a = nI x) (hV : mV (bR r 8) pn 400 5 x D) : Met l yX14_does wsX14_does ({ frames := 5 * (d + 6 * R) + 19, cells := 0, slots := 0, locals := 200 * (d + 6 * R) + 900 }) (q_P E [.ref M, .int (nI a)] f n) (q_Qv E (fun f1 n1 => rO E f M (r_ks r (k_boil pn i D (r 9) ((r 42), bb, (r 111 0)))) = f1 ∧ n = n1)) 0 0 (q_ge E) := by
  refine Met.ofW (cc := cX14_does) (maxL := 6) (ret := none) (by decide) rfl ?_
  intro p e s m args below meth c s₁ B hml hv
  obtain ⟨rfl, hA, hW⟩ := hv
  have hx := B.exec
  have hb := B.bytes
  have hr := B.returns
  have hts := atoms_spec (ws := wsX14_does) B.pre
  have hown : s.vm.findClass RX14 = some m.cls := findClass_of_methodNamed B.named
  have hlocks := B.notSynchronized
  have hS : va_S (q_ge E) s.heap s.heap [] := va_S.rf
  have iX13 : ∀ w ∈ wsX130, w ∈ wsX14_does := by decide +kernel
  have iX14 : ∀ w ∈ wsX140, w ∈ wsX14_does := by decide +kernel
  have hl := lv_entry ([.ref M, .int (nI a)]) (n := 6) (Nat.le_of_ble_eq_true rfl)
  rw [lg_entry_eq]
  generalize (lg_sl ([.ref M, .int (nI a)]) ++ List.replicate (6 - (lg_sl ([.ref M, .int (nI a)])).length) Slot.unset).toArray = ls at hl ⊢
  have hl : lv_has ls 6 [(0, .ref M), (1, .int (nI a))] := hl
  have hmE := hm.eq
  rw [hm.eq] at hW
  have hok : k_ok (r 42) := hinv.le.ok hB29
  refine lv_aload_n hx hb dX14_does_0 rfl (lv_at hl 0 rfl) ?_
  refine q_get hx hb hts hown hA hW iX14 rO_0 rfl 17 (by decide) (hts (.fieldLink RX14 38 "HighRecipesModel" "told" "LHighRecipesModel$Book;") (by decide +kernel)) (fun _ h9 => h9) (v := .ref (M + 8)) rfl dX14_does_1 ?_
  refine q_getN hx hb hts hown hA hW iX13 rO_8 rfl 6 (by decide) (va_Nw.use rfl (hA.2.2.2.1 ("HighRecipesModel", 250, "HighRecipesModel$Book", "whom", "[I", "HighRecipesModel") (by decide +kernel))) (fun _ h9 => h9) (v := .ref (M + 12)) rfl dX14_does_4 ?_
  refine lv_iload_n hx hb dX14_does_7 rfl (lv_at hl 1 rfl) ?_
  refine q_ald hx hb hA hW (rO_12 (g := r 12) rfl) a rfl (by omega) (by decide) (x := nI i) h4 dX14_does_8 ?_
  refine lv_istore_n (lv' := [(2, .int (nI i)), (0, .ref M), (1, .int (nI a))]) hx hb dX14_does_9 rfl hl (by decide) rfl (fun ls hl => ?_)
  refine lv_aload_n hx hb dX14_does_10 rfl (lv_at hl 1 rfl) ?_
  refine q_get hx hb hts hown hA hW iX14 rO_0 rfl 17 (by decide) (hts (.fieldLink RX14 38 "HighRecipesModel" "told" "LHighRecipesModel$Book;") (by decide +kernel)) (fun _ h9 => h9) (v := .ref (M + 8)) rfl dX14_does_11 ?_
  refine q_getN hx hb hts hown hA hW iX13 rO_8 rfl 5 (by decide) (va_Nw.use rfl (hA.2.2.2.1 ("HighRecipesModel", 218, "HighRecipesModel$Book", "does", "[I", "HighRecipesModel") (by decide +kernel))) (fun _ h9 => h9) (v := .ref (M + 11)) rfl dX14_does_14 ?_
  refine lv_iload_n hx hb dX14_does_17 rfl (lv_at hl 2 rfl) ?_
  refine q_ald hx hb hA hW (rO_11 (g := r 11) rfl) a rfl (by omega) (by decide) (x := 9) h3 dX14_does_18 ?_
  refine lv_tableIn (x := 9) (off := 126) (tgt := 145) hx hb dX14_does_19 (by decide) (by decide) (by decide) (by decide) ?_
  refine lv_aload_n hx hb dX14_does_145 rfl (lv_at hl 1 rfl) ?_
  refine lv_iload_n hx hb dX14_does_146 rfl (lv_at hl 0 rfl) ?_
  refine lv_aload_n hx hb dX14_does_147 rfl (lv_at hl 1 rfl) ?_
  refine lv_aload_n hx hb dX14_does_148 rfl (lv_at hl 1 rfl) ?_
  refine q_get hx hb hts hown hA hW iX14 rO_0 rfl 17 (by decide) (hts (.fieldLink RX14 38 "HighRecipesModel" "told" "LHighRecipesModel$Book;") (by decide +kernel)) (fun _ h9 => h9) (v := .ref (M + 8)) rfl dX14_does_149 ?_
  refine q_getN hx hb hts hown hA hW iX13 rO_8 rfl 7 (by decide) (va_Nw.use rfl (hA.2.2.2.1 ("HighRecipesModel", 239, "HighRecipesModel$Book", "value", "[I", "HighRecipesModel") (by decide +kernel))) (fun _ h9 => h9) (v := .ref (M + 13)) rfl dX14_does_152 ?_
  refine lv_iload_n hx hb dX14_does_155 rfl (lv_at hl 2 rfl) ?_
  refine q_ald hx hb hA hW (rO_13 (g := r 13) rfl) a rfl (by omega) (by decide) (x := nI x) h5 dX14_does_156 ?_
  refine q_ci (va_runV (As := [.int (nI x)]) (rest := [.int (nI i), .ref M]) ⟨hx, hb, hml, hown, hts⟩ (kX14_reckon l E n M r pn hpn 5 x D (rO E f M r) rO_K hV) (cwV 1 hts gX14_does_X14_reckon rfl rfl rfl (by decide +kernel) ⟨(by show 15 + 1 ≤ 5 * (d + 6 * R) + 19; omega), (by show 8 + (3 + 11) + 500 ≤ 200 * (d + 6 * R) + 900; omega)⟩) (q_pV hA hW hS (ci := 12) rfl rO_0) rfl rfl hl.1 rfl (lv_room (Nat.le_of_ble_eq_true rfl)) dX14_does_157 ⟨Nat.le_of_ble_eq_true rfl, Nat.le_of_ble_eq_true rfl⟩) hS (fun r_157 f_157 n_157 H locs hp hW hS => ?_)
  obtain ⟨rfl, rfl, rfl⟩ := hp
  have hW : q_W E (rO E f M r) n H := hW
  refine q_cv (va_runV (As := [.int (nI i), .int (D (r 9) (r 42))]) (rest := []) ⟨hx, hb, hml, hown, hts⟩ (kX14_boils_ l E (rO E f M r) n M r pn bb i (D (r 9) (r 42)) rO_K hpn9 (by assumption) hb9 (by first | assumption | decide) (by assumption) (by assumption) (by assumption)) (cwV 2 hts gX14_does_X14_boils_ rfl rfl rfl (by decide +kernel) ⟨(by show 3 + 1 ≤ 5 * (d + 6 * R) + 19; omega), (by show 8 + (5 + 11) + 61 ≤ 200 * (d + 6 * R) + 900; omega)⟩) (q_pV hA hW hS (ci := 12) rfl rO_0) rfl rfl hl.1 rfl (lv_room (Nat.le_of_ble_eq_true rfl)) dX14_does_160 ⟨Nat.le_of_ble_eq_true rfl, Nat.le_of_ble_eq_true rfl⟩) hS (fun f_160 n_160 H locs hp hW hS => ?_)
  obtain ⟨rfl, rfl⟩ := hp
  have hW : q_W E (rO E f M (rp (rp (rp r 42 ((k_boil pn i (fun _ _ => (D (r 9) (r 42))) (r 9) ((r 42), bb, (r 111 0))).1)) 110 (fun _ => nI (k_boil pn i (fun _ _ => (D (r 9) (r 42))) (r 9) ((r 42), bb, (r 111 0))).2.1)) 111 (fun _ => (k_boil pn i (fun _ _ => (D (r 9) (r 42))) (r 9) ((r 42), bb, (r 111 0))).2.2))) n H := by rw [rO_rO] at hW; exact hW
  have hW : q_W E (rO E f M (rp (rp (rp r 42 ((k_boil pn i (fun _ _ => (D (r 9) (r 42))) (r 9) ((r 42), bb, (r 111 0))).1)) 110 (fun _ => nI (k_boil pn i (fun _ _ => (D (r 9) (r 42))) (r 9) ((r 42), bb, (r 111 0))).2.1)) 111 (fun _ => (k_boil pn i (fun _ _ => (D (r 9) (r 42))) (r 9) ((r 42), bb, (r 111 0))).2.2))) n H := hW
  refine lv_goto (tgt := 364) hx hb dX14_does_163 (by decide) ?_
  have hW := q_rr 42 (g := (k_boil pn i (fun _ _ => (D (r 9) (r 42))) (r 9) ((r 42), bb, (r 111 0))).1) hW rfl
  rw [rp_d2] at hW
  have hW := q_sc 110 (x := nI (k_boil pn i (fun _ _ => (D (r 9) (r 42))) (r 9) ((r 42), bb, (r 111 0))).2.1) hW rfl (by decide)
  rw [rp_d2] at hW
  have hW := q_sc 111 (x := (k_boil pn i (fun _ _ => (D (r 9) (r 42))) (r 9) ((r 42), bb, (r 111 0))).2.2) hW rfl (by decide)
  rw [rp_d2] at hW
  exact q_vret hx hb hr hlocks hW hS ⟨(congrArg (fun z : q_KS => rO E f M (r_ks r z)) (show (k_boil pn i D (r 9) ((r 42), bb, (r 111 0))) = ((k_boil pn i (fun _ _ => (D (r 9) (r 42))) (r 9) ((r 42), bb, (r 111 0))).1, (k_boil pn i (fun _ _ => (D (r 9) (r 42))) (r 9) ((r 42), bb, (r 111 0))).2.1, (k_boil pn i (fun _ _ => (D (r 9) (r 42))) (r 9) ((r 42), bb, (r 111 0))).2.2) from rfl)), rfl⟩ (Nat.le_of_ble_eq_true rfl) (Nat.le_of_ble_eq_true rfl) dX14_does_364

set_option maxHeartbeats 4000000 in
set_option maxRecDepth 100000 in
theorem kX14_does_11 (l : Launch) (E : q_E) (f : q_H) (n : Nat) (M : Nat) (r : q_R) (pn bb : Nat) (BB : Nat) (Bw : q_R) (RS : Nat → q_S) (R d : Nat) (a : Nat) (i : Nat)  (hm : RM E f M r) (hpn9 : (r 120 0) = nI pn) (hpn : pn ≤ 8) (hb9 : (r 110 0) = nI bb) (hw : (r 111 0) = -1 ∨ ¬ (r 111 0) < 0) (hB8 : bR r 8 = Bw) (hB29 : BB ≤ 2 ^ 29) (hvo : v_ok pn (r 9) (r 42)) (hRS : mRS Bw pn 400 400 80 RS R) (hd0 : 1 ≤ d) (ihB : ∀ d1 R1, d1 + 6 * R1 < d + 6 * R → MBLK l E pn Bw RS R1 d1) (hinv : k_inv1 BB ((r 42), bb, (r 111 0))) (ha : a < 80) (h3 : (r 11) a = 11) (hi : i < pn) (h4 : (r 12) a = nI i) : Met l yX14_does wsX14_does ({ frames := 5 * (d + 6 * R) + 19, cells := 0, slots := 0, locals := 200 * (d + 6 * R) + 900 }) (q_P E [.ref M, .int (nI a)] f n) (q_Qv E (fun f1 n1 => rO E f M (r_ks r (k_empty pn i (r 9) ((r 42), bb, (r 111 0)))) = f1 ∧ n = n1)) 0 0 (q_ge E) := by
  refine Met.ofW (cc := cX14_does) (maxL := 6) (ret := none) (by decide) rfl ?_
  intro p e s m args below meth c s₁ B hml hv
  obtain ⟨rfl, hA, hW⟩ := hv
  have hx := B.exec
  have hb := B.bytes
  have hr := B.returns
  have hts := atoms_spec (ws := wsX14_does) B.pre
  have hown : s.vm.findClass RX14 = some m.cls := findClass_of_methodNamed B.named
  have hlocks := B.notSynchronized
  have hS : va_S (q_ge E) s.heap s.heap [] := va_S.rf
  have iX13 : ∀ w ∈ wsX130, w ∈ wsX14_does := by decide +kernel
  have iX14 : ∀ w ∈ wsX140, w ∈ wsX14_does := by decide +kernel
  have hl := lv_entry ([.ref M, .int (nI a)]) (n := 6) (Nat.le_of_ble_eq_true rfl)
  rw [lg_entry_eq]
  generalize (lg_sl ([.ref M, .int (nI a)]) ++ List.replicate (6 - (lg_sl ([.ref M, .int (nI a)])).length) Slot.unset).toArray = ls at hl ⊢
  have hl : lv_has ls 6 [(0, .ref M), (1, .int (nI a))] := hl
  have hmE := hm.eq
  rw [hm.eq] at hW
  have hok : k_ok (r 42) := hinv.le.ok hB29
  refine lv_aload_n hx hb dX14_does_0 rfl (lv_at hl 0 rfl) ?_
  refine q_get hx hb hts hown hA hW iX14 rO_0 rfl 17 (by decide) (hts (.fieldLink RX14 38 "HighRecipesModel" "told" "LHighRecipesModel$Book;") (by decide +kernel)) (fun _ h9 => h9) (v := .ref (M + 8)) rfl dX14_does_1 ?_
  refine q_getN hx hb hts hown hA hW iX13 rO_8 rfl 6 (by decide) (va_Nw.use rfl (hA.2.2.2.1 ("HighRecipesModel", 250, "HighRecipesModel$Book", "whom", "[I", "HighRecipesModel") (by decide +kernel))) (fun _ h9 => h9) (v := .ref (M + 12)) rfl dX14_does_4 ?_
  refine lv_iload_n hx hb dX14_does_7 rfl (lv_at hl 1 rfl) ?_
  refine q_ald hx hb hA hW (rO_12 (g := r 12) rfl) a rfl (by omega) (by decide) (x := nI i) h4 dX14_does_8 ?_
  refine lv_istore_n (lv' := [(2, .int (nI i)), (0, .ref M), (1, .int (nI a))]) hx hb dX14_does_9 rfl hl (by decide) rfl (fun ls hl => ?_)
  refine lv_aload_n hx hb dX14_does_10 rfl (lv_at hl 1 rfl) ?_
  refine q_get hx hb hts hown hA hW iX14 rO_0 rfl 17 (by decide) (hts (.fieldLink RX14 38 "HighRecipesModel" "told" "LHighRecipesModel$Book;") (by decide +kernel)) (fun _ h9 => h9) (v := .ref (M + 8)) rfl dX14_does_11 ?_
  refine q_getN hx hb hts hown hA hW iX13 rO_8 rfl 5 (by decide) (va_Nw.use rfl (hA.2.2.2.1 ("HighRecipesModel", 218, "HighRecipesModel$Book", "does", "[I", "HighRecipesModel") (by decide +kernel))) (fun _ h9 => h9) (v := .ref (M + 11)) rfl dX14_does_14 ?_
  refine lv_iload_n hx hb dX14_does_17 rfl (lv_at hl 2 rfl) ?_
  refine q_ald hx hb hA hW (rO_11 (g := r 11) rfl) a rfl (by omega) (by decide) (x := 11) h3 dX14_does_18 ?_
  refine lv_tableIn (x := 11) (off := 147) (tgt := 166) hx hb dX14_does_19 (by decide) (by decide) (by decide) (by decide) ?_
  refine lv_aload_n hx hb dX14_does_166 rfl (lv_at hl 1 rfl) ?_
  refine lv_iload_n hx hb dX14_does_167 rfl (lv_at hl 0 rfl) ?_
  refine q_cv (va_runV (As := [.int (nI i)]) (rest := []) ⟨hx, hb, hml, hown, hts⟩ (kX14_bare l E (rO E f M r) n M r pn i rO_K (by assumption) (by assumption)) (cwV 1 hts gX14_does_X14_bare rfl rfl rfl (by decide +kernel) ⟨(by show 1 + 1 ≤ 5 * (d + 6 * R) + 19; omega), (by show 8 + (2 + 11) + 21 ≤ 200 * (d + 6 * R) + 900; omega)⟩) (q_pV hA hW hS (ci := 12) rfl rO_0) rfl rfl hl.1 rfl (lv_room (Nat.le_of_ble_eq_true rfl)) dX14_does_168 ⟨Nat.le_of_ble_eq_true rfl, Nat.le_of_ble_eq_true rfl⟩) hS (fun f_168 n_168 H locs hp hW hS => ?_)
  obtain ⟨rfl, rfl⟩ := hp
  have hW : q_W E (rO E f M (rp r 42 (z_pan (r 42) i 0 0 20 0))) n H := by rw [rO_rO] at hW; exact hW
  have hW : q_W E (rO E f M (rp r 42 (z_pan (r 42) i 0 0 20 0))) n H := hW
  refine lv_aload_n hx hb dX14_does_171 rfl (lv_at hl 1 rfl) ?_
  refine lv_iconst (v := 1) hx hb dX14_does_172 (by decide) ?_
  refine lv_iload_n hx hb dX14_does_173 rfl (lv_at hl 0 rfl) ?_
  refine q_cv (va_runV (As := [.int 1, .int (nI i)]) (rest := []) ⟨hx, hb, hml, hown, hts⟩ (kX14_goBy l E (rO E f M (rp r 42 (z_pan (r 42) i 0 0 20 0))) n M (rp r 42 (z_pan (r 42) i 0 0 20 0)) pn 1 i rO_K hpn9 (by assumption) (by omega)) (cwV 2 hts gX14_does_X14_goBy rfl rfl rfl (by decide +kernel) ⟨(by show 1 + 1 ≤ 5 * (d + 6 * R) + 19; omega), (by show 8 + (4 + 11) + 21 ≤ 200 * (d + 6 * R) + 900; omega)⟩) (q_pV hA hW hS (ci := 12) rfl rO_0) rfl rfl hl.1 rfl (lv_room (Nat.le_of_ble_eq_true rfl)) dX14_does_174 ⟨Nat.le_of_ble_eq_true rfl, Nat.le_of_ble_eq_true rfl⟩) hS (fun f_174 n_174 H locs hp hW hS => ?_)
  obtain ⟨rfl, rfl⟩ := hp
  have hW : q_W E (rO E f M (rp (rp r 42 (z_pan (r 42) i 0 0 20 0)) 42 (z_pass (z_pan (r 42) i 0 0 20 0) 1 i pn))) n H := by rw [rO_rO] at hW; exact hW
  rw [rp_d0] at hW
  have hW : q_W E (rO E f M (rp r 42 (z_pass (z_pan (r 42) i 0 0 20 0) 1 i pn))) n H := hW
  refine lv_goto (tgt := 364) hx hb dX14_does_177 (by decide) ?_
  have hW := q_rr 42 (g := z_pass (z_pan (r 42) i 0 0 20 0) 1 i pn) hW rfl
  rw [rp_d0] at hW
  have hW := q_sc 110 (x := nI bb) hW hb9 (by decide)
  have hW := q_sc 111 (x := r 111 0) hW rfl (by decide)
  exact q_vret hx hb hr hlocks hW hS ⟨(congrArg (fun z : q_KS => rO E f M (r_ks r z)) (show (k_empty pn i (r 9) ((r 42), bb, (r 111 0))) = (z_pass (z_pan (r 42) i 0 0 20 0) 1 i pn, bb, r 111 0) from rfl)), rfl⟩ (Nat.le_of_ble_eq_true rfl) (Nat.le_of_ble_eq_true rfl) dX14_does_364

set_option maxHeartbeats 4000000 in
set_option maxRecDepth 100000 in
theorem kX14_does_12 (l : Launch) (E : q_E) (f : q_H) (n : Nat) (M : Nat) (r : q_R) (pn bb : Nat) (BB : Nat) (Bw : q_R) (RS : Nat → q_S) (R d : Nat) (a : Nat) (x : Nat) (D : q_D)  (hm : RM E f M r) (hpn9 : (r 120 0) = nI pn) (hpn : pn ≤ 8) (hb9 : (r 110 0) = nI bb) (hw : (r 111 0) = -1 ∨ ¬ (r 111 0) < 0) (hB8 : bR r 8 = Bw) (hB29 : BB ≤ 2 ^ 29) (hvo : v_ok pn (r 9) (r 42)) (hRS : mRS Bw pn 400 400 80 RS R) (hd0 : 1 ≤ d) (ihB : ∀ d1 R1, d1 + 6 * R1 < d + 6 * R → MBLK l E pn Bw RS R1 d1) (hinv : k_inv1 BB ((r 42), bb, (r 111 0))) (ha : a < 80) (h3 : (r 11) a = 12) (h5 : (r 13) a = nI x) (hV : mV (bR r 8) pn 400 5 x D) : Met l yX14_does wsX14_does ({ frames := 5 * (d + 6 * R) + 19, cells := 0, slots := 0, locals := 200 * (d + 6 * R) + 900 }) (q_P E [.ref M, .int (nI a)] f n) (q_Qv E (fun f1 n1 => rO E f M (r_ks r (k_rest pn D (r 9) ((r 42), bb, (r 111 0)))) = f1 ∧ n = n1)) 0 0 (q_ge E) := by
  refine Met.ofW (cc := cX14_does) (maxL := 6) (ret := none) (by decide) rfl ?_
  intro p e s m args below meth c s₁ B hml hv
  obtain ⟨rfl, hA, hW⟩ := hv
  have hx := B.exec
  have hb := B.bytes
  have hr := B.returns
  have hts := atoms_spec (ws := wsX14_does) B.pre
  have hown : s.vm.findClass RX14 = some m.cls := findClass_of_methodNamed B.named
  have hlocks := B.notSynchronized
  have hS : va_S (q_ge E) s.heap s.heap [] := va_S.rf
  have iX13 : ∀ w ∈ wsX130, w ∈ wsX14_does := by decide +kernel
  have iX14 : ∀ w ∈ wsX140, w ∈ wsX14_does := by decide +kernel
  have hl := lv_entry ([.ref M, .int (nI a)]) (n := 6) (Nat.le_of_ble_eq_true rfl)
  rw [lg_entry_eq]
  generalize (lg_sl ([.ref M, .int (nI a)]) ++ List.replicate (6 - (lg_sl ([.ref M, .int (nI a)])).length) Slot.unset).toArray = ls at hl ⊢
  have hl : lv_has ls 6 [(0, .ref M), (1, .int (nI a))] := hl
  have hmE := hm.eq
  rw [hm.eq] at hW
  have hok : k_ok (r 42) := hinv.le.ok hB29
  refine lv_aload_n hx hb dX14_does_0 rfl (lv_at hl 0 rfl) ?_
  refine q_get hx hb hts hown hA hW iX14 rO_0 rfl 17 (by decide) (hts (.fieldLink RX14 38 "HighRecipesModel" "told" "LHighRecipesModel$Book;") (by decide +kernel)) (fun _ h9 => h9) (v := .ref (M + 8)) rfl dX14_does_1 ?_
  refine q_getN hx hb hts hown hA hW iX13 rO_8 rfl 6 (by decide) (va_Nw.use rfl (hA.2.2.2.1 ("HighRecipesModel", 250, "HighRecipesModel$Book", "whom", "[I", "HighRecipesModel") (by decide +kernel))) (fun _ h9 => h9) (v := .ref (M + 12)) rfl dX14_does_4 ?_
  refine lv_iload_n hx hb dX14_does_7 rfl (lv_at hl 1 rfl) ?_
  refine q_ald hx hb hA hW (rO_12 (g := r 12) rfl) a rfl (by omega) (by decide) (x := (r 12) a) rfl dX14_does_8 ?_
  refine lv_istore_n (lv' := [(2, .int ((r 12) a)), (0, .ref M), (1, .int (nI a))]) hx hb dX14_does_9 rfl hl (by decide) rfl (fun ls hl => ?_)
  refine lv_aload_n hx hb dX14_does_10 rfl (lv_at hl 1 rfl) ?_
  refine q_get hx hb hts hown hA hW iX14 rO_0 rfl 17 (by decide) (hts (.fieldLink RX14 38 "HighRecipesModel" "told" "LHighRecipesModel$Book;") (by decide +kernel)) (fun _ h9 => h9) (v := .ref (M + 8)) rfl dX14_does_11 ?_
  refine q_getN hx hb hts hown hA hW iX13 rO_8 rfl 5 (by decide) (va_Nw.use rfl (hA.2.2.2.1 ("HighRecipesModel", 218, "HighRecipesModel$Book", "does", "[I", "HighRecipesModel") (by decide +kernel))) (fun _ h9 => h9) (v := .ref (M + 11)) rfl dX14_does_14 ?_
  refine lv_iload_n hx hb dX14_does_17 rfl (lv_at hl 2 rfl) ?_
  refine q_ald hx hb hA hW (rO_11 (g := r 11) rfl) a rfl (by omega) (by decide) (x := 12) h3 dX14_does_18 ?_
  refine lv_tableIn (x := 12) (off := 161) (tgt := 180) hx hb dX14_does_19 (by decide) (by decide) (by decide) (by decide) ?_
  refine lv_aload_n hx hb dX14_does_180 rfl (lv_at hl 1 rfl) ?_
  refine lv_aload_n hx hb dX14_does_181 rfl (lv_at hl 1 rfl) ?_
  refine lv_aload_n hx hb dX14_does_182 rfl (lv_at hl 1 rfl) ?_
  refine q_get hx hb hts hown hA hW iX14 rO_0 rfl 17 (by decide) (hts (.fieldLink RX14 38 "HighRecipesModel" "told" "LHighRecipesModel$Book;") (by decide +kernel)) (fun _ h9 => h9) (v := .ref (M + 8)) rfl dX14_does_183 ?_
  refine q_getN hx hb hts hown hA hW iX13 rO_8 rfl 7 (by decide) (va_Nw.use rfl (hA.2.2.2.1 ("HighRecipesModel", 239, "HighRecipesModel$Book", "value", "[I", "HighRecipesModel") (by decide +kernel))) (fun _ h9 => h9) (v := .ref (M + 13)) rfl dX14_does_186 ?_
  refine lv_iload_n hx hb dX14_does_189 rfl (lv_at hl 2 rfl) ?_
  refine q_ald hx hb hA hW (rO_13 (g := r 13) rfl) a rfl (by omega) (by decide) (x := nI x) h5 dX14_does_190 ?_
  refine q_ci (va_runV (As := [.int (nI x)]) (rest := [.ref M]) ⟨hx, hb, hml, hown, hts⟩ (kX14_reckon l E n M r pn hpn 5 x D (rO E f M r) rO_K hV) (cwV 1 hts gX14_does_X14_reckon rfl rfl rfl (by decide +kernel) ⟨(by show 15 + 1 ≤ 5 * (d + 6 * R) + 19; omega), (by show 8 + (3 + 11) + 500 ≤ 200 * (d + 6 * R) + 900; omega)⟩) (q_pV hA hW hS (ci := 12) rfl rO_0) rfl rfl hl.1 rfl (lv_room (Nat.le_of_ble_eq_true rfl)) dX14_does_191 ⟨Nat.le_of_ble_eq_true rfl, Nat.le_of_ble_eq_true rfl⟩) hS (fun r_191 f_191 n_191 H locs hp hW hS => ?_)
  obtain ⟨rfl, rfl, rfl⟩ := hp
  have hW : q_W E (rO E f M r) n H := hW
  refine lv_iconst (v := 0) hx hb dX14_does_194 (by decide) ?_
  refine lv_sipush (v := 600) hx hb dX14_does_195 (by decide) ?_
  refine q_ci (va_runS (As := [.int (D (r 9) (r 42)), .int 0, .int 600]) (rest := [.ref M]) ⟨hx, hb, hml, hown, hts⟩ (kX14_held l E (rO E f M r) n (D (r 9) (r 42)) 0 600) (va_cwS 3 hts gX14_does_X14_held rfl rfl rfl (by decide +kernel) ⟨(by show 1 + 1 ≤ 5 * (d + 6 * R) + 19; omega), (by show 8 + (3 + 11) + 21 ≤ 200 * (d + 6 * R) + 900; omega)⟩) (q_pS hA hW hS) rfl rfl hl.1 rfl (lv_room (Nat.le_of_ble_eq_true rfl)) dX14_does_198 ⟨Nat.le_of_ble_eq_true rfl, Nat.le_of_ble_eq_true rfl⟩) hS (fun r_198 f_198 n_198 H locs hp hW hS => ?_)
  obtain ⟨rfl, rfl, rfl⟩ := hp
  have hW : q_W E (rO E f M r) n H := hW
  refine lv_iconst (v := (-1)) hx hb dX14_does_201 (by decide) ?_
  refine q_cv (va_runV (As := [.int (q_clamp (D (r 9) (r 42)) 0 600), .int (-1)]) (rest := []) ⟨hx, hb, hml, hown, hts⟩ (kX14_goByN l E (rO E f M r) n M r pn (q_clamp (D (r 9) (r 42)) 0 600) rO_K hpn9 (by assumption)) (cwV 2 hts gX14_does_X14_goBy rfl rfl rfl (by decide +kernel) ⟨(by show 1 + 1 ≤ 5 * (d + 6 * R) + 19; omega), (by show 8 + (4 + 11) + 21 ≤ 200 * (d + 6 * R) + 900; omega)⟩) (q_pV hA hW hS (ci := 12) rfl rO_0) rfl rfl hl.1 rfl (lv_room (Nat.le_of_ble_eq_true rfl)) dX14_does_202 ⟨Nat.le_of_ble_eq_true rfl, Nat.le_of_ble_eq_true rfl⟩) hS (fun f_202 n_202 H locs hp hW hS => ?_)
  obtain ⟨rfl, rfl⟩ := hp
  have hW : q_W E (rO E f M (rp r 42 (z_pass (r 42) (q_clamp (D (r 9) (r 42)) 0 600) 8 pn))) n H := by rw [rO_rO] at hW; exact hW
  have hW : q_W E (rO E f M (rp r 42 (z_pass (r 42) (q_clamp (D (r 9) (r 42)) 0 600) 8 pn))) n H := hW
  refine lv_goto (tgt := 364) hx hb dX14_does_205 (by decide) ?_
  have hW := q_rr 42 (g := z_pass (r 42) (q_clamp (D (r 9) (r 42)) 0 600) 8 pn) hW rfl
  rw [rp_d0] at hW
  have hW := q_sc 110 (x := nI bb) hW hb9 (by decide)
  have hW := q_sc 111 (x := r 111 0) hW rfl (by decide)
  exact q_vret hx hb hr hlocks hW hS ⟨(congrArg (fun z : q_KS => rO E f M (r_ks r z)) (show (k_rest pn D (r 9) ((r 42), bb, (r 111 0))) = (z_pass (r 42) (q_clamp (D (r 9) (r 42)) 0 600) 8 pn, bb, r 111 0) from rfl)), rfl⟩ (Nat.le_of_ble_eq_true rfl) (Nat.le_of_ble_eq_true rfl) dX14_does_364

set_option maxHeartbeats 4000000 in
set_option maxRecDepth 100000 in
theorem kX14_does_13 (l : Launch) (E : q_E) (f : q_H) (n : Nat) (M : Nat) (r : q_R) (pn bb : Nat) (BB : Nat) (Bw : q_R) (RS : Nat → q_S) (R d : Nat) (a : Nat) (x : Nat) (D : q_D)  (hm : RM E f M r) (hpn9 : (r 120 0) = nI pn) (hpn : pn ≤ 8) (hb9 : (r 110 0) = nI bb) (hw : (r 111 0) = -1 ∨ ¬ (r 111 0) < 0) (hB8 : bR r 8 = Bw) (hB29 : BB ≤ 2 ^ 29) (hvo : v_ok pn (r 9) (r 42)) (hRS : mRS Bw pn 400 400 80 RS R) (hd0 : 1 ≤ d) (ihB : ∀ d1 R1, d1 + 6 * R1 < d + 6 * R → MBLK l E pn Bw RS R1 d1) (hinv : k_inv1 BB ((r 42), bb, (r 111 0))) (ha : a < 80) (h3 : (r 11) a = 13) (h5 : (r 13) a = nI x) (hV : mV (bR r 8) pn 400 5 x D) : Met l yX14_does wsX14_does ({ frames := 5 * (d + 6 * R) + 19, cells := 0, slots := 0, locals := 200 * (d + 6 * R) + 900 }) (q_P E [.ref M, .int (nI a)] f n) (q_Qv E (fun f1 n1 => rO E f M (r_ks r (k_note D (r 9) ((r 42), bb, (r 111 0)))) = f1 ∧ n = n1)) 0 0 (q_ge E) := by
  refine Met.ofW (cc := cX14_does) (maxL := 6) (ret := none) (by decide) rfl ?_
  intro p e s m args below meth c s₁ B hml hv
  obtain ⟨rfl, hA, hW⟩ := hv
  have hx := B.exec
  have hb := B.bytes
  have hr := B.returns
  have hts := atoms_spec (ws := wsX14_does) B.pre
  have hown : s.vm.findClass RX14 = some m.cls := findClass_of_methodNamed B.named
  have hlocks := B.notSynchronized
  have hS : va_S (q_ge E) s.heap s.heap [] := va_S.rf
  have iX13 : ∀ w ∈ wsX130, w ∈ wsX14_does := by decide +kernel
  have iX14 : ∀ w ∈ wsX140, w ∈ wsX14_does := by decide +kernel
  have hl := lv_entry ([.ref M, .int (nI a)]) (n := 6) (Nat.le_of_ble_eq_true rfl)
  rw [lg_entry_eq]
  generalize (lg_sl ([.ref M, .int (nI a)]) ++ List.replicate (6 - (lg_sl ([.ref M, .int (nI a)])).length) Slot.unset).toArray = ls at hl ⊢
  have hl : lv_has ls 6 [(0, .ref M), (1, .int (nI a))] := hl
  have hmE := hm.eq
  rw [hm.eq] at hW
  have hok : k_ok (r 42) := hinv.le.ok hB29
  refine lv_aload_n hx hb dX14_does_0 rfl (lv_at hl 0 rfl) ?_
  refine q_get hx hb hts hown hA hW iX14 rO_0 rfl 17 (by decide) (hts (.fieldLink RX14 38 "HighRecipesModel" "told" "LHighRecipesModel$Book;") (by decide +kernel)) (fun _ h9 => h9) (v := .ref (M + 8)) rfl dX14_does_1 ?_
  refine q_getN hx hb hts hown hA hW iX13 rO_8 rfl 6 (by decide) (va_Nw.use rfl (hA.2.2.2.1 ("HighRecipesModel", 250, "HighRecipesModel$Book", "whom", "[I", "HighRecipesModel") (by decide +kernel))) (fun _ h9 => h9) (v := .ref (M + 12)) rfl dX14_does_4 ?_
  refine lv_iload_n hx hb dX14_does_7 rfl (lv_at hl 1 rfl) ?_
  refine q_ald hx hb hA hW (rO_12 (g := r 12) rfl) a rfl (by omega) (by decide) (x := (r 12) a) rfl dX14_does_8 ?_
  refine lv_istore_n (lv' := [(2, .int ((r 12) a)), (0, .ref M), (1, .int (nI a))]) hx hb dX14_does_9 rfl hl (by decide) rfl (fun ls hl => ?_)
  refine lv_aload_n hx hb dX14_does_10 rfl (lv_at hl 1 rfl) ?_
  refine q_get hx hb hts hown hA hW iX14 rO_0 rfl 17 (by decide) (hts (.fieldLink RX14 38 "HighRecipesModel" "told" "LHighRecipesModel$Book;") (by decide +kernel)) (fun _ h9 => h9) (v := .ref (M + 8)) rfl dX14_does_11 ?_
  refine q_getN hx hb hts hown hA hW iX13 rO_8 rfl 5 (by decide) (va_Nw.use rfl (hA.2.2.2.1 ("HighRecipesModel", 218, "HighRecipesModel$Book", "does", "[I", "HighRecipesModel") (by decide +kernel))) (fun _ h9 => h9) (v := .ref (M + 11)) rfl dX14_does_14 ?_
  refine lv_iload_n hx hb dX14_does_17 rfl (lv_at hl 2 rfl) ?_
  refine q_ald hx hb hA hW (rO_11 (g := r 11) rfl) a rfl (by omega) (by decide) (x := 13) h3 dX14_does_18 ?_
  refine lv_tableIn (x := 13) (off := 189) (tgt := 208) hx hb dX14_does_19 (by decide) (by decide) (by decide) (by decide) ?_
  refine lv_aload_n hx hb dX14_does_208 rfl (lv_at hl 1 rfl) ?_
  refine q_get hx hb hts hown hA hW iX14 rO_0 rfl 19 (by decide) (hts (.fieldLink RX14 45 "HighRecipesModel" "now" "[I") (by decide +kernel)) (fun _ h9 => h9) (v := .ref (M + 42)) rfl dX14_does_209 ?_
  refine lv_bipush (v := 32) hx hb dX14_does_212 (by decide) ?_
  refine lv_aload_n hx hb dX14_does_214 rfl (lv_at hl 1 rfl) ?_
  refine q_get hx hb hts hown hA hW iX14 rO_0 rfl 19 (by decide) (hts (.fieldLink RX14 45 "HighRecipesModel" "now" "[I") (by decide +kernel)) (fun _ h9 => h9) (v := .ref (M + 42)) rfl dX14_does_215 ?_
  refine lv_iconst (v := 5) hx hb dX14_does_218 (by decide) ?_
  refine q_ald hx hb hA hW (rO_42 (g := r 42) rfl) 5 rfl (by decide) (by decide) (x := nI (k_N (r 42))) hok.2.1 dX14_does_219 ?_
  refine lv_bipush (v := 20) hx hb dX14_does_220 (by decide) ?_
  refine lv_irem hx hb dX14_does_222 (by decide) ?_
  rw [q_rem20 (Nat.lt_trans hok.2.2 (by decide)), show (32 : Int32) = nI 32 from rfl]
  refine lv_iadd hx hb dX14_does_223 ?_
  rw [nI_add]
  refine lv_aload_n hx hb dX14_does_224 rfl (lv_at hl 1 rfl) ?_
  refine lv_aload_n hx hb dX14_does_225 rfl (lv_at hl 1 rfl) ?_
  refine q_get hx hb hts hown hA hW iX14 rO_0 rfl 17 (by decide) (hts (.fieldLink RX14 38 "HighRecipesModel" "told" "LHighRecipesModel$Book;") (by decide +kernel)) (fun _ h9 => h9) (v := .ref (M + 8)) rfl dX14_does_226 ?_
  refine q_getN hx hb hts hown hA hW iX13 rO_8 rfl 7 (by decide) (va_Nw.use rfl (hA.2.2.2.1 ("HighRecipesModel", 239, "HighRecipesModel$Book", "value", "[I", "HighRecipesModel") (by decide +kernel))) (fun _ h9 => h9) (v := .ref (M + 13)) rfl dX14_does_229 ?_
  refine lv_iload_n hx hb dX14_does_232 rfl (lv_at hl 2 rfl) ?_
  refine q_ald hx hb hA hW (rO_13 (g := r 13) rfl) a rfl (by omega) (by decide) (x := nI x) h5 dX14_does_233 ?_
  refine q_ci (va_runV (As := [.int (nI x)]) (rest := [.int (nI (32 + (k_N (r 42)) % 20)), .ref (M + 42)]) ⟨hx, hb, hml, hown, hts⟩ (kX14_reckon l E n M r pn hpn 5 x D (rO E f M r) rO_K hV) (cwV 1 hts gX14_does_X14_reckon rfl rfl rfl (by decide +kernel) ⟨(by show 15 + 1 ≤ 5 * (d + 6 * R) + 19; omega), (by show 8 + (3 + 11) + 500 ≤ 200 * (d + 6 * R) + 900; omega)⟩) (q_pV hA hW hS (ci := 12) rfl rO_0) rfl rfl hl.1 rfl (lv_room (Nat.le_of_ble_eq_true rfl)) dX14_does_234 ⟨Nat.le_of_ble_eq_true rfl, Nat.le_of_ble_eq_true rfl⟩) hS (fun r_234 f_234 n_234 H locs hp hW hS => ?_)
  obtain ⟨rfl, rfl, rfl⟩ := hp
  have hW : q_W E (rO E f M r) n H := hW
  refine q_ast hx hb hA hW hS (rO_42 (g := r 42) rfl) (32 + (k_N (r 42)) % 20) rfl (by omega) (by decide) dX14_does_237 (fun H locs hW hS => ?_)
  have hW := q_sa 42 hW rfl rfl
  refine lv_aload_n hx hb dX14_does_238 rfl (lv_at hl 1 rfl) ?_
  refine q_get hx hb hts hown hA hW iX14 rO_0 rfl 19 (by decide) (hts (.fieldLink RX14 45 "HighRecipesModel" "now" "[I") (by decide +kernel)) (fun _ h9 => h9) (v := .ref (M + 42)) rfl dX14_does_239 ?_
  refine lv_iconst (v := 5) hx hb dX14_does_242 (by decide) ?_
  refine lv_dup2_11 hx hb dX14_does_243 rfl rfl ?_
  refine q_ald hx hb hA hW (rO_42 (g := upd (r 42) (32 + (k_N (r 42)) % 20) (D (r 9) (r 42))) rfl) 5 rfl (by decide) (by decide) (x := nI (k_N (r 42))) ((z_un (by omega)).trans hok.2.1) dX14_does_244 ?_
  refine lv_iconst (v := 1) hx hb dX14_does_245 (by decide) ?_
  refine lv_iadd hx hb dX14_does_246 ?_
  refine q_ast hx hb hA hW hS (rO_42 (g := upd (r 42) (32 + (k_N (r 42)) % 20) (D (r 9) (r 42))) rfl) 5 rfl (by decide) (by decide) dX14_does_247 (fun H locs hW hS => ?_)
  have hW := q_sa 42 hW rfl rfl
  rw [rp_d0] at hW
  refine lv_goto (tgt := 364) hx hb dX14_does_248 (by decide) ?_
  have hW := q_rr 42 (g := upd (upd (r 42) (32 + (k_N (r 42)) % 20) (D (r 9) (r 42))) 5 ((nI (k_N (r 42))) + 1)) hW rfl
  rw [rp_d0] at hW
  have hW := q_sc 110 (x := nI bb) hW hb9 (by decide)
  have hW := q_sc 111 (x := r 111 0) hW rfl (by decide)
  exact q_vret hx hb hr hlocks hW hS ⟨(congrArg (fun z : q_KS => rO E f M (r_ks r z)) (show (k_note D (r 9) ((r 42), bb, (r 111 0))) = (upd (upd (r 42) (32 + (k_N (r 42)) % 20) (D (r 9) (r 42))) 5 ((nI (k_N (r 42))) + 1), bb, r 111 0) from rfl)), rfl⟩ (Nat.le_of_ble_eq_true rfl) (Nat.le_of_ble_eq_true rfl) dX14_does_364

set_option maxHeartbeats 4000000 in
set_option maxRecDepth 100000 in
theorem kX14_does_14 (l : Launch) (E : q_E) (f : q_H) (n : Nat) (M : Nat) (r : q_R) (pn bb : Nat) (BB : Nat) (Bw : q_R) (RS : Nat → q_S) (R d : Nat) (a : Nat) (r9 m9 : Nat)  (hm : RM E f M r) (hpn9 : (r 120 0) = nI pn) (hpn : pn ≤ 8) (hb9 : (r 110 0) = nI bb) (hw : (r 111 0) = -1 ∨ ¬ (r 111 0) < 0) (hB8 : bR r 8 = Bw) (hB29 : BB ≤ 2 ^ 29) (hvo : v_ok pn (r 9) (r 42)) (hRS : mRS Bw pn 400 400 80 RS R) (hd0 : 1 ≤ d) (ihB : ∀ d1 R1, d1 + 6 * R1 < d + 6 * R → MBLK l E pn Bw RS R1 d1) (hinv : k_inv1 BB ((r 42), bb, (r 111 0))) (ha : a < 80) (h3 : (r 11) a = 14) (hr9 : r9 < R) (hr6 : r9 < 6) (h4 : (r 12) a = nI r9) (hL : mL Bw 0 80 (mA Bw pn 400 400 80 RS r9 6) m9 ((r 10) r9) (RS r9)) : Met l yX14_does wsX14_does ({ frames := 5 * (d + 6 * R) + 19, cells := 0, slots := 0, locals := 200 * (d + 6 * R) + 900 }) (q_P E [.ref M, .int (nI a)] f n) (q_Qv E (fun f1 n1 => rO E f M (r_ks r (RS r9 (r 9) ((r 42), bb, (r 111 0)))) = f1 ∧ n = n1)) 0 0 (q_ge E) := by
  refine Met.ofW (cc := cX14_does) (maxL := 6) (ret := none) (by decide) rfl ?_
  intro p e s m args below meth c s₁ B hml hv
  obtain ⟨rfl, hA, hW⟩ := hv
  have hx := B.exec
  have hb := B.bytes
  have hr := B.returns
  have hts := atoms_spec (ws := wsX14_does) B.pre
  have hown : s.vm.findClass RX14 = some m.cls := findClass_of_methodNamed B.named
  have hlocks := B.notSynchronized
  have hS : va_S (q_ge E) s.heap s.heap [] := va_S.rf
  have iX13 : ∀ w ∈ wsX130, w ∈ wsX14_does := by decide +kernel
  have iX14 : ∀ w ∈ wsX140, w ∈ wsX14_does := by decide +kernel
  have hl := lv_entry ([.ref M, .int (nI a)]) (n := 6) (Nat.le_of_ble_eq_true rfl)
  rw [lg_entry_eq]
  generalize (lg_sl ([.ref M, .int (nI a)]) ++ List.replicate (6 - (lg_sl ([.ref M, .int (nI a)])).length) Slot.unset).toArray = ls at hl ⊢
  have hl : lv_has ls 6 [(0, .ref M), (1, .int (nI a))] := hl
  have hmE := hm.eq
  rw [hm.eq] at hW
  have hok : k_ok (r 42) := hinv.le.ok hB29
  refine lv_aload_n hx hb dX14_does_0 rfl (lv_at hl 0 rfl) ?_
  refine q_get hx hb hts hown hA hW iX14 rO_0 rfl 17 (by decide) (hts (.fieldLink RX14 38 "HighRecipesModel" "told" "LHighRecipesModel$Book;") (by decide +kernel)) (fun _ h9 => h9) (v := .ref (M + 8)) rfl dX14_does_1 ?_
  refine q_getN hx hb hts hown hA hW iX13 rO_8 rfl 6 (by decide) (va_Nw.use rfl (hA.2.2.2.1 ("HighRecipesModel", 250, "HighRecipesModel$Book", "whom", "[I", "HighRecipesModel") (by decide +kernel))) (fun _ h9 => h9) (v := .ref (M + 12)) rfl dX14_does_4 ?_
  refine lv_iload_n hx hb dX14_does_7 rfl (lv_at hl 1 rfl) ?_
  refine q_ald hx hb hA hW (rO_12 (g := r 12) rfl) a rfl (by omega) (by decide) (x := nI r9) h4 dX14_does_8 ?_
  refine lv_istore_n (lv' := [(2, .int (nI r9)), (0, .ref M), (1, .int (nI a))]) hx hb dX14_does_9 rfl hl (by decide) rfl (fun ls hl => ?_)
  refine lv_aload_n hx hb dX14_does_10 rfl (lv_at hl 1 rfl) ?_
  refine q_get hx hb hts hown hA hW iX14 rO_0 rfl 17 (by decide) (hts (.fieldLink RX14 38 "HighRecipesModel" "told" "LHighRecipesModel$Book;") (by decide +kernel)) (fun _ h9 => h9) (v := .ref (M + 8)) rfl dX14_does_11 ?_
  refine q_getN hx hb hts hown hA hW iX13 rO_8 rfl 5 (by decide) (va_Nw.use rfl (hA.2.2.2.1 ("HighRecipesModel", 218, "HighRecipesModel$Book", "does", "[I", "HighRecipesModel") (by decide +kernel))) (fun _ h9 => h9) (v := .ref (M + 11)) rfl dX14_does_14 ?_
  refine lv_iload_n hx hb dX14_does_17 rfl (lv_at hl 2 rfl) ?_
  refine q_ald hx hb hA hW (rO_11 (g := r 11) rfl) a rfl (by omega) (by decide) (x := 14) h3 dX14_does_18 ?_
  refine lv_tableIn (x := 14) (off := 232) (tgt := 251) hx hb dX14_does_19 (by decide) (by decide) (by decide) (by decide) ?_
  refine lv_aload_n hx hb dX14_does_251 rfl (lv_at hl 1 rfl) ?_
  refine lv_aload_n hx hb dX14_does_252 rfl (lv_at hl 1 rfl) ?_
  refine q_get hx hb hts hown hA hW iX14 rO_0 rfl 17 (by decide) (hts (.fieldLink RX14 38 "HighRecipesModel" "told" "LHighRecipesModel$Book;") (by decide +kernel)) (fun _ h9 => h9) (v := .ref (M + 8)) rfl dX14_does_253 ?_
  refine q_getN hx hb hts hown hA hW iX13 rO_8 rfl 3 (by decide) (va_Nw.use rfl (hA.2.2.2.1 ("HighRecipesModel", 263, "HighRecipesModel$Book", "recipe", "[I", "HighRecipesModel") (by decide +kernel))) (fun _ h9 => h9) (v := .ref (M + 10)) rfl dX14_does_256 ?_
  refine lv_iload_n hx hb dX14_does_259 rfl (lv_at hl 0 rfl) ?_
  refine q_ald hx hb hA hW (rO_10 (g := r 10) rfl) r9 rfl (by omega) (by decide) (x := (r 10) r9) rfl dX14_does_260 ?_
  refine q_cv (va_runV (As := [.int ((r 10) r9)]) (rest := []) ⟨hx, hb, hml, hown, hts⟩ (ihB 6 r9 (by omega) (rO E f M r) n M r bb BB 0 m9 (r 10 r9) (RS r9) rO_K hB8 hpn9 hpn hb9 hw hB29 hinv.le hvo (mRS_le hRS (Nat.le_of_lt hr9)) hL (by decide)) (cwV 1 hts gX14_does_X14_doBlock rfl rfl rfl (by decide +kernel) ⟨(by show (5 * (6 + 6 * r9) + 20) + 1 ≤ 5 * (d + 6 * R) + 19; omega), (by show 8 + (3 + 11) + (200 * (6 + 6 * r9) + 1000) ≤ 200 * (d + 6 * R) + 900; omega)⟩) (q_pV hA hW hS (ci := 12) rfl rO_0) rfl rfl hl.1 rfl (lv_room (Nat.le_of_ble_eq_true rfl)) dX14_does_261 ⟨Nat.le_of_ble_eq_true rfl, Nat.le_of_ble_eq_true rfl⟩) hS (fun f_261 n_261 H locs hp hW hS => ?_)
  obtain ⟨rfl, rfl⟩ := hp
  have hW : q_W E (rO E f M (rp (rp (rp r 42 (((RS r9) (r 9) ((r 42), bb, (r 111 0))).1)) 110 (fun _ => nI ((RS r9) (r 9) ((r 42), bb, (r 111 0))).2.1)) 111 (fun _ => ((RS r9) (r 9) ((r 42), bb, (r 111 0))).2.2))) n H := by rw [rO_rO] at hW; exact hW
  have hW : q_W E (rO E f M (rp (rp (rp r 42 (((RS r9) (r 9) ((r 42), bb, (r 111 0))).1)) 110 (fun _ => nI ((RS r9) (r 9) ((r 42), bb, (r 111 0))).2.1)) 111 (fun _ => ((RS r9) (r 9) ((r 42), bb, (r 111 0))).2.2))) n H := hW
  refine lv_goto (tgt := 364) hx hb dX14_does_264 (by decide) ?_
  have hW := q_rr 42 (g := ((RS r9) (r 9) ((r 42), bb, (r 111 0))).1) hW rfl
  rw [rp_d2] at hW
  have hW := q_sc 110 (x := nI ((RS r9) (r 9) ((r 42), bb, (r 111 0))).2.1) hW rfl (by decide)
  rw [rp_d2] at hW
  have hW := q_sc 111 (x := ((RS r9) (r 9) ((r 42), bb, (r 111 0))).2.2) hW rfl (by decide)
  rw [rp_d2] at hW
  exact q_vret hx hb hr hlocks hW hS ⟨(congrArg (fun z : q_KS => rO E f M (r_ks r z)) (show (RS r9 (r 9) ((r 42), bb, (r 111 0))) = (((RS r9) (r 9) ((r 42), bb, (r 111 0))).1, ((RS r9) (r 9) ((r 42), bb, (r 111 0))).2.1, ((RS r9) (r 9) ((r 42), bb, (r 111 0))).2.2) from rfl)), rfl⟩ (Nat.le_of_ble_eq_true rfl) (Nat.le_of_ble_eq_true rfl) dX14_does_364

set_option maxHeartbeats 4000000 in
set_option maxRecDepth 100000 in
theorem kX14_does_16 (l : Launch) (E : q_E) (f : q_H) (n : Nat) (M : Nat) (r : q_R) (pn bb : Nat) (BB : Nat) (Bw : q_R) (RS : Nat → q_S) (R d : Nat) (a : Nat) (d1 fr mc : Nat) (C : q_V → q_V → Bool) (m1 : Nat) (B1 : q_S) (m2 : Nat) (B2 : q_S)  (hm : RM E f M r) (hpn9 : (r 120 0) = nI pn) (hpn : pn ≤ 8) (hb9 : (r 110 0) = nI bb) (hw : (r 111 0) = -1 ∨ ¬ (r 111 0) < 0) (hB8 : bR r 8 = Bw) (hB29 : BB ≤ 2 ^ 29) (hvo : v_ok pn (r 9) (r 42)) (hRS : mRS Bw pn 400 400 80 RS R) (hd0 : 1 ≤ d) (ihB : ∀ d1 R1, d1 + 6 * R1 < d + 6 * R → MBLK l E pn Bw RS R1 d1) (hinv : k_inv1 BB ((r 42), bb, (r 111 0))) (ha : a < 80) (h3 : (r 11) a = 16) (hd1 : 1 ≤ d1) (hd2 : d1 + 1 = d) (h6 : (r 14) a = nI fr) (h7 : (r 15) a = nI (fr + mc)) (hmc : fr + mc ≤ 400) (hC : mC (bR r 8) pn 400 fr mc C) (hL1 : mL Bw (a + 1) 80 (mA Bw pn 400 400 80 RS R d1) m1 ((r 16) a) B1) (hL2 : mL Bw (a + 1) 80 (mA Bw pn 400 400 80 RS R d1) m2 ((r 17) a) B2) : Met l yX14_does wsX14_does ({ frames := 5 * (d + 6 * R) + 19, cells := 0, slots := 0, locals := 200 * (d + 6 * R) + 900 }) (q_P E [.ref M, .int (nI a)] f n) (q_Qv E (fun f1 n1 => rO E f M (r_ks r (k_if C B1 B2 (r 9) ((r 42), bb, (r 111 0)))) = f1 ∧ n = n1)) 0 0 (q_ge E) := by
  refine Met.ofW (cc := cX14_does) (maxL := 6) (ret := none) (by decide) rfl ?_
  intro p e s m args below meth c s₁ B hml hv
  obtain ⟨rfl, hA, hW⟩ := hv
  have hx := B.exec
  have hb := B.bytes
  have hr := B.returns
  have hts := atoms_spec (ws := wsX14_does) B.pre
  have hown : s.vm.findClass RX14 = some m.cls := findClass_of_methodNamed B.named
  have hlocks := B.notSynchronized
  have hS : va_S (q_ge E) s.heap s.heap [] := va_S.rf
  have iX13 : ∀ w ∈ wsX130, w ∈ wsX14_does := by decide +kernel
  have iX14 : ∀ w ∈ wsX140, w ∈ wsX14_does := by decide +kernel
  have hl := lv_entry ([.ref M, .int (nI a)]) (n := 6) (Nat.le_of_ble_eq_true rfl)
  rw [lg_entry_eq]
  generalize (lg_sl ([.ref M, .int (nI a)]) ++ List.replicate (6 - (lg_sl ([.ref M, .int (nI a)])).length) Slot.unset).toArray = ls at hl ⊢
  have hl : lv_has ls 6 [(0, .ref M), (1, .int (nI a))] := hl
  have hmE := hm.eq
  rw [hm.eq] at hW
  have hok : k_ok (r 42) := hinv.le.ok hB29
  refine lv_aload_n hx hb dX14_does_0 rfl (lv_at hl 0 rfl) ?_
  refine q_get hx hb hts hown hA hW iX14 rO_0 rfl 17 (by decide) (hts (.fieldLink RX14 38 "HighRecipesModel" "told" "LHighRecipesModel$Book;") (by decide +kernel)) (fun _ h9 => h9) (v := .ref (M + 8)) rfl dX14_does_1 ?_
  refine q_getN hx hb hts hown hA hW iX13 rO_8 rfl 6 (by decide) (va_Nw.use rfl (hA.2.2.2.1 ("HighRecipesModel", 250, "HighRecipesModel$Book", "whom", "[I", "HighRecipesModel") (by decide +kernel))) (fun _ h9 => h9) (v := .ref (M + 12)) rfl dX14_does_4 ?_
  refine lv_iload_n hx hb dX14_does_7 rfl (lv_at hl 1 rfl) ?_
  refine q_ald hx hb hA hW (rO_12 (g := r 12) rfl) a rfl (by omega) (by decide) (x := (r 12) a) rfl dX14_does_8 ?_
  refine lv_istore_n (lv' := [(2, .int ((r 12) a)), (0, .ref M), (1, .int (nI a))]) hx hb dX14_does_9 rfl hl (by decide) rfl (fun ls hl => ?_)
  refine lv_aload_n hx hb dX14_does_10 rfl (lv_at hl 1 rfl) ?_
  refine q_get hx hb hts hown hA hW iX14 rO_0 rfl 17 (by decide) (hts (.fieldLink RX14 38 "HighRecipesModel" "told" "LHighRecipesModel$Book;") (by decide +kernel)) (fun _ h9 => h9) (v := .ref (M + 8)) rfl dX14_does_11 ?_
  refine q_getN hx hb hts hown hA hW iX13 rO_8 rfl 5 (by decide) (va_Nw.use rfl (hA.2.2.2.1 ("HighRecipesModel", 218, "HighRecipesModel$Book", "does", "[I", "HighRecipesModel") (by decide +kernel))) (fun _ h9 => h9) (v := .ref (M + 11)) rfl dX14_does_14 ?_
  refine lv_iload_n hx hb dX14_does_17 rfl (lv_at hl 2 rfl) ?_
  refine q_ald hx hb hA hW (rO_11 (g := r 11) rfl) a rfl (by omega) (by decide) (x := 16) h3 dX14_does_18 ?_
  refine lv_tableOut (x := 16) (tgt := 331) hx hb dX14_does_19 (by decide) (by decide) ?_
  refine lv_aload_n hx hb dX14_does_331 rfl (lv_at hl 1 rfl) ?_
  refine lv_aload_n hx hb dX14_does_332 rfl (lv_at hl 1 rfl) ?_
  refine lv_iload_n hx hb dX14_does_333 rfl (lv_at hl 2 rfl) ?_
  refine q_ci (va_runV (As := [.int (nI a)]) (rest := [.ref M]) ⟨hx, hb, hml, hown, hts⟩ (kX14_areSo l E (rO E f M r) n M r pn a fr mc C rO_K (by assumption) (by omega) (by assumption) (by assumption) (by assumption) (by assumption)) (cwV 1 hts gX14_does_X14_areSo rfl rfl rfl (by decide +kernel) ⟨(by show 17 + 1 ≤ 5 * (d + 6 * R) + 19; omega), (by show 8 + (3 + 11) + 545 ≤ 200 * (d + 6 * R) + 900; omega)⟩) (q_pV hA hW hS (ci := 12) rfl rO_0) rfl rfl hl.1 rfl (lv_room (Nat.le_of_ble_eq_true rfl)) dX14_does_334 ⟨Nat.le_of_ble_eq_true rfl, Nat.le_of_ble_eq_true rfl⟩) hS (fun r_334 f_334 n_334 H locs hp hW hS => ?_)
  obtain ⟨rfl, rfl, rfl⟩ := hp
  have hW : q_W E (rO E f M r) n H := hW
  refine lv_if_eq (tgt := 352) hx hb dX14_does_337 (by decide) (fun c_337 => ?_) (fun c_337 => ?_)
  · have eC : ¬ C (r 9) (r 42) = true := by rw [b01_0 c_337]; decide
    refine lv_aload_n hx hb dX14_does_352 rfl (lv_at hl 1 rfl) ?_
    refine q_get hx hb hts hown hA hW iX14 rO_0 rfl 17 (by decide) (hts (.fieldLink RX14 38 "HighRecipesModel" "told" "LHighRecipesModel$Book;") (by decide +kernel)) (fun _ h9 => h9) (v := .ref (M + 8)) rfl dX14_does_353 ?_
    refine q_getN hx hb hts hown hA hW iX13 rO_8 rfl 11 (by decide) (va_Nw.use rfl (hA.2.2.2.1 ("HighRecipesModel", 224, "HighRecipesModel$Book", "other", "[I", "HighRecipesModel") (by decide +kernel))) (fun _ h9 => h9) (v := .ref (M + 17)) rfl dX14_does_356 ?_
    refine lv_iload_n hx hb dX14_does_359 rfl (lv_at hl 2 rfl) ?_
    refine q_ald hx hb hA hW (rO_17 (g := r 17) rfl) a rfl (by omega) (by decide) (x := (r 17) a) rfl dX14_does_360 ?_
    refine q_cv (va_runV (As := [.int ((r 17) a)]) (rest := []) ⟨hx, hb, hml, hown, hts⟩ (ihB d1 R (by omega) (rO E f M r) n M r bb BB (a + 1) m2 (r 17 a) B2 rO_K hB8 hpn9 hpn hb9 hw hB29 hinv.le hvo hRS hL2 hd1) (cwV 1 hts gX14_does_X14_doBlock rfl rfl rfl (by decide +kernel) ⟨(by show (5 * (d1 + 6 * R) + 20) + 1 ≤ 5 * (d + 6 * R) + 19; omega), (by show 8 + (3 + 11) + (200 * (d1 + 6 * R) + 1000) ≤ 200 * (d + 6 * R) + 900; omega)⟩) (q_pV hA hW hS (ci := 12) rfl rO_0) rfl rfl hl.1 rfl (lv_room (Nat.le_of_ble_eq_true rfl)) dX14_does_361 ⟨Nat.le_of_ble_eq_true rfl, Nat.le_of_ble_eq_true rfl⟩) hS (fun f_361 n_361 H locs hp hW hS => ?_)
    obtain ⟨rfl, rfl⟩ := hp
    have hW : q_W E (rO E f M (rp (rp (rp r 42 ((B2 (r 9) ((r 42), bb, (r 111 0))).1)) 110 (fun _ => nI (B2 (r 9) ((r 42), bb, (r 111 0))).2.1)) 111 (fun _ => (B2 (r 9) ((r 42), bb, (r 111 0))).2.2))) n H := by rw [rO_rO] at hW; exact hW
    have hW : q_W E (rO E f M (rp (rp (rp r 42 ((B2 (r 9) ((r 42), bb, (r 111 0))).1)) 110 (fun _ => nI (B2 (r 9) ((r 42), bb, (r 111 0))).2.1)) 111 (fun _ => (B2 (r 9) ((r 42), bb, (r 111 0))).2.2))) n H := hW
    have hW := q_rr 42 (g := (B2 (r 9) ((r 42), bb, (r 111 0))).1) hW rfl
    rw [rp_d2] at hW
    have hW := q_sc 110 (x := nI (B2 (r 9) ((r 42), bb, (r 111 0))).2.1) hW rfl (by decide)
    rw [rp_d2] at hW
    have hW := q_sc 111 (x := (B2 (r 9) ((r 42), bb, (r 111 0))).2.2) hW rfl (by decide)
    rw [rp_d2] at hW
    exact q_vret hx hb hr hlocks hW hS ⟨(congrArg (fun z : q_KS => rO E f M (r_ks r z)) (show (k_if C B1 B2 (r 9) ((r 42), bb, (r 111 0))) = ((B2 (r 9) ((r 42), bb, (r 111 0))).1, (B2 (r 9) ((r 42), bb, (r 111 0))).2.1, (B2 (r 9) ((r 42), bb, (r 111 0))).2.2) from (by show k_if C B1 B2 (r 9) (r 42, bb, r 111 0) = _; unfold k_if; rw [if_neg eC]))), rfl⟩ (Nat.le_of_ble_eq_true rfl) (Nat.le_of_ble_eq_true rfl) dX14_does_364
  · have eC := b01_1 c_337
    refine lv_aload_n hx hb dX14_does_340 rfl (lv_at hl 1 rfl) ?_
    refine q_get hx hb hts hown hA hW iX14 rO_0 rfl 17 (by decide) (hts (.fieldLink RX14 38 "HighRecipesModel" "told" "LHighRecipesModel$Book;") (by decide +kernel)) (fun _ h9 => h9) (v := .ref (M + 8)) rfl dX14_does_341 ?_
    refine q_getN hx hb hts hown hA hW iX13 rO_8 rfl 10 (by decide) (va_Nw.use rfl (hA.2.2.2.1 ("HighRecipesModel", 221, "HighRecipesModel$Book", "block", "[I", "HighRecipesModel") (by decide +kernel))) (fun _ h9 => h9) (v := .ref (M + 16)) rfl dX14_does_344 ?_
    refine lv_iload_n hx hb dX14_does_347 rfl (lv_at hl 2 rfl) ?_
    refine q_ald hx hb hA hW (rO_16 (g := r 16) rfl) a rfl (by omega) (by decide) (x := (r 16) a) rfl dX14_does_348 ?_
    refine lv_goto (tgt := 361) hx hb dX14_does_349 (by decide) ?_
    refine q_cv (va_runV (As := [.int ((r 16) a)]) (rest := []) ⟨hx, hb, hml, hown, hts⟩ (ihB d1 R (by omega) (rO E f M r) n M r bb BB (a + 1) m1 (r 16 a) B1 rO_K hB8 hpn9 hpn hb9 hw hB29 hinv.le hvo hRS hL1 hd1) (cwV 1 hts gX14_does_X14_doBlock rfl rfl rfl (by decide +kernel) ⟨(by show (5 * (d1 + 6 * R) + 20) + 1 ≤ 5 * (d + 6 * R) + 19; omega), (by show 8 + (3 + 11) + (200 * (d1 + 6 * R) + 1000) ≤ 200 * (d + 6 * R) + 900; omega)⟩) (q_pV hA hW hS (ci := 12) rfl rO_0) rfl rfl hl.1 rfl (lv_room (Nat.le_of_ble_eq_true rfl)) dX14_does_361 ⟨Nat.le_of_ble_eq_true rfl, Nat.le_of_ble_eq_true rfl⟩) hS (fun f_361 n_361 H locs hp hW hS => ?_)
    obtain ⟨rfl, rfl⟩ := hp
    have hW : q_W E (rO E f M (rp (rp (rp r 42 ((B1 (r 9) ((r 42), bb, (r 111 0))).1)) 110 (fun _ => nI (B1 (r 9) ((r 42), bb, (r 111 0))).2.1)) 111 (fun _ => (B1 (r 9) ((r 42), bb, (r 111 0))).2.2))) n H := by rw [rO_rO] at hW; exact hW
    have hW : q_W E (rO E f M (rp (rp (rp r 42 ((B1 (r 9) ((r 42), bb, (r 111 0))).1)) 110 (fun _ => nI (B1 (r 9) ((r 42), bb, (r 111 0))).2.1)) 111 (fun _ => (B1 (r 9) ((r 42), bb, (r 111 0))).2.2))) n H := hW
    have hW := q_rr 42 (g := (B1 (r 9) ((r 42), bb, (r 111 0))).1) hW rfl
    rw [rp_d2] at hW
    have hW := q_sc 110 (x := nI (B1 (r 9) ((r 42), bb, (r 111 0))).2.1) hW rfl (by decide)
    rw [rp_d2] at hW
    have hW := q_sc 111 (x := (B1 (r 9) ((r 42), bb, (r 111 0))).2.2) hW rfl (by decide)
    rw [rp_d2] at hW
    exact q_vret hx hb hr hlocks hW hS ⟨(congrArg (fun z : q_KS => rO E f M (r_ks r z)) (show (k_if C B1 B2 (r 9) ((r 42), bb, (r 111 0))) = ((B1 (r 9) ((r 42), bb, (r 111 0))).1, (B1 (r 9) ((r 42), bb, (r 111 0))).2.1, (B1 (r 9) ((r 42), bb, (r 111 0))).2.2) from (by show k_if C B1 B2 (r 9) (r 42, bb, r 111 0) = _; unfold k_if; rw [if_pos eC]))), rfl⟩ (Nat.le_of_ble_eq_true rfl) (Nat.le_of_ble_eq_true rfl) dX14_does_364

set_option maxHeartbeats 4000000 in
set_option maxRecDepth 100000 in
theorem kX14_does_15 (l : Launch) (E : q_E) (f : q_H) (n : Nat) (M : Nat) (r : q_R) (pn bb : Nat) (BB : Nat) (Bw : q_R) (RS : Nat → q_S) (R d : Nat) (a : Nat) (d1 x : Nat) (D : q_D) (m9 : Nat) (Bk : q_S)  (hm : RM E f M r) (hpn9 : (r 120 0) = nI pn) (hpn : pn ≤ 8) (hb9 : (r 110 0) = nI bb) (hw : (r 111 0) = -1 ∨ ¬ (r 111 0) < 0) (hB8 : bR r 8 = Bw) (hB29 : BB ≤ 2 ^ 29) (hvo : v_ok pn (r 9) (r 42)) (hRS : mRS Bw pn 400 400 80 RS R) (hd0 : 1 ≤ d) (ihB : ∀ d1 R1, d1 + 6 * R1 < d + 6 * R → MBLK l E pn Bw RS R1 d1) (hinv : k_inv1 BB ((r 42), bb, (r 111 0))) (ha : a < 80) (h3 : (r 11) a = 15) (hd1 : 1 ≤ d1) (hd2 : d1 + 1 = d) (h5 : (r 13) a = nI x) (hV : mV (bR r 8) pn 400 5 x D) (hL : mL Bw (a + 1) 80 (mA Bw pn 400 400 80 RS R d1) m9 ((r 16) a) Bk) : Met l yX14_does wsX14_does ({ frames := 5 * (d + 6 * R) + 19, cells := 0, slots := 0, locals := 200 * (d + 6 * R) + 900 }) (q_P E [.ref M, .int (nI a)] f n) (q_Qv E (fun f1 n1 => rO E f M (r_ks r (k_again D Bk (r 9) ((r 42), bb, (r 111 0)))) = f1 ∧ n = n1)) 0 0 (q_ge E) := by
  refine Met.ofW (cc := cX14_does) (maxL := 6) (ret := none) (by decide) rfl ?_
  intro p e s m args below meth c s₁ B hml hv
  obtain ⟨rfl, hA, hW⟩ := hv
  have hx := B.exec
  have hb := B.bytes
  have hr := B.returns
  have hts := atoms_spec (ws := wsX14_does) B.pre
  have hown : s.vm.findClass RX14 = some m.cls := findClass_of_methodNamed B.named
  have hlocks := B.notSynchronized
  have hS : va_S (q_ge E) s.heap s.heap [] := va_S.rf
  have iX13 : ∀ w ∈ wsX130, w ∈ wsX14_does := by decide +kernel
  have iX14 : ∀ w ∈ wsX140, w ∈ wsX14_does := by decide +kernel
  have hl := lv_entry ([.ref M, .int (nI a)]) (n := 6) (Nat.le_of_ble_eq_true rfl)
  rw [lg_entry_eq]
  generalize (lg_sl ([.ref M, .int (nI a)]) ++ List.replicate (6 - (lg_sl ([.ref M, .int (nI a)])).length) Slot.unset).toArray = ls at hl ⊢
  have hl : lv_has ls 6 [(0, .ref M), (1, .int (nI a))] := hl
  have hmE := hm.eq
  rw [hm.eq] at hW
  have hok : k_ok (r 42) := hinv.le.ok hB29
  obtain ⟨hsb, hwb⟩ := w_list hRS hL
  refine lv_aload_n hx hb dX14_does_0 rfl (lv_at hl 0 rfl) ?_
  refine q_get hx hb hts hown hA hW iX14 rO_0 rfl 17 (by decide) (hts (.fieldLink RX14 38 "HighRecipesModel" "told" "LHighRecipesModel$Book;") (by decide +kernel)) (fun _ h9 => h9) (v := .ref (M + 8)) rfl dX14_does_1 ?_
  refine q_getN hx hb hts hown hA hW iX13 rO_8 rfl 6 (by decide) (va_Nw.use rfl (hA.2.2.2.1 ("HighRecipesModel", 250, "HighRecipesModel$Book", "whom", "[I", "HighRecipesModel") (by decide +kernel))) (fun _ h9 => h9) (v := .ref (M + 12)) rfl dX14_does_4 ?_
  refine lv_iload_n hx hb dX14_does_7 rfl (lv_at hl 1 rfl) ?_
  refine q_ald hx hb hA hW (rO_12 (g := r 12) rfl) a rfl (by omega) (by decide) (x := (r 12) a) rfl dX14_does_8 ?_
  refine lv_istore_n (lv' := [(2, .int ((r 12) a)), (0, .ref M), (1, .int (nI a))]) hx hb dX14_does_9 rfl hl (by decide) rfl (fun ls hl => ?_)
  refine lv_aload_n hx hb dX14_does_10 rfl (lv_at hl 1 rfl) ?_
  refine q_get hx hb hts hown hA hW iX14 rO_0 rfl 17 (by decide) (hts (.fieldLink RX14 38 "HighRecipesModel" "told" "LHighRecipesModel$Book;") (by decide +kernel)) (fun _ h9 => h9) (v := .ref (M + 8)) rfl dX14_does_11 ?_
  refine q_getN hx hb hts hown hA hW iX13 rO_8 rfl 5 (by decide) (va_Nw.use rfl (hA.2.2.2.1 ("HighRecipesModel", 218, "HighRecipesModel$Book", "does", "[I", "HighRecipesModel") (by decide +kernel))) (fun _ h9 => h9) (v := .ref (M + 11)) rfl dX14_does_14 ?_
  refine lv_iload_n hx hb dX14_does_17 rfl (lv_at hl 2 rfl) ?_
  refine q_ald hx hb hA hW (rO_11 (g := r 11) rfl) a rfl (by omega) (by decide) (x := 15) h3 dX14_does_18 ?_
  refine lv_tableIn (x := 15) (off := 248) (tgt := 267) hx hb dX14_does_19 (by decide) (by decide) (by decide) (by decide) ?_
  refine lv_aload_n hx hb dX14_does_267 rfl (lv_at hl 1 rfl) ?_
  refine lv_aload_n hx hb dX14_does_268 rfl (lv_at hl 1 rfl) ?_
  refine q_get hx hb hts hown hA hW iX14 rO_0 rfl 17 (by decide) (hts (.fieldLink RX14 38 "HighRecipesModel" "told" "LHighRecipesModel$Book;") (by decide +kernel)) (fun _ h9 => h9) (v := .ref (M + 8)) rfl dX14_does_269 ?_
  refine q_getN hx hb hts hown hA hW iX13 rO_8 rfl 7 (by decide) (va_Nw.use rfl (hA.2.2.2.1 ("HighRecipesModel", 239, "HighRecipesModel$Book", "value", "[I", "HighRecipesModel") (by decide +kernel))) (fun _ h9 => h9) (v := .ref (M + 13)) rfl dX14_does_272 ?_
  refine lv_iload_n hx hb dX14_does_275 rfl (lv_at hl 2 rfl) ?_
  refine q_ald hx hb hA hW (rO_13 (g := r 13) rfl) a rfl (by omega) (by decide) (x := nI x) h5 dX14_does_276 ?_
  refine q_ci (va_runV (As := [.int (nI x)]) (rest := []) ⟨hx, hb, hml, hown, hts⟩ (kX14_reckon l E n M r pn hpn 5 x D (rO E f M r) rO_K hV) (cwV 1 hts gX14_does_X14_reckon rfl rfl rfl (by decide +kernel) ⟨(by show 15 + 1 ≤ 5 * (d + 6 * R) + 19; omega), (by show 8 + (3 + 11) + 500 ≤ 200 * (d + 6 * R) + 900; omega)⟩) (q_pV hA hW hS (ci := 12) rfl rO_0) rfl rfl hl.1 rfl (lv_room (Nat.le_of_ble_eq_true rfl)) dX14_does_277 ⟨Nat.le_of_ble_eq_true rfl, Nat.le_of_ble_eq_true rfl⟩) hS (fun r_277 f_277 n_277 H locs hp hW hS => ?_)
  obtain ⟨rfl, rfl, rfl⟩ := hp
  have hW : q_W E (rO E f M r) n H := hW
  refine lv_istore_n (lv' := [(3, .int (D (r 9) (r 42))), (2, .int ((r 12) a)), (0, .ref M), (1, .int (nI a))]) hx hb dX14_does_280 rfl hl (by decide) rfl (fun ls hl => ?_)
  refine lv_aload_n hx hb dX14_does_281 rfl (lv_at hl 2 rfl) ?_
  refine q_get hx hb hts hown hA hW iX14 rO_0 rfl 17 (by decide) (hts (.fieldLink RX14 38 "HighRecipesModel" "told" "LHighRecipesModel$Book;") (by decide +kernel)) (fun _ h9 => h9) (v := .ref (M + 8)) rfl dX14_does_282 ?_
  refine q_getN hx hb hts hown hA hW iX13 rO_8 rfl 10 (by decide) (va_Nw.use rfl (hA.2.2.2.1 ("HighRecipesModel", 221, "HighRecipesModel$Book", "block", "[I", "HighRecipesModel") (by decide +kernel))) (fun _ h9 => h9) (v := .ref (M + 16)) rfl dX14_does_285 ?_
  refine lv_iload_n hx hb dX14_does_288 rfl (lv_at hl 3 rfl) ?_
  refine q_ald hx hb hA hW (rO_16 (g := r 16) rfl) a rfl (by omega) (by decide) (x := (r 16) a) rfl dX14_does_289 ?_
  refine lv_istore (lv' := [(4, .int ((r 16) a)), (3, .int (D (r 9) (r 42))), (2, .int ((r 12) a)), (0, .ref M), (1, .int (nI a))]) hx hb dX14_does_290 hl (by decide) rfl (fun ls hl => ?_)
  refine lv_iconst (v := 0) hx hb dX14_does_292 (by decide) ?_
  refine lv_istore (lv' := [(5, .int 0), (4, .int ((r 16) a)), (3, .int (D (r 9) (r 42))), (2, .int ((r 12) a)), (0, .ref M), (1, .int (nI a))]) hx hb dX14_does_293 hl (by decide) rfl (fun ls hl => ?_)
  have K295 : ∀ (fu : Nat) (j : Nat) (hj1 : j ≤ (D (r 9) (r 42)).toNatClampNeg) (hj2 : j ≤ (k_iter (Bk (r 9)) j (r 42, bb, r 111 0)).2.1) (hj3 : k_inv BB (k_iter (Bk (r 9)) j (r 42, bb, r 111 0))) (hj4 : j ≤ 100) (hj5 : v_ok pn (r 9) (k_iter (Bk (r 9)) j (r 42, bb, r 111 0)).1) (hj6 : k_w (k_iter (Bk (r 9)) j (r 42, bb, r 111 0))) (hm : 101 - j < fu) (H : Heap) (locs : List Loc) (ls : Array Slot), q_W E (rO E f M (rp (rp (rp r 42 ((k_iter (Bk (r 9)) j (r 42, bb, r 111 0)).1)) 110 (fun _ => nI (k_iter (Bk (r 9)) j (r 42, bb, r 111 0)).2.1)) 111 (fun _ => (k_iter (Bk (r 9)) j (r 42, bb, r 111 0)).2.2))) n H → va_S (q_ge E) s.heap H locs → lv_has ls 6 [(0, .ref M), (1, .int (nI a)), (3, .int (D (r 9) (r 42))), (4, .int (r 16 a)), (5, .int (nI j))] → W p l e (headSpec wsX14_does ({ frames := 5 * (d + 6 * R) + 19, cells := 0, slots := 0, locals := 200 * (d + 6 * R) + 900 })).room s m ([.ref M, .int (nI a)] : List Value).toArray below meth c H locs 0 0 (MQ below (q_Qv E (fun f1 n1 => rO E f M (r_ks r (k_again D Bk (r 9) ((r 42), bb, (r 111 0)))) = f1 ∧ n = n1)) ([.ref M, .int (nI a)] : List Value).toArray s 0 0 (q_ge E)) (F0 m 295 ls []) := by
    intro fu
    induction fu with
    | zero =>
      intro j hj1 hj2 hj3 hj4 hj5 hj6 hm
      exact absurd hm (Nat.not_lt_zero _)
    | succ fu ih =>
      intro j hj1 hj2 hj3 hj4 hj5 hj6 hm H locs ls hW hS hl
      refine lv_iload hx hb dX14_does_295 (lv_at hl 4 rfl) ?_
      refine lv_iload_n hx hb dX14_does_297 rfl (lv_at hl 2 rfl) ?_
      refine lv_icmp_ge (tgt := 328) hx hb dX14_does_298 (by decide) (fun c_298 => ?_) (fun c_298 => ?_)
      · refine lv_goto (tgt := 364) hx hb dX14_does_328 (by decide) ?_
        have hW := q_rr 42 (g := (k_iter (Bk (r 9)) j (r 42, bb, r 111 0)).1) hW rfl
        rw [rp_d2] at hW
        have hW := q_sc 110 (x := nI (k_iter (Bk (r 9)) j (r 42, bb, r 111 0)).2.1) hW rfl (by decide)
        rw [rp_d2] at hW
        have hW := q_sc 111 (x := (k_iter (Bk (r 9)) j (r 42, bb, r 111 0)).2.2) hW rfl (by decide)
        rw [rp_d2] at hW
        exact q_vret hx hb hr hlocks hW hS ⟨(congrArg (fun z : q_KS => rO E f M (r_ks r z)) (show (k_again D Bk (r 9) ((r 42), bb, (r 111 0))) = ((k_iter (Bk (r 9)) j (r 42, bb, r 111 0)).1, (k_iter (Bk (r 9)) j (r 42, bb, r 111 0)).2.1, (k_iter (Bk (r 9)) j (r 42, bb, r 111 0)).2.2) from (by show k_iter _ _ _ = _; rw [again_T c_298 hj1 hj4]))), rfl⟩ (Nat.le_of_ble_eq_true rfl) (Nat.le_of_ble_eq_true rfl) dX14_does_364
      · have hJ := again_F c_298 hj4
        refine lv_iload hx hb dX14_does_301 (lv_at hl 3 rfl) ?_
        refine lv_iconst (v := (-1)) hx hb dX14_does_303 (by decide) ?_
        refine lv_icmp_eq (tgt := 328) hx hb dX14_does_304 (by decide) (fun c_304 => ?_) (fun c_304 => ?_)
        · refine lv_goto (tgt := 364) hx hb dX14_does_328 (by decide) ?_
          have hW := q_rr 42 (g := (k_iter (Bk (r 9)) j (r 42, bb, r 111 0)).1) hW rfl
          rw [rp_d2] at hW
          have hW := q_sc 110 (x := nI (k_iter (Bk (r 9)) j (r 42, bb, r 111 0)).2.1) hW rfl (by decide)
          rw [rp_d2] at hW
          have hW := q_sc 111 (x := (k_iter (Bk (r 9)) j (r 42, bb, r 111 0)).2.2) hW rfl (by decide)
          rw [rp_d2] at hW
          exact q_vret hx hb hr hlocks hW hS ⟨(congrArg (fun z : q_KS => rO E f M (r_ks r z)) (show (k_again D Bk (r 9) ((r 42), bb, (r 111 0))) = ((k_iter (Bk (r 9)) j (r 42, bb, r 111 0)).1, (k_iter (Bk (r 9)) j (r 42, bb, r 111 0)).2.1, (k_iter (Bk (r 9)) j (r 42, bb, r 111 0)).2.2) from (by show k_iter _ _ _ = _; rw [mL_nil hL c_304 (by decide), k_iter_nil, k_iter_nil]))), rfl⟩ (Nat.le_of_ble_eq_true rfl) (Nat.le_of_ble_eq_true rfl) dX14_does_364
        · refine lv_aload_n hx hb dX14_does_307 rfl (lv_at hl 0 rfl) ?_
          refine q_get hx hb hts hown hA hW iX14 rO_0 rfl 21 (by decide) (hts (.fieldLink RX14 306 "HighRecipesModel" "begun" "I") (by decide +kernel)) (fun _ h9 => h9) (v := .int (nI (k_iter (Bk (r 9)) j (r 42, bb, r 111 0)).2.1)) rfl dX14_does_308 ?_
          refine lv_bipush (v := 100) hx hb dX14_does_311 (by decide) ?_
          refine lv_icmp_ge (tgt := 328) hx hb dX14_does_313 (by decide) (fun c_313 => ?_) (fun c_313 => ?_)
          · refine lv_goto (tgt := 364) hx hb dX14_does_328 (by decide) ?_
            have hW := q_rr 42 (g := (k_iter (Bk (r 9)) j (r 42, bb, r 111 0)).1) hW rfl
            rw [rp_d2] at hW
            have hW := q_sc 110 (x := nI (k_iter (Bk (r 9)) j (r 42, bb, r 111 0)).2.1) hW rfl (by decide)
            rw [rp_d2] at hW
            have hW := q_sc 111 (x := (k_iter (Bk (r 9)) j (r 42, bb, r 111 0)).2.2) hW rfl (by decide)
            rw [rp_d2] at hW
            exact q_vret hx hb hr hlocks hW hS ⟨(congrArg (fun z : q_KS => rO E f M (r_ks r z)) (show (k_again D Bk (r 9) ((r 42), bb, (r 111 0))) = ((k_iter (Bk (r 9)) j (r 42, bb, r 111 0)).1, (k_iter (Bk (r 9)) j (r 42, bb, r 111 0)).2.1, (k_iter (Bk (r 9)) j (r 42, bb, r 111 0)).2.2) from (by have h9 := (again_F c_298 hj4).2; have h8 : 100 ≤ (k_iter (Bk (r 9)) j (r 42, bb, r 111 0)).2.1 := (nI_leI (by decide) (by have := hj3.1; omega)).1 c_313; show k_iter (Bk (r 9)) (q_min (D (r 9) (r 42)) 100).toNatClampNeg (r 42, bb, r 111 0) = _; rw [show (q_min (D (r 9) (r 42)) 100).toNatClampNeg = j + ((q_min (D (r 9) (r 42)) 100).toNatClampNeg - j) by omega, k_iter_add, k_iter_stop hsb _ _ h8]))), rfl⟩ (Nat.le_of_ble_eq_true rfl) (Nat.le_of_ble_eq_true rfl) dX14_does_364
          · have hlt : (k_iter (Bk (r 9)) j (r 42, bb, r 111 0)).2.1 < 100 := by rcases Nat.lt_or_ge (k_iter (Bk (r 9)) j (r 42, bb, r 111 0)).2.1 100 with h9 | h9; exact h9; exact absurd (show nI 100 ≤ nI (k_iter (Bk (r 9)) j (r 42, bb, r 111 0)).2.1 from nI_le h9 (by have := hj3.1; omega)) c_313
            refine lv_aload_n hx hb dX14_does_316 rfl (lv_at hl 0 rfl) ?_
            refine lv_iload hx hb dX14_does_317 (lv_at hl 3 rfl) ?_
            refine q_cv (va_runV (As := [.int (r 16 a)]) (rest := []) ⟨hx, hb, hml, hown, hts⟩ (ihB d1 R (by omega) (rO E f M (rp (rp (rp r 42 ((k_iter (Bk (r 9)) j (r 42, bb, r 111 0)).1)) 110 (fun _ => nI (k_iter (Bk (r 9)) j (r 42, bb, r 111 0)).2.1)) 111 (fun _ => (k_iter (Bk (r 9)) j (r 42, bb, r 111 0)).2.2))) n M (rp (rp (rp r 42 ((k_iter (Bk (r 9)) j (r 42, bb, r 111 0)).1)) 110 (fun _ => nI (k_iter (Bk (r 9)) j (r 42, bb, r 111 0)).2.1)) 111 (fun _ => (k_iter (Bk (r 9)) j (r 42, bb, r 111 0)).2.2)) ((k_iter (Bk (r 9)) j (r 42, bb, r 111 0)).2.1) BB (a + 1) m9 (r 16 a) Bk rO_K (by rw [bR8 (by decide), bR8 (by decide), bR8 (by decide)]; exact hB8) hpn9 hpn rfl hj6 hB29 hj3 hj5 hRS hL hd1) (cwV 1 hts gX14_does_X14_doBlock rfl rfl rfl (by decide +kernel) ⟨(by show (5 * (d1 + 6 * R) + 20) + 1 ≤ 5 * (d + 6 * R) + 19; omega), (by show 8 + (3 + 11) + (200 * (d1 + 6 * R) + 1000) ≤ 200 * (d + 6 * R) + 900; omega)⟩) (q_pV hA hW hS (ci := 12) rfl rO_0) rfl rfl hl.1 rfl (lv_room (Nat.le_of_ble_eq_true rfl)) dX14_does_319 ⟨Nat.le_of_ble_eq_true rfl, Nat.le_of_ble_eq_true rfl⟩) hS (fun f_319 n_319 H locs hp hW hS => ?_)
            obtain ⟨rfl, rfl⟩ := hp
            have hW : q_W E (rO E f M (rp (rp (rp (rp (rp (rp r 42 ((k_iter (Bk (r 9)) j (r 42, bb, r 111 0)).1)) 110 (fun _ => nI (k_iter (Bk (r 9)) j (r 42, bb, r 111 0)).2.1)) 111 (fun _ => (k_iter (Bk (r 9)) j (r 42, bb, r 111 0)).2.2)) 42 ((Bk (r 9) (((k_iter (Bk (r 9)) j (r 42, bb, r 111 0)).1), (k_iter (Bk (r 9)) j (r 42, bb, r 111 0)).2.1, ((k_iter (Bk (r 9)) j (r 42, bb, r 111 0)).2.2))).1)) 110 (fun _ => nI (Bk (r 9) (((k_iter (Bk (r 9)) j (r 42, bb, r 111 0)).1), (k_iter (Bk (r 9)) j (r 42, bb, r 111 0)).2.1, ((k_iter (Bk (r 9)) j (r 42, bb, r 111 0)).2.2))).2.1)) 111 (fun _ => (Bk (r 9) (((k_iter (Bk (r 9)) j (r 42, bb, r 111 0)).1), (k_iter (Bk (r 9)) j (r 42, bb, r 111 0)).2.1, ((k_iter (Bk (r 9)) j (r 42, bb, r 111 0)).2.2))).2.2))) n H := by rw [rO_rO] at hW; exact hW
            rw [rp_d2] at hW
            rw [rp_d1] at hW
            rw [rp_d0] at hW
            have hW : q_W E (rO E f M (rp (rp (rp r 42 ((Bk (r 9) (((k_iter (Bk (r 9)) j (r 42, bb, r 111 0)).1), (k_iter (Bk (r 9)) j (r 42, bb, r 111 0)).2.1, ((k_iter (Bk (r 9)) j (r 42, bb, r 111 0)).2.2))).1)) 110 (fun _ => nI (Bk (r 9) (((k_iter (Bk (r 9)) j (r 42, bb, r 111 0)).1), (k_iter (Bk (r 9)) j (r 42, bb, r 111 0)).2.1, ((k_iter (Bk (r 9)) j (r 42, bb, r 111 0)).2.2))).2.1)) 111 (fun _ => (Bk (r 9) (((k_iter (Bk (r 9)) j (r 42, bb, r 111 0)).1), (k_iter (Bk (r 9)) j (r 42, bb, r 111 0)).2.1, ((k_iter (Bk (r 9)) j (r 42, bb, r 111 0)).2.2))).2.2))) n H := hW
            refine lv_iinc (v := nI (j + 1)) (lv' := [(5, .int (nI (j + 1))), (0, .ref M), (1, .int (nI a)), (3, .int (D (r 9) (r 42))), (4, .int (r 16 a))]) hx hb dX14_does_322 hl (k := 4) rfl (nI_1 j) (by decide) rfl (fun ls hl => ?_)
            refine lv_goto (tgt := 295) hx hb dX14_does_325 (by decide) ?_
            have hinc : (k_iter (Bk (r 9)) j (r 42, bb, r 111 0)).2.1 + 1 ≤ (Bk (r 9) (k_iter (Bk (r 9)) j (r 42, bb, r 111 0))).2.1 := mL_inc hL c_304 (fun a S h => (w_one hRS h).1) hlt (fun m o S h => (w_list hRS h).1)
            have hs1 : k_iter (Bk (r 9)) (j + 1) (r 42, bb, r 111 0) = Bk (r 9) (k_iter (Bk (r 9)) j (r 42, bb, r 111 0)) := k_iter_s j _
            have hn3 : k_inv BB (k_iter (Bk (r 9)) (j + 1) (r 42, bb, r 111 0)) := by rw [hs1]; exact hsb.2.1 BB (r 9) _ hB29 hj3
            have hn2 : j + 1 ≤ (k_iter (Bk (r 9)) (j + 1) (r 42, bb, r 111 0)).2.1 := by rw [hs1]; omega
            have hn4 : j + 1 ≤ 100 := Nat.le_trans hn2 hn3.1
            have hn5 : v_ok pn (r 9) (k_iter (Bk (r 9)) (j + 1) (r 42, bb, r 111 0)).1 := by rw [hs1]; exact hsb.1 (r 9) _ hj5
            have hn6 : k_w (k_iter (Bk (r 9)) (j + 1) (r 42, bb, r 111 0)) := by rw [hs1]; exact hwb BB (r 9) _ hB29 hj3 hj6
            rw [show (Bk (r 9) ((k_iter (Bk (r 9)) j (r 42, bb, r 111 0)).1, (k_iter (Bk (r 9)) j (r 42, bb, r 111 0)).2.1, (k_iter (Bk (r 9)) j (r 42, bb, r 111 0)).2.2)) = k_iter (Bk (r 9)) (j + 1) (r 42, bb, r 111 0) from hs1.symm] at hW
            exact ih (j + 1) hJ.1 hn2 hn3 hn4 hn5 hn6 (by omega) _ _ _ hW hS (lv_sub hl [1, 2, 3, 4, 0] rfl)
  rw [show rO E f M r = rO E f M r from rfl] at hW
  have hW := q_rr 42 (g := r 42) hW rfl
  have hW := q_sc 110 (x := nI bb) hW hb9 (by decide)
  have hW := q_sc 111 (x := r 111 0) hW rfl (by decide)
  exact K295 _ 0 (Nat.zero_le _) (Nat.zero_le _) hinv.le (Nat.zero_le _) hvo hw (Nat.lt_succ_self _) _ _ _ hW hS (lv_sub hl [4, 5, 2, 1, 0] rfl)

set_option maxHeartbeats 4000000 in
set_option maxRecDepth 100000 in
theorem kX14_doBlock (l : Launch) (E : q_E) (f : q_H) (n : Nat) (M : Nat) (r : q_R) (pn bb : Nat) (BB : Nat) (Bw : q_R) (RS : Nat → q_S) (R d : Nat) (lo m0 : Nat) (o0 : Int32) (S0 : q_S)  (hm : RM E f M r) (hpn9 : (r 120 0) = nI pn) (hpn : pn ≤ 8) (hb9 : (r 110 0) = nI bb) (hw : (r 111 0) = -1 ∨ ¬ (r 111 0) < 0) (hB8 : bR r 8 = Bw) (hB29 : BB ≤ 2 ^ 29) (hvo : v_ok pn (r 9) (r 42)) (hRS : mRS Bw pn 400 400 80 RS R) (hd0 : 1 ≤ d) (ihB : ∀ d1 R1, d1 + 6 * R1 < d + 6 * R → MBLK l E pn Bw RS R1 d1) (hinv : k_inv BB ((r 42), bb, (r 111 0))) (hL : mL Bw lo 80 (mA Bw pn 400 400 80 RS R d) m0 o0 S0) (ihA : MACT l E pn Bw RS R d) : Met l yX14_doBlock wsX14_doBlock ({ frames := 5 * (d + 6 * R) + 20, cells := 0, slots := 0, locals := 200 * (d + 6 * R) + 1000 }) (q_P E [.ref M, .int o0] f n) (q_Qv E (fun f1 n1 => rO E f M (r_ks r (S0 (r 9) ((r 42), bb, (r 111 0)))) = f1 ∧ n = n1)) 0 0 (q_ge E) := by
  refine Met.ofW (cc := cX14_doBlock) (maxL := 3) (ret := none) (by decide) rfl ?_
  intro p e s m args below meth c s₁ B hml hv
  obtain ⟨rfl, hA, hW⟩ := hv
  have hx := B.exec
  have hb := B.bytes
  have hr := B.returns
  have hts := atoms_spec (ws := wsX14_doBlock) B.pre
  have hown : s.vm.findClass RX14 = some m.cls := findClass_of_methodNamed B.named
  have hlocks := B.notSynchronized
  have hS : va_S (q_ge E) s.heap s.heap [] := va_S.rf
  have iX13 : ∀ w ∈ wsX130, w ∈ wsX14_doBlock := by decide +kernel
  have iX14 : ∀ w ∈ wsX140, w ∈ wsX14_doBlock := by decide +kernel
  have hl := lv_entry ([.ref M, .int o0]) (n := 3) (Nat.le_of_ble_eq_true rfl)
  rw [lg_entry_eq]
  generalize (lg_sl ([.ref M, .int o0]) ++ List.replicate (3 - (lg_sl ([.ref M, .int o0])).length) Slot.unset).toArray = ls at hl ⊢
  have hl : lv_has ls 3 [(0, .ref M), (1, .int o0)] := hl
  have hmE := hm.eq
  rw [hm.eq] at hW
  have K2 : ∀ (mm : Nat) (o : Int32) (S1 : q_S) (s9 : q_KS), mL Bw lo 80 (mA Bw pn 400 400 80 RS R d) mm o S1 → S0 (r 9) (r 42, bb, r 111 0) = S1 (r 9) s9 → k_inv BB s9 → v_ok pn (r 9) s9.1 → k_w s9 → ∀ (H : Heap) (locs : List Loc) (ls : Array Slot), q_W E (rO E f M (rp (rp (rp r 42 s9.1) 110 (fun _ => nI s9.2.1)) 111 (fun _ => s9.2.2))) n H → va_S (q_ge E) s.heap H locs → lv_has ls 3 [(0, .ref M), (2, .int o)] → W p l e (headSpec wsX14_doBlock ({ frames := 5 * (d + 6 * R) + 20, cells := 0, slots := 0, locals := 200 * (d + 6 * R) + 1000 })).room s m ([.ref M, .int o0] : List Value).toArray below meth c H locs 0 0 (MQ below (q_Qv E (fun f1 n1 => rO E f M (r_ks r (S0 (r 9) ((r 42), bb, (r 111 0)))) = f1 ∧ n = n1)) ([.ref M, .int o0] : List Value).toArray s 0 0 (q_ge E)) (F0 m 2 ls []) := by
    intro mm
    induction mm with
    | zero =>
      intro o S1 s9 hrl hSS hin hvo9 hw9 H locs ls hW hS hl
      obtain ⟨rfl, rfl⟩ := hrl
      refine lv_iload_n hx hb dX14_doBlock_2 rfl (lv_at hl 1 rfl) ?_
      refine lv_iconst (v := (-1)) hx hb dX14_doBlock_3 (by decide) ?_
      refine lv_icmp_eq (tgt := 44) hx hb dX14_doBlock_4 (by decide) (fun c_4 => ?_) (fun c_4 => False.elim ((fun h9 => h9 rfl) c_4))
      exact q_vret hx hb hr hlocks hW hS ⟨(congrArg (fun z : q_KS => rO E f M (r_ks r z)) hSS), rfl⟩ (Nat.le_of_ble_eq_true rfl) (Nat.le_of_ble_eq_true rfl) dX14_doBlock_44
    | succ mm ih =>
      intro o S1 s9 hrl hSS hin hvo9 hw9 H locs ls hW hS hl
      obtain ⟨a, Sa, Sb, rfl, ha1, ha2, rA1, rL2, rfl⟩ := hrl
      refine lv_iload_n hx hb dX14_doBlock_2 rfl (lv_at hl 1 rfl) ?_
      refine lv_iconst (v := (-1)) hx hb dX14_doBlock_3 (by decide) ?_
      refine lv_icmp_eq (tgt := 44) hx hb dX14_doBlock_4 (by decide) (fun c_4 => False.elim ((fun (h9 : nI a = -1) => absurd (show nI a < 0 from by rw [h9]; decide) (nI_pos (by omega))) c_4)) (fun c_4 => ?_)
      refine lv_aload_n hx hb dX14_doBlock_7 rfl (lv_at hl 0 rfl) ?_
      refine q_get hx hb hts hown hA hW iX14 rO_0 rfl 21 (by decide) (hts (.fieldLink RX14 306 "HighRecipesModel" "begun" "I") (by decide +kernel)) (fun _ h9 => h9) (v := .int (nI s9.2.1)) rfl dX14_doBlock_8 ?_
      refine lv_bipush (v := 100) hx hb dX14_doBlock_11 (by decide) ?_
      refine lv_icmp_ge (tgt := 44) hx hb dX14_doBlock_13 (by decide) (fun c_13 => ?_) (fun c_13 => ?_)
      · have hnb : ¬ s9.2.1 < 100 := fun h9 => absurd c_13 (nI_ge h9 (by decide))
        exact q_vret hx hb hr hlocks hW hS ⟨(congrArg (fun z : q_KS => rO E f M (r_ks r z)) (hSS.trans (by unfold k_cons; rw [if_neg hnb]))), rfl⟩ (Nat.le_of_ble_eq_true rfl) (Nat.le_of_ble_eq_true rfl) dX14_doBlock_44
      · have hnb : s9.2.1 < 100 := by rcases Nat.lt_or_ge s9.2.1 100 with h9 | h9; exact h9; exact absurd (nI_le h9 (Nat.lt_of_le_of_lt hin.1 (by decide))) c_13
        refine lv_aload_n hx hb dX14_doBlock_16 rfl (lv_at hl 0 rfl) ?_
        refine lv_dup hx hb dX14_doBlock_17 rfl ?_
        refine q_get hx hb hts hown hA hW iX14 rO_0 rfl 21 (by decide) (hts (.fieldLink RX14 306 "HighRecipesModel" "begun" "I") (by decide +kernel)) (fun _ h9 => h9) (v := .int (nI s9.2.1)) rfl dX14_doBlock_18 ?_
        refine lv_iconst (v := 1) hx hb dX14_doBlock_21 (by decide) ?_
        refine lv_iadd hx hb dX14_doBlock_22 ?_
        rw [nI_1]
        refine q_put hx hb hts hown hA hW hS iX14 tyX14 tyX14_ok nmX14 rO_0 rfl 21 (by decide) (hts (.fieldLink RX14 306 "HighRecipesModel" "begun" "I") (by decide +kernel)) (fun _ h9 => h9) rfl rfl rfl (Nat.le_of_ble_eq_true rfl) dX14_doBlock_23 (fun H locs hW hS => ?_)
        have hW := q_s0 110 (nI (s9.2.1 + 1)) hW rfl (by decide)
        rw [rp_d1] at hW
        refine lv_aload_n hx hb dX14_doBlock_26 rfl (lv_at hl 0 rfl) ?_
        refine lv_iload_n hx hb dX14_doBlock_27 rfl (lv_at hl 1 rfl) ?_
        have hin1 := k_inv_beg hin hnb
        refine q_cv (va_runV (As := [.int (nI a)]) (rest := []) ⟨hx, hb, hml, hown, hts⟩ (ihA (rO E f M (rp (rp (rp r 42 s9.1) 111 (fun _ => s9.2.2)) 110 (fun _ => nI (s9.2.1 + 1)))) n M (rp (rp (rp r 42 s9.1) 111 (fun _ => s9.2.2)) 110 (fun _ => nI (s9.2.1 + 1))) (s9.2.1 + 1) BB a Sa rO_K (by rw [bR8 (by decide), bR8 (by decide), bR8 (by decide)]; exact hB8) hpn9 hpn rfl hw9 hB29 hin1 hvo9 hRS rA1 hd0) (cwV 1 hts gX14_doBlock_X14_does rfl rfl rfl (by decide +kernel) ⟨(by show (5 * (d + 6 * R) + 19) + 1 ≤ 5 * (d + 6 * R) + 20; omega), (by show 8 + (6 + 11) + (200 * (d + 6 * R) + 900) ≤ 200 * (d + 6 * R) + 1000; omega)⟩) (q_pV hA hW hS (ci := 12) rfl rO_0) rfl rfl hl.1 rfl (lv_room (Nat.le_of_ble_eq_true rfl)) dX14_doBlock_28 ⟨Nat.le_of_ble_eq_true rfl, Nat.le_of_ble_eq_true rfl⟩) hS (fun f_28 n_28 H locs hp hW hS => ?_)
        obtain ⟨rfl, rfl⟩ := hp
        have hW : q_W E (rO E f M (rp (rp (rp (rp (rp (rp r 42 s9.1) 111 (fun _ => s9.2.2)) 110 (fun _ => nI (s9.2.1 + 1))) 42 ((Sa (r 9) (s9.1, s9.2.1 + 1, s9.2.2)).1)) 110 (fun _ => nI (Sa (r 9) (s9.1, s9.2.1 + 1, s9.2.2)).2.1)) 111 (fun _ => (Sa (r 9) (s9.1, s9.2.1 + 1, s9.2.2)).2.2))) n H := by rw [rO_rO] at hW; exact hW
        rw [rp_d3] at hW
        rw [rp_d1] at hW
        rw [rp_d0] at hW
        have hW : q_W E (rO E f M (rp (rp (rp r 42 ((Sa (r 9) (s9.1, s9.2.1 + 1, s9.2.2)).1)) 110 (fun _ => nI (Sa (r 9) (s9.1, s9.2.1 + 1, s9.2.2)).2.1)) 111 (fun _ => (Sa (r 9) (s9.1, s9.2.1 + 1, s9.2.2)).2.2))) n H := hW
        refine lv_aload_n hx hb dX14_doBlock_31 rfl (lv_at hl 0 rfl) ?_
        refine q_get hx hb hts hown hA hW iX14 rO_0 rfl 17 (by decide) (hts (.fieldLink RX14 38 "HighRecipesModel" "told" "LHighRecipesModel$Book;") (by decide +kernel)) (fun _ h9 => h9) (v := .ref (M + 8)) rfl dX14_doBlock_32 ?_
        refine q_getN hx hb hts hown hA hW iX13 rO_8 rfl 12 (by decide) (va_Nw.use rfl (hA.2.2.2.1 ("HighRecipesModel", 212, "HighRecipesModel$Book", "next", "[I", "HighRecipesModel") (by decide +kernel))) (fun _ h9 => h9) (v := .ref (M + 18)) rfl dX14_doBlock_35 ?_
        refine lv_iload_n hx hb dX14_doBlock_38 rfl (lv_at hl 1 rfl) ?_
        refine q_ald hx hb hA hW (rO_18 (g := r 18) rfl) a rfl (by omega) (by decide) (x := (r 18) a) rfl dX14_doBlock_39 ?_
        refine lv_istore_n (lv' := [(2, .int ((r 18) a)), (0, .ref M)]) hx hb dX14_doBlock_40 rfl hl (by decide) rfl (fun ls hl => ?_)
        refine lv_goto (tgt := 2) hx hb dX14_doBlock_41 (by decide) ?_
        have hwo := w_one hRS rA1
        have e18 : r 18 a = Bw 10 a := congrFun (congrFun hB8 10) a
        rw [e18] at hl
        exact ih (Bw 10 a) Sb (Sa (r 9) (s9.1, s9.2.1 + 1, s9.2.2)) rL2 (by rw [hSS]; unfold k_cons; rw [if_pos hnb]) (hwo.1.2.1 BB (r 9) _ hB29 hin1) (hwo.1.1 (r 9) _ hvo9) (hwo.2 BB (r 9) _ hB29 hin1 hw9) _ _ _ hW hS (lv_sub hl [1, 0] rfl)
  refine lv_iload_n hx hb dX14_doBlock_0 rfl (lv_at hl 1 rfl) ?_
  refine lv_istore_n (lv' := [(2, .int o0), (0, .ref M), (1, .int o0)]) hx hb dX14_doBlock_1 rfl hl (by decide) rfl (fun ls hl => ?_)
  have hW := q_rr 42 (g := r 42) hW rfl
  have hW := q_sc 110 (x := nI bb) hW hb9 (by decide)
  have hW := q_sc 111 (x := r 111 0) hW rfl (by decide)
  exact K2 m0 o0 S0 (r 42, bb, r 111 0) hL rfl hinv hvo hw _ _ _ hW hS (lv_sub hl [1, 0] rfl)

theorem kX14_act {l : Launch} {E : q_E} {pn : Nat} {B : q_R} {RS : Nat → q_S} {R d : Nat} (ihB : ∀ d1 R1, d1 + 6 * R1 < d + 6 * R → MBLK l E pn B RS R1 d1) : MACT l E pn B RS R d := by
  intro f n M r bb BB a S hm hB8 hpn9 hpn hb9 hw hB29 hinv hvo hRS hA hd0
  obtain ⟨d0, rfl⟩ : ∃ d0, d = d0 + 1 := ⟨d - 1, by omega⟩
  subst hB8
  obtain ⟨ha, hcs⟩ := hA
  rcases hcs with ⟨h3, i, x, D, hi, h4, h5, hV, rfl⟩ | ⟨h3, i, x, D, hi, h4, h5, hV, rfl⟩ | ⟨h3, i, x, D, hi, h4, h5, hV, rfl⟩ | ⟨h3, i, x, D, hi, h4, h5, hV, rfl⟩ | ⟨h3, i, hi, h4, rfl⟩ | ⟨h3, x, D, h5, hV, rfl⟩ | ⟨h3, x, D, h5, hV, rfl⟩ | ⟨h3, r9, hr9, h4, rfl⟩ | ⟨h3, hd1, x, D, m9, Bk, h5, hV, hL, rfl⟩ | ⟨h3, hd1, fr, mc, C, m1, B1, m2, B2, h6, h7, hmc, hC, hL1, hL2, rfl⟩
  · exact kX14_does_4 l E f n M r pn bb BB _ RS R (d0 + 1) a i x D hm hpn9 hpn hb9 hw rfl hB29 hvo hRS hd0 ihB hinv ha h3 hi h4 h5 hV
  · exact kX14_does_5 l E f n M r pn bb BB _ RS R (d0 + 1) a i x D hm hpn9 hpn hb9 hw rfl hB29 hvo hRS hd0 ihB hinv ha h3 hi h4 h5 hV
  · exact kX14_does_7 l E f n M r pn bb BB _ RS R (d0 + 1) a i x D hm hpn9 hpn hb9 hw rfl hB29 hvo hRS hd0 ihB hinv ha h3 hi h4 h5 hV
  · exact kX14_does_9 l E f n M r pn bb BB _ RS R (d0 + 1) a i x D hm hpn9 hpn hb9 hw rfl hB29 hvo hRS hd0 ihB hinv ha h3 hi h4 h5 hV
  · exact kX14_does_11 l E f n M r pn bb BB _ RS R (d0 + 1) a i hm hpn9 hpn hb9 hw rfl hB29 hvo hRS hd0 ihB hinv ha h3 hi h4
  · exact kX14_does_12 l E f n M r pn bb BB _ RS R (d0 + 1) a x D hm hpn9 hpn hb9 hw rfl hB29 hvo hRS hd0 ihB hinv ha h3 h5 hV
  · exact kX14_does_13 l E f n M r pn bb BB _ RS R (d0 + 1) a x D hm hpn9 hpn hb9 hw rfl hB29 hvo hRS hd0 ihB hinv ha h3 h5 hV
  · obtain ⟨hr6, m9, hL⟩ := hRS r9 hr9
    exact kX14_does_14 l E f n M r pn bb BB _ RS R (d0 + 1) a r9 m9 hm hpn9 hpn hb9 hw rfl hB29 hvo hRS hd0 ihB hinv ha h3 hr9 hr6 h4 hL
  · exact kX14_does_15 l E f n M r pn bb BB _ RS R (d0 + 1) a d0 x D m9 Bk hm hpn9 hpn hb9 hw rfl hB29 hvo hRS hd0 ihB hinv ha h3 hd1 rfl h5 hV hL
  · exact kX14_does_16 l E f n M r pn bb BB _ RS R (d0 + 1) a d0 fr mc C m1 B1 m2 B2 hm hpn9 hpn hb9 hw rfl hB29 hvo hRS hd0 ihB hinv ha h3 hd1 rfl h6 h7 hmc hC hL1 hL2
theorem kX14_block0 {l : Launch} {E : q_E} {pn : Nat} {B : q_R} {RS : Nat → q_S} {R d : Nat} (ihB : ∀ d1 R1, d1 + 6 * R1 < d + 6 * R → MBLK l E pn B RS R1 d1) : MBLK l E pn B RS R d := by
  intro f n M r bb BB lo mm o S hm hB8 hpn9 hpn hb9 hw hB29 hinv hvo hRS hL hd0
  exact kX14_doBlock l E f n M r pn bb BB B RS R d lo mm o S hm hpn9 hpn hb9 hw hB8 hB29 hvo hRS hd0 ihB hinv hL (kX14_act ihB)
theorem kX14_block (l : Launch) (E : q_E) (pn : Nat) (B : q_R) (RS : Nat → q_S) : ∀ (M R d : Nat), d + 6 * R ≤ M → MBLK l E pn B RS R d
  | 0, R, d, h => kX14_block0 (fun d1 R1 h1 => absurd h1 (by omega))
  | M + 1, R, d, h => kX14_block0 (fun d1 R1 h1 => kX14_block l E pn B RS M R1 d1 (by omega))
