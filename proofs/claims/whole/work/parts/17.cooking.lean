def k_ok (v : q_V) : Prop := (v 4 = nI (k_T v) ∧ k_T v < 2 ^ 30) ∧ (v 5 = nI (k_N v) ∧ k_N v < 2 ^ 30)
theorem k_ok_of {v w : q_V} (h : k_ok v) (h4 : w 4 = v 4) (h5 : w 5 = v 5) : k_ok w := by
  unfold k_ok k_T k_N at *
  rw [h4, h5]
  exact h
theorem z_fillv_n {hd v : q_V} {i : Nat} {b x : Int32} {q : Nat} (h : q < 52 + 4 * i ∨ 56 + 4 * i ≤ q) : z_fillv hd v i b x q = v q := by
  unfold z_fillv
  split
  · split
    · exact z_pan_n h
    · exact z_pan_n h
  · rfl
theorem kO_fill {E : q_E} {f : q_H} {k bk i : Nat} {hd v : q_V} {b x : Int32} (hi : i < 8) : va_up (kO E f k bk hd v) (k + 12 + i) (some (z_fc b (hd i) (v (52 + 4 * i)) (v (53 + 4 * i)) (v (54 + 4 * i)) (v (55 + 4 * i)) x)) = kO E f k bk hd (z_fillv hd v i b x) := by
  unfold z_fc z_fillv
  split
  · split
    · exact kO_sq hi
    · exact kO_sq hi
  · rw [kO_sq hi, z_pan_id]
theorem q_nge {x y : Int32} (h : ¬ x ≤ y) : y < x := q_nle2 h
theorem q_ngt {x y : Int32} (h : x ≤ y) : ¬ y < x := q_nlt2 h

set_option maxHeartbeats 4000000 in
set_option maxRecDepth 100000 in
theorem kX3_warn (l : Launch) (E : q_E) (f : q_H) (n : Nat) (ck k bk : Nat) (hd v : Nat → Int32) (b : Nat) (w : Int32) (pn : Nat) (rc ac : Int32) (kd : Nat) (hc : f ck = some (cCook k (nI b) w)) (hB : f bk = some (cBook bk (nI pn) rc ac)) (hk : KIT E f k bk hd v) (hbo : kOut k bk) (hpn : pn ≤ 8) (hck : kOut k ck) (hok : k_ok v) (hkd : kd < 6) : Met l yX3_warn wsX3_warn ({ frames := 3, cells := 0, slots := 0, locals := 64 }) (q_P E [.ref ck, .int (nI kd)] f n) (q_Qv E (fun f1 n1 => kO E (va_up f ck (some (cCook k (nI (k_warn kd (v, b, w)).2.1) (k_warn kd (v, b, w)).2.2))) k bk hd (k_warn kd (v, b, w)).1 = f1 ∧ n = n1)) 0 0 (q_ge E) := by
  refine Met.ofW (cc := cX3_warn) (maxL := 2) (ret := none) (by decide) rfl ?_
  intro p e s m args below meth c s₁ B hml hv
  obtain ⟨rfl, hA, hW⟩ := hv
  have hx := B.exec
  have hb := B.bytes
  have hr := B.returns
  have hts := atoms_spec (ws := wsX3_warn) B.pre
  have hown : s.vm.findClass RX3 = some m.cls := findClass_of_methodNamed B.named
  have hlocks := B.notSynchronized
  have hS : va_S (q_ge E) s.heap s.heap [] := va_S.rf
  have iX3 : ∀ w ∈ wsX30, w ∈ wsX3_warn := by decide +kernel
  have hl := lv_entry ([.ref ck, .int (nI kd)]) (n := 2) (Nat.le_of_ble_eq_true rfl)
  rw [lg_entry_eq]
  generalize (lg_sl ([.ref ck, .int (nI kd)]) ++ List.replicate (2 - (lg_sl ([.ref ck, .int (nI kd)])).length) Slot.unset).toArray = ls at hl ⊢
  have hl : lv_has ls 2 [(0, .ref ck), (1, .int (nI kd))] := hl
  rw [hk.eq] at hW
  refine lv_aload_n hx hb dX3_warn_0 rfl (lv_at hl 0 rfl) ?_
  refine q_get hx hb hts hown hA hW iX3 ((kO_out hck).trans hc) rfl 0 (by decide) (hts (.fieldLink RX3 15 "HighRecipes$Cooking" "kitchen" "LHighRecipes$Kitchen;") (by decide +kernel)) (fun _ h9 => h9) (v := .ref k) rfl dX3_warn_1 ?_
  refine lv_iload_n hx hb dX3_warn_4 rfl (lv_at hl 1 rfl) ?_
  refine q_cv (va_runV (As := [.int (nI kd)]) (rest := []) ⟨hx, hb, hml, hown, hts⟩ (kX6_warn l E (kO E f k bk hd v) n k bk hd v (k_T v) kd kO_K hok.1.1 hok.1.2 hkd) (cwV 1 hts gX3_warn_X6_warn rfl rfl rfl (by decide +kernel) ⟨(Nat.le_of_ble_eq_true rfl), (Nat.le_of_ble_eq_true rfl)⟩) (q_pV hA hW hS (ci := 4) rfl kO_0) rfl rfl hl.1 rfl (lv_room (Nat.le_of_ble_eq_true rfl)) dX3_warn_5 ⟨Nat.le_of_ble_eq_true rfl, Nat.le_of_ble_eq_true rfl⟩) hS (fun f_5 n_5 H locs hp hW hS => ?_)
  obtain ⟨rfl, rfl⟩ := hp
  rw [kO_kO] at hW
  have hW : q_W E (kO E f k bk hd (z_warn v (k_T v) kd)) n H := hW
  refine lv_aload_n hx hb dX3_warn_8 rfl (lv_at hl 0 rfl) ?_
  refine q_get hx hb hts hown hA hW iX3 ((kO_out hck).trans hc) rfl 2 (by decide) (hts (.fieldLink RX3 9 "HighRecipes$Cooking" "firstWarningAct" "I") (by decide +kernel)) (fun _ h9 => h9) (v := .int w) rfl dX3_warn_9 ?_
  refine lv_if_ge (tgt := 23) hx hb dX3_warn_12 (by decide) (fun c_12 => ?_) (fun c_12 => ?_)
  · exact q_vret hx hb hr hlocks hW hS ⟨(congrArg (fun z : q_KS => kO E (va_up f ck (some (cCook k (nI z.2.1) z.2.2))) k bk hd z.1) (show (k_warn kd (v, b, w)) = (z_warn v (k_T v) kd, b, w) from (by show (_, _, _) = (_, _, _); rw [if_neg (fun h9 => absurd c_12 (Int32.not_le.mpr h9))]))).trans (congrArg (fun z => kO E z k bk hd (z_warn v (k_T v) kd)) (q_id hc)), rfl⟩ (Nat.le_of_ble_eq_true rfl) (Nat.le_of_ble_eq_true rfl) dX3_warn_23
  · refine lv_aload_n hx hb dX3_warn_15 rfl (lv_at hl 0 rfl) ?_
    refine lv_aload_n hx hb dX3_warn_16 rfl (lv_at hl 0 rfl) ?_
    refine q_get hx hb hts hown hA hW iX3 ((kO_out hck).trans hc) rfl 1 (by decide) (hts (.fieldLink RX3 19 "HighRecipes$Cooking" "begun" "I") (by decide +kernel)) (fun _ h9 => h9) (v := .int (nI b)) rfl dX3_warn_17 ?_
    refine q_put hx hb hts hown hA hW hS iX3 tyX3 tyX3_ok nmX3 ((kO_out hck).trans hc) rfl 2 (by decide) (hts (.fieldLink RX3 9 "HighRecipes$Cooking" "firstWarningAct" "I") (by decide +kernel)) (fun _ h9 => h9) rfl rfl rfl (Nat.le_of_ble_eq_true rfl) dX3_warn_20 (fun H locs hW hS => ?_)
    have hW : q_W E (va_up (kO E f k bk hd (z_warn v (k_T v) kd)) ck (some (cCook k (nI b) (nI b)))) n H := hW
    rw [kO_iu hck] at hW
    exact q_vret hx hb hr hlocks hW hS ⟨(congrArg (fun z : q_KS => kO E (va_up f ck (some (cCook k (nI z.2.1) z.2.2))) k bk hd z.1) (show (k_warn kd (v, b, w)) = (z_warn v (k_T v) kd, b, (nI b)) from (by show (_, _, _) = (_, _, _); rw [if_pos (Int32.not_le.mp c_12)]))).trans rfl, rfl⟩ (Nat.le_of_ble_eq_true rfl) (Nat.le_of_ble_eq_true rfl) dX3_warn_23

set_option maxHeartbeats 4000000 in
set_option maxRecDepth 100000 in
theorem kX3_doPour (l : Launch) (E : q_E) (f : q_H) (n : Nat) (ck k bk : Nat) (hd v : Nat → Int32) (b : Nat) (w : Int32) (pn : Nat) (rc ac : Int32) (lo hi a : Nat) (rcp : Int32) (lc blk oth nxt : Option Nat) (i : Nat) (pm : Int32) (x : Nat) (D : q_D) (hc : f ck = some (cCook k (nI b) w)) (hB : f bk = some (cBook bk (nI pn) rc ac)) (hv : f a = some (cAct E 3 (nI i) rcp pm (some x) lc blk oth nxt)) (hk : KIT E f k bk hd v) (hbo : kOut k bk) (hpn : pn ≤ 8) (hck : kOut k ck) (hreg : ∀ q, lo ≤ q → q < hi → kOut k q ∧ q ≠ ck) (hok : k_ok v) (ha1 : lo ≤ a) (ha2 : a < hi) (hip : i < pn) (hbc : bk ≠ ck) (hD : rV E pn lo hi f 5 x D) : Met l yX3_doPour wsX3_doPour ({ frames := 16, cells := 0, slots := 0, locals := 522 }) (q_P E [.ref ck, .ref a] f n) (q_Qv E (fun f1 n1 => kO E (va_up f ck (some (cCook k (nI (k_pour pn i pm D hd (v, b, w)).2.1) (k_pour pn i pm D hd (v, b, w)).2.2))) k bk hd (k_pour pn i pm D hd (v, b, w)).1 = f1 ∧ n = n1)) 0 0 (q_ge E) := by
  refine Met.ofW (cc := cX3_doPour) (maxL := 4) (ret := none) (by decide) rfl ?_
  intro p e s m args below meth c s₁ B hml hv
  obtain ⟨rfl, hA, hW⟩ := hv
  have hx := B.exec
  have hb := B.bytes
  have hr := B.returns
  have hts := atoms_spec (ws := wsX3_doPour) B.pre
  have hown : s.vm.findClass RX3 = some m.cls := findClass_of_methodNamed B.named
  have hlocks := B.notSynchronized
  have hS : va_S (q_ge E) s.heap s.heap [] := va_S.rf
  have iX1 : ∀ w ∈ wsX10, w ∈ wsX3_doPour := by decide +kernel
  have iX3 : ∀ w ∈ wsX30, w ∈ wsX3_doPour := by decide +kernel
  have hl := lv_entry ([.ref ck, .ref a]) (n := 4) (Nat.le_of_ble_eq_true rfl)
  rw [lg_entry_eq]
  generalize (lg_sl ([.ref ck, .ref a]) ++ List.replicate (4 - (lg_sl ([.ref ck, .ref a])).length) Slot.unset).toArray = ls at hl ⊢
  have hl : lv_has ls 4 [(0, .ref ck), (1, .ref a)] := hl
  rw [hk.eq] at hW
  refine lv_aload_n hx hb dX3_doPour_0 rfl (lv_at hl 0 rfl) ?_
  refine q_get hx hb hts hown hA hW iX3 ((kO_out hck).trans hc) rfl 0 (by decide) (hts (.fieldLink RX3 15 "HighRecipes$Cooking" "kitchen" "LHighRecipes$Kitchen;") (by decide +kernel)) (fun _ h9 => h9) (v := .ref k) rfl dX3_doPour_1 ?_
  refine lv_aload_n hx hb dX3_doPour_4 rfl (lv_at hl 1 rfl) ?_
  refine q_getN hx hb hts hown hA hW iX1 ((kO_out (hreg a ha1 ha2).1).trans hv) rfl 1 (by decide) (va_Nw.use rfl (hA.2.2.2.1 ("HighRecipes$Cooking", 130, "HighRecipes$Act", "pan", "I", "HighRecipes") (by decide +kernel))) (fun _ h9 => h9) (v := .int (nI i)) rfl dX3_doPour_5 ?_
  refine q_cq (va_runV (As := [.int (nI i)]) (rest := []) ⟨hx, hb, hml, hown, hts⟩ (kX6_panAt l E (kO E f k bk hd v) n k bk hd v pn rc ac i ((kO_out hbo).trans hB) kO_K (by assumption) (by assumption) hip) (cwV 1 hts gX3_doPour_X6_panAt rfl rfl rfl (by decide +kernel) ⟨(Nat.le_of_ble_eq_true rfl), (Nat.le_of_ble_eq_true rfl)⟩) (q_pV hA hW hS (ci := 4) rfl kO_0) rfl rfl hl.1 rfl (lv_room (Nat.le_of_ble_eq_true rfl)) dX3_doPour_8 ⟨Nat.le_of_ble_eq_true rfl, Nat.le_of_ble_eq_true rfl⟩) hS (fun r_8 f_8 n_8 H locs hp hW hS => ?_)
  obtain ⟨rfl, rfl, rfl⟩ := hp
  have hW : q_W E (kO E f k bk hd v) n H := hW
  refine lv_astore_n (lv' := [(2, .ref (k + 12 + i)), (0, .ref ck), (1, .ref a)]) hx hb dX3_doPour_11 rfl hl (by decide) rfl (fun ls hl => ?_)
  refine lv_aload_n hx hb dX3_doPour_12 rfl (lv_at hl 0 rfl) ?_
  refine lv_ifnonnull (tgt := 17) hx hb dX3_doPour_13 (by decide) ?_
  refine lv_aload_n hx hb dX3_doPour_17 rfl (lv_at hl 1 rfl) ?_
  refine q_get hx hb hts hown hA hW iX3 ((kO_out hck).trans hc) rfl 0 (by decide) (hts (.fieldLink RX3 15 "HighRecipes$Cooking" "kitchen" "LHighRecipes$Kitchen;") (by decide +kernel)) (fun _ h9 => h9) (v := .ref k) rfl dX3_doPour_18 ?_
  refine lv_aload_n hx hb dX3_doPour_21 rfl (lv_at hl 1 rfl) ?_
  refine lv_aload_n hx hb dX3_doPour_22 rfl (lv_at hl 2 rfl) ?_
  refine q_getN hx hb hts hown hA hW iX1 ((kO_out (hreg a ha1 ha2).1).trans hv) rfl 4 (by decide) (va_Nw.use rfl (hA.2.2.2.1 ("HighRecipes$Cooking", 99, "HighRecipes$Act", "value", "LHighRecipes$Value;", "HighRecipes") (by decide +kernel))) (fun _ h9 => h9) (v := .ref x) rfl dX3_doPour_23 ?_
  refine lv_iconst (v := 0) hx hb dX3_doPour_26 (by decide) ?_
  refine q_ci (va_runV (As := [.ref x, .int 0]) (rest := [.ref k]) ⟨hx, hb, hml, hown, hts⟩ (kX3_worth l E n (kO E f k bk hd v) ck k bk hd v (nI b) w pn rc ac lo hi ((kO_out hck).trans hc) ((kO_out hbo).trans hB) kO_K hbo hpn 5 x 0 D (rV_frame (fun q h1 h2 => (kO_out (hreg q h1 h2).1).trans rfl) (Nat.le_refl _) (Nat.le_refl _) 5 x D hD) (by decide)) (cwV 2 hts gX3_doPour_X3_worth rfl rfl rfl (by decide +kernel) ⟨(Nat.le_of_ble_eq_true rfl), (Nat.le_of_ble_eq_true rfl)⟩) (q_pV hA hW hS (ci := 2) rfl ((kO_out hck).trans hc)) rfl rfl hl.1 rfl (lv_room (Nat.le_of_ble_eq_true rfl)) dX3_doPour_27 ⟨Nat.le_of_ble_eq_true rfl, Nat.le_of_ble_eq_true rfl⟩) hS (fun r_27 f_27 n_27 H locs hp hW hS => ?_)
  obtain ⟨rfl, rfl, rfl⟩ := hp
  have hW : q_W E (kO E f k bk hd v) n H := hW
  refine q_ci (va_runV (As := [.int (D hd v)]) (rest := []) ⟨hx, hb, hml, hown, hts⟩ (kX6_translated l E (kO E f k bk hd v) n k bk hd v (D hd v) kO_K) (cwV 1 hts gX3_doPour_X6_translated rfl rfl rfl (by decide +kernel) ⟨(Nat.le_of_ble_eq_true rfl), (Nat.le_of_ble_eq_true rfl)⟩) (q_pV hA hW hS (ci := 4) rfl kO_0) rfl rfl hl.1 rfl (lv_room (Nat.le_of_ble_eq_true rfl)) dX3_doPour_30 ⟨Nat.le_of_ble_eq_true rfl, Nat.le_of_ble_eq_true rfl⟩) hS (fun r_30 f_30 n_30 H locs hp hW hS => ?_)
  obtain ⟨rfl, rfl, rfl⟩ := hp
  have hW : q_W E (kO E f k bk hd v) n H := hW
  refine lv_istore_n (lv' := [(3, .int (z_tr v (D hd v))), (2, .ref (k + 12 + i)), (0, .ref ck), (1, .ref a)]) hx hb dX3_doPour_33 rfl hl (by decide) rfl (fun ls hl => ?_)
  refine lv_aload_n hx hb dX3_doPour_34 rfl (lv_at hl 1 rfl) ?_
  refine lv_iload_n hx hb dX3_doPour_35 rfl (lv_at hl 0 rfl) ?_
  refine lv_aload_n hx hb dX3_doPour_36 rfl (lv_at hl 3 rfl) ?_
  refine q_getN hx hb hts hown hA hW iX1 ((kO_out (hreg a ha1 ha2).1).trans hv) rfl 3 (by decide) (va_Nw.use rfl (hA.2.2.2.1 ("HighRecipes$Cooking", 141, "HighRecipes$Act", "poursMeal", "Z", "HighRecipes") (by decide +kernel))) (fun _ h9 => h9) (v := .int pm) rfl dX3_doPour_37 ?_
  refine q_ci (va_runV (As := [.int (z_tr v (D hd v)), .int pm]) (rest := []) ⟨hx, hb, hml, hown, hts⟩ (kX7_fill l E (kO E f k bk hd v) n (k + 12 + i) (hd i) (v (52 + 4 * i)) (v (53 + 4 * i)) (v (54 + 4 * i)) (v (55 + 4 * i)) (z_tr v (D hd v)) pm (kO_p (by omega))) (cwV 2 hts gX3_doPour_X7_fill rfl rfl rfl (by decide +kernel) ⟨(Nat.le_of_ble_eq_true rfl), (Nat.le_of_ble_eq_true rfl)⟩) (q_pV hA hW hS (ci := 5) rfl (kO_p (by omega))) rfl rfl hl.1 rfl (lv_room (Nat.le_of_ble_eq_true rfl)) dX3_doPour_40 ⟨Nat.le_of_ble_eq_true rfl, Nat.le_of_ble_eq_true rfl⟩) hS (fun r_40 f_40 n_40 H locs hp hW hS => ?_)
  obtain ⟨rfl, rfl, rfl⟩ := hp
  rw [kO_fill (q_8 hip hpn)] at hW
  refine lv_iload_n hx hb dX3_doPour_43 rfl (lv_at hl 0 rfl) ?_
  refine lv_icmp_ge (tgt := 52) hx hb dX3_doPour_44 (by decide) (fun c_44 => ?_) (fun c_44 => ?_)
  · refine lv_aload_n hx hb dX3_doPour_52 rfl (lv_at hl 2 rfl) ?_
    refine q_get hx hb hts hown hA hW iX3 ((kO_out hck).trans hc) rfl 0 (by decide) (hts (.fieldLink RX3 15 "HighRecipes$Cooking" "kitchen" "LHighRecipes$Kitchen;") (by decide +kernel)) (fun _ h9 => h9) (v := .ref k) rfl dX3_doPour_53 ?_
    refine lv_iconst (v := 1) hx hb dX3_doPour_56 (by decide) ?_
    refine lv_aload_n hx hb dX3_doPour_57 rfl (lv_at hl 1 rfl) ?_
    refine q_cv (va_runV (As := [.int 1, .ref (k + 12 + i)]) (rest := []) ⟨hx, hb, hml, hown, hts⟩ (kX6_pass l E (kO E f k bk hd (z_fillv hd v i pm (z_tr v (D hd v)))) n k bk hd (z_fillv hd v i pm (z_tr v (D hd v))) pn rc ac 1 i ((kO_out hbo).trans hB) kO_K (by assumption) (by assumption)) (cwV 2 hts gX3_doPour_X6_pass rfl rfl rfl (by decide +kernel) ⟨(Nat.le_of_ble_eq_true rfl), (Nat.le_of_ble_eq_true rfl)⟩) (q_pV hA hW hS (ci := 4) rfl kO_0) rfl rfl hl.1 rfl (lv_room (Nat.le_of_ble_eq_true rfl)) dX3_doPour_58 ⟨Nat.le_of_ble_eq_true rfl, Nat.le_of_ble_eq_true rfl⟩) hS (fun f_58 n_58 H locs hp hW hS => ?_)
    obtain ⟨rfl, rfl⟩ := hp
    rw [kO_kO] at hW
    have hW : q_W E (kO E f k bk hd (z_pass (z_fillv hd v i pm (z_tr v (D hd v))) 1 i pn)) n H := hW
    exact q_vret hx hb hr hlocks hW hS ⟨(congrArg (fun z : q_KS => kO E (va_up f ck (some (cCook k (nI z.2.1) z.2.2))) k bk hd z.1) (show (k_pour pn i pm D hd (v, b, w)) = (z_pass (z_fillv hd v i pm (z_tr v (D hd v))) 1 i pn, b, w) from (by unfold k_pour k_pour2; rw [if_neg (q_ngt c_44)]; rfl))).trans (congrArg (fun z => kO E z k bk hd (z_pass (z_fillv hd v i pm (z_tr v (D hd v))) 1 i pn)) (q_id hc)), rfl⟩ (Nat.le_of_ble_eq_true rfl) (Nat.le_of_ble_eq_true rfl) dX3_doPour_61
  · refine lv_aload_n hx hb dX3_doPour_47 rfl (lv_at hl 2 rfl) ?_
    refine lv_iconst (v := 1) hx hb dX3_doPour_48 (by decide) ?_
    refine q_cv (va_runV (As := [.int 1]) (rest := []) ⟨hx, hb, hml, hown, hts⟩ (kX3_warn l E (kO E f k bk hd (z_fillv hd v i pm (z_tr v (D hd v)))) n ck k bk hd (z_fillv hd v i pm (z_tr v (D hd v))) b w pn rc ac 1 ((kO_out hck).trans hc) ((kO_out hbo).trans hB) kO_K (by assumption) (by assumption) (by assumption) (k_ok_of hok (z_fillv_n (by omega)) (z_fillv_n (by omega))) (by decide)) (cwV 1 hts gX3_doPour_X3_warn rfl rfl rfl (by decide +kernel) ⟨(Nat.le_of_ble_eq_true rfl), (Nat.le_of_ble_eq_true rfl)⟩) (q_pV hA hW hS (ci := 2) rfl ((kO_out hck).trans hc)) rfl rfl hl.1 rfl (lv_room (Nat.le_of_ble_eq_true rfl)) dX3_doPour_49 ⟨Nat.le_of_ble_eq_true rfl, Nat.le_of_ble_eq_true rfl⟩) hS (fun f_49 n_49 H locs hp hW hS => ?_)
    obtain ⟨rfl, rfl⟩ := hp
    have hW : q_W E (kO E (va_up (kO E f k bk hd (z_fillv hd v i pm (z_tr v (D hd v)))) ck (some (cCook k (nI (k_warn 1 ((z_fillv hd v i pm (z_tr v (D hd v))), b, w)).2.1) ((k_warn 1 ((z_fillv hd v i pm (z_tr v (D hd v))), b, w)).2.2)))) k bk hd ((k_warn 1 ((z_fillv hd v i pm (z_tr v (D hd v))), b, w)).1)) n H := hW
    rw [kO_iu hck] at hW
    rw [kO_kO] at hW
    have hW : q_W E (kO E (va_up f ck (some (cCook k (nI (k_warn 1 ((z_fillv hd v i pm (z_tr v (D hd v))), b, w)).2.1) ((k_warn 1 ((z_fillv hd v i pm (z_tr v (D hd v))), b, w)).2.2)))) k bk hd ((k_warn 1 ((z_fillv hd v i pm (z_tr v (D hd v))), b, w)).1)) n H := hW
    refine lv_aload_n hx hb dX3_doPour_52 rfl (lv_at hl 2 rfl) ?_
    refine q_get hx hb hts hown hA hW iX3 ((kO_out hck).trans q_eq) rfl 0 (by decide) (hts (.fieldLink RX3 15 "HighRecipes$Cooking" "kitchen" "LHighRecipes$Kitchen;") (by decide +kernel)) (fun _ h9 => h9) (v := .ref k) rfl dX3_doPour_53 ?_
    refine lv_iconst (v := 1) hx hb dX3_doPour_56 (by decide) ?_
    refine lv_aload_n hx hb dX3_doPour_57 rfl (lv_at hl 1 rfl) ?_
    refine q_cv (va_runV (As := [.int 1, .ref (k + 12 + i)]) (rest := []) ⟨hx, hb, hml, hown, hts⟩ (kX6_pass l E (kO E (va_up f ck (some (cCook k (nI (k_warn 1 ((z_fillv hd v i pm (z_tr v (D hd v))), b, w)).2.1) ((k_warn 1 ((z_fillv hd v i pm (z_tr v (D hd v))), b, w)).2.2)))) k bk hd ((k_warn 1 ((z_fillv hd v i pm (z_tr v (D hd v))), b, w)).1)) n k bk hd ((k_warn 1 ((z_fillv hd v i pm (z_tr v (D hd v))), b, w)).1) pn rc ac 1 i ((kO_out hbo).trans (q_ne hbc hB)) kO_K (by assumption) (by assumption)) (cwV 2 hts gX3_doPour_X6_pass rfl rfl rfl (by decide +kernel) ⟨(Nat.le_of_ble_eq_true rfl), (Nat.le_of_ble_eq_true rfl)⟩) (q_pV hA hW hS (ci := 4) rfl kO_0) rfl rfl hl.1 rfl (lv_room (Nat.le_of_ble_eq_true rfl)) dX3_doPour_58 ⟨Nat.le_of_ble_eq_true rfl, Nat.le_of_ble_eq_true rfl⟩) hS (fun f_58 n_58 H locs hp hW hS => ?_)
    obtain ⟨rfl, rfl⟩ := hp
    rw [kO_kO] at hW
    have hW : q_W E (kO E (va_up f ck (some (cCook k (nI (k_warn 1 ((z_fillv hd v i pm (z_tr v (D hd v))), b, w)).2.1) ((k_warn 1 ((z_fillv hd v i pm (z_tr v (D hd v))), b, w)).2.2)))) k bk hd (z_pass ((k_warn 1 ((z_fillv hd v i pm (z_tr v (D hd v))), b, w)).1) 1 i pn)) n H := hW
    exact q_vret hx hb hr hlocks hW hS ⟨(congrArg (fun z : q_KS => kO E (va_up f ck (some (cCook k (nI z.2.1) z.2.2))) k bk hd z.1) (show (k_pour pn i pm D hd (v, b, w)) = (z_pass ((k_warn 1 ((z_fillv hd v i pm (z_tr v (D hd v))), b, w)).1) 1 i pn, b, (k_warn 1 ((z_fillv hd v i pm (z_tr v (D hd v))), b, w)).2.2) from (by unfold k_pour k_pour2; rw [if_pos (q_nge c_44)]; rfl))).trans rfl, rfl⟩ (Nat.le_of_ble_eq_true rfl) (Nat.le_of_ble_eq_true rfl) dX3_doPour_61
