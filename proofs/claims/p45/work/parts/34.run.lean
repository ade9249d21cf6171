/-! a recipe run; more makers -/
set_option maxHeartbeats 4000000 in
set_option maxRecDepth 100000 in
theorem kX3_run (l : Launch) (E : q_E) (f : q_H) (n : Nat) (ck k bk : Nat) (hd v : Nat → Int32) (w : Int32) (pn : Nat) (rc ac : Int32) (b0 : Int32) (g : Nat → Option Nat) (BB lo hi r0 : Nat) (RS : Nat → q_S) (hc : f ck = some (cCook k b0 w)) (hB : f bk = some (cBook bk (nI pn) rc ac)) (hG : f (bk + 4) = some (aQ E 3 6 g)) (hk : KIT E f k bk hd v) (hbo : kOut k bk) (hpn : pn ≤ 8) (hck : kOut k ck) (hbo4 : kOut k (bk + 4)) (hbc : bk ≠ ck) (hb4c : bk + 4 ≠ ck) (hreg : ∀ q, lo ≤ q → q < hi → kOut k q ∧ q ≠ ck) (hB29 : BB ≤ 2 ^ 29) (hinv : k_inv BB (v, 0, (-1))) (hr6 : r0 < 6) (hRS : rRS E pn lo hi f RS g (r0 + 1)) : Met l yX3_run wsX3_run ({ frames := 5 * (6 + 6 * r0) + 25, cells := 0, slots := 0, locals := 200 * (6 + 6 * r0) + 1200 }) (q_P E [.ref ck, .int (nI r0)] f n) (q_Qi E (fun r f1 n1 => (RS r0 hd (v, 0, (-1))).1 3 - v 3 = r ∧ kO E (va_up f ck (some (cCook k (nI (RS r0 hd (v, 0, (-1))).2.1) (RS r0 hd (v, 0, (-1))).2.2))) k bk hd (RS r0 hd (v, 0, (-1))).1 = f1 ∧ n = n1)) 0 0 (q_ge E) := by
  refine Met.ofW (cc := cX3_run) (maxL := 3) (ret := (some .int)) (by decide) rfl ?_
  intro p e s m args below meth c s₁ B hml hv
  obtain ⟨rfl, hA, hW⟩ := hv
  have hx := B.exec
  have hb := B.bytes
  have hr := B.returns
  have hts := atoms_spec (ws := wsX3_run) B.pre
  have hown : s.vm.findClass RX3 = some m.cls := findClass_of_methodNamed B.named
  have hlocks := B.notSynchronized
  have hS : va_S (q_ge E) s.heap s.heap [] := va_S.rf
  have iX3 : ∀ w ∈ wsX30, w ∈ wsX3_run := by decide +kernel
  have iX6 : ∀ w ∈ wsX60, w ∈ wsX3_run := by decide +kernel
  have hl := lv_entry ([.ref ck, .int (nI r0)]) (n := 3) (Nat.le_of_ble_eq_true rfl)
  rw [lg_entry_eq]
  generalize (lg_sl ([.ref ck, .int (nI r0)]) ++ List.replicate (3 - (lg_sl ([.ref ck, .int (nI r0)])).length) Slot.unset).toArray = ls at hl ⊢
  have hl : lv_has ls 3 [(0, .ref ck), (1, .int (nI r0))] := hl
  rw [hk.eq] at hW
  obtain ⟨-, m9, hL⟩ := hRS r0 (Nat.lt_succ_self r0)
  have ihB := fun (d1 R1 : Nat) (h9 : d1 + 6 * R1 ≤ 6 + 6 * r0) => kX3_block l E pn lo hi RS (6 + 6 * r0) R1 d1 h9
  refine lv_aload_n hx hb dX3_run_0 rfl (lv_at hl 0 rfl) ?_
  refine lv_iconst (v := 0) hx hb dX3_run_1 (by decide) ?_
  refine q_put hx hb hts hown hA hW hS iX3 tyX3 tyX3_ok nmX3 ((kO_out hck).trans hc) rfl 1 (by decide) (hts (.fieldLink RX3 19 "HighRecipes$Cooking" "begun" "I") (by decide +kernel)) (fun _ h9 => h9) rfl rfl rfl (Nat.le_of_ble_eq_true rfl) dX3_run_2 (fun H locs hW hS => ?_)
  have hW : q_W E (va_up (kO E f k bk hd v) ck (some (cCook k 0 w))) n H := hW
  rw [kO_iu hck] at hW
  refine lv_aload_n hx hb dX3_run_5 rfl (lv_at hl 0 rfl) ?_
  refine lv_iconst (v := (-1)) hx hb dX3_run_6 (by decide) ?_
  refine q_put hx hb hts hown hA hW hS iX3 tyX3 tyX3_ok nmX3 ((kO_out hck).trans q_eq) rfl 2 (by decide) (hts (.fieldLink RX3 9 "HighRecipes$Cooking" "firstWarningAct" "I") (by decide +kernel)) (fun _ h9 => h9) rfl rfl rfl (Nat.le_of_ble_eq_true rfl) dX3_run_7 (fun H locs hW hS => ?_)
  have hW : q_W E (va_up (kO E (va_up f ck (some (cCook k 0 w))) k bk hd v) ck (some (cCook k 0 (-1)))) n H := hW
  rw [kO_iu hck] at hW
  rw [q_upup] at hW
  refine lv_aload_n hx hb dX3_run_10 rfl (lv_at hl 0 rfl) ?_
  refine q_get hx hb hts hown hA hW iX3 ((kO_out hck).trans q_eq) rfl 0 (by decide) (hts (.fieldLink RX3 15 "HighRecipes$Cooking" "kitchen" "LHighRecipes$Kitchen;") (by decide +kernel)) (fun _ h9 => h9) (v := .ref k) rfl dX3_run_11 ?_
  refine q_getN hx hb hts hown hA hW iX6 kO_0 rfl 8 (by decide) (va_Nw.use rfl (hA.2.2.2.1 ("HighRecipes$Cooking", 22, "HighRecipes$Kitchen", "minute", "I", "HighRecipes") (by decide +kernel))) (fun _ h9 => h9) (v := .int (v 3)) rfl dX3_run_14 ?_
  refine lv_istore_n (lv' := [(2, .int (v 3)), (0, .ref ck), (1, .int (nI r0))]) hx hb dX3_run_17 rfl hl (by decide) rfl (fun ls hl => ?_)
  refine lv_aload_n hx hb dX3_run_18 rfl (lv_at hl 1 rfl) ?_
  refine lv_aload_n hx hb dX3_run_19 rfl (lv_at hl 1 rfl) ?_
  refine q_get hx hb hts hown hA hW iX3 ((kO_out hck).trans q_eq) rfl 0 (by decide) (hts (.fieldLink RX3 15 "HighRecipes$Cooking" "kitchen" "LHighRecipes$Kitchen;") (by decide +kernel)) (fun _ h9 => h9) (v := .ref k) rfl dX3_run_20 ?_
  refine q_getN hx hb hts hown hA hW iX6 kO_0 rfl 4 (by decide) (va_Nw.use rfl (hA.2.2.2.1 ("HighRecipes$Cooking", 27, "HighRecipes$Kitchen", "book", "LHighRecipes$Book;", "HighRecipes") (by decide +kernel))) (fun _ h9 => h9) (v := .ref bk) rfl dX3_run_23 ?_
  refine lv_iload_n hx hb dX3_run_26 rfl (lv_at hl 2 rfl) ?_
  refine q_cq (va_runV (As := [.int (nI r0)]) (rest := [.ref ck]) ⟨hx, hb, hml, hown, hts⟩ (kX2_blockOf l E (kO E (va_up f ck (some (cCook k 0 (-1)))) k bk hd v) n bk (nI pn) rc ac g r0 ((kO_out hbo).trans (q_ne hbc hB)) ((kO_out hbo4).trans (q_ne (by omega) hG)) hr6) (cwV 1 hts gX3_run_X2_blockOf rfl rfl rfl (by decide +kernel) ⟨(by show 0 + 1 ≤ 5 * (6 + 6 * r0) + 25; omega), (by show 8 + (2 + 11) + 0 ≤ 200 * (6 + 6 * r0) + 1200; omega)⟩) (q_pV hA hW hS (ci := 3) rfl ((kO_out hbo).trans (q_ne hbc hB))) rfl rfl hl.1 rfl (lv_room (Nat.le_of_ble_eq_true rfl)) dX3_run_27 ⟨Nat.le_of_ble_eq_true rfl, Nat.le_of_ble_eq_true rfl⟩) hS (fun r_27 f_27 n_27 H locs hp hW hS => ?_)
  obtain ⟨rfl, rfl, rfl⟩ := hp
  have hW : q_W E (kO E (va_up f ck (some (cCook k 0 (-1)))) k bk hd v) n H := hW
  refine lv_iconst (v := 0) hx hb dX3_run_30 (by decide) ?_
  refine q_cv (va_runV (As := [va_rf (g r0), .int 0]) (rest := []) ⟨hx, hb, hml, hown, hts⟩ (ihB 6 r0 (by omega) (kO E (va_up f ck (some (cCook k (nI 0) (-1)))) k bk hd v) n ck k bk hd v 0 (-1) rc ac g BB m9 (g r0) (RS r0) 0 ((kO_out hck).trans q_eq) ((kO_out hbo).trans ((va_up_ne _ _ hbc).trans hB)) ((kO_out hbo4).trans ((va_up_ne _ _ hb4c).trans hG)) kO_K hbo hpn hck hbo4 hbc hb4c hreg hB29 hinv (rep_RS (fun q h1 h2 => (kO_out (hreg q h1 h2).1).trans (va_up_ne _ _ (hreg q h1 h2).2)) (fun r2 h2 => hRS r2 (Nat.lt_succ_of_lt h2))) (rep_L (fun q h1 h2 => (kO_out (hreg q h1 h2).1).trans (va_up_ne _ _ (hreg q h1 h2).2)) hL) (by omega) (by omega)) (cwV 2 hts gX3_run_X3_doBlock rfl rfl rfl (by decide +kernel) ⟨(by show (5 * (6 + 6 * r0) + 20) + 1 ≤ 5 * (6 + 6 * r0) + 25; omega), (by show 8 + (4 + 11) + (200 * (6 + 6 * r0) + 1000) ≤ 200 * (6 + 6 * r0) + 1200; omega)⟩) (q_pV hA hW hS (ci := 4) rfl ((kO_out hck).trans q_eq)) rfl rfl hl.1 rfl (lv_room (Nat.le_of_ble_eq_true rfl)) dX3_run_31 ⟨Nat.le_of_ble_eq_true rfl, Nat.le_of_ble_eq_true rfl⟩) hS (fun f_31 n_31 H locs hp hW hS => ?_)
  obtain ⟨rfl, rfl⟩ := hp
  have hW : q_W E (kO E (va_up (kO E (va_up f ck (some (cCook k (nI 0) (-1)))) k bk hd v) ck (some (cCook k (nI ((RS r0) hd (v, 0, -1)).2.1) (((RS r0) hd (v, 0, -1)).2.2)))) k bk hd (((RS r0) hd (v, 0, -1)).1)) n H := hW
  rw [kO_iu hck] at hW
  rw [q_upup] at hW
  rw [kO_kO] at hW
  have hW : q_W E (kO E (va_up f ck (some (cCook k (nI ((RS r0) hd (v, 0, -1)).2.1) (((RS r0) hd (v, 0, -1)).2.2)))) k bk hd (((RS r0) hd (v, 0, -1)).1)) n H := hW
  refine lv_aload_n hx hb dX3_run_34 rfl (lv_at hl 1 rfl) ?_
  refine q_get hx hb hts hown hA hW iX3 ((kO_out hck).trans q_eq) rfl 0 (by decide) (hts (.fieldLink RX3 15 "HighRecipes$Cooking" "kitchen" "LHighRecipes$Kitchen;") (by decide +kernel)) (fun _ h9 => h9) (v := .ref k) rfl dX3_run_35 ?_
  refine q_getN hx hb hts hown hA hW iX6 kO_0 rfl 8 (by decide) (va_Nw.use rfl (hA.2.2.2.1 ("HighRecipes$Cooking", 22, "HighRecipes$Kitchen", "minute", "I", "HighRecipes") (by decide +kernel))) (fun _ h9 => h9) (v := .int ((((RS r0) hd (v, 0, -1)).1) 3)) rfl dX3_run_38 ?_
  refine lv_iload_n hx hb dX3_run_41 rfl (lv_at hl 0 rfl) ?_
  refine lv_isub hx hb dX3_run_42 ?_
  exact q_iret hx hb hr hlocks hW hS ⟨rfl, rfl, rfl⟩ (Nat.le_of_ble_eq_true rfl) (Nat.le_of_ble_eq_true rfl) dX3_run_43

set_option maxHeartbeats 4000000 in
set_option maxRecDepth 100000 in
theorem kX8_init (l : Launch) (E : q_E) (f : q_H) (n : Nat) (a : Nat) (h0 : f a = some (rX8 none none 0 0)) (hn : n = a + 1) : Met l yX8_init wsX8_init ({ frames := 2, cells := 9, slots := 1244, locals := 40 }) (q_P E [.ref a] f n) (q_Qv E (fun f1 n1 => (∀ q, q < a → f1 q = f q) ∧ f1 (a + 2) = some (aQ E 5 401 (fun _ => none)) ∧ f1 (a + 3) = some (aI E 401 (fun _ => 0)) ∧ f1 (a + 4) = some (aJ E 401 (fun _ => 0)) ∧ f1 (a + 1) = some (cTok E (a + 1) 0 0 39) ∧ f1 (a + 6) = some (aJ E 8 (fun _ => 0)) ∧ f1 (a + 7) = some (aI E 8 (fun _ => 0)) ∧ f1 (a + 8) = some (aJ E 6 (fun _ => 0)) ∧ f1 (a + 9) = some (aQ E 3 6 (fun _ => none)) ∧ f1 (a + 5) = some (cBook (a + 5) 0 0 0) ∧ f1 (a) = some (cPar a (a + 5) 0 0) ∧ a + 10 = n1)) 9 1244 (q_ge E) := by
  refine Met.ofW (cc := cX8_init) (maxL := 1) (ret := none) (by decide) rfl ?_
  intro p e s m args below meth c s₁ B hml hv
  obtain ⟨rfl, hA, hW⟩ := hv
  have hx := B.exec
  have hb := B.bytes
  have hr := B.returns
  have hts := atoms_spec (ws := wsX8_init) B.pre
  have hown : s.vm.findClass RX8 = some m.cls := findClass_of_methodNamed B.named
  have hlocks := B.notSynchronized
  have hin : meth.name = "<init>" := (name_of_methodNamed B.named B.method).1
  have hS : va_S (q_ge E) s.heap s.heap [] := va_S.rf
  have iX10 : ∀ w ∈ wsX100, w ∈ wsX8_init := by decide +kernel
  have iX2 : ∀ w ∈ wsX20, w ∈ wsX8_init := by decide +kernel
  have iX8 : ∀ w ∈ wsX80, w ∈ wsX8_init := by decide +kernel
  have hl := lv_entry ([.ref a]) (n := 1) (Nat.le_of_ble_eq_true rfl)
  rw [lg_entry_eq]
  generalize (lg_sl ([.ref a]) ++ List.replicate (1 - (lg_sl ([.ref a])).length) Slot.unset).toArray = ls at hl ⊢
  have hl : lv_has ls 1 [(0, .ref a)] := hl
  subst hn
  refine lv_aload_n hx hb dX8_init_0 rfl (lv_at hl 0 rfl) ?_
  refine W.objInit hx hb hown (hts (.methodLink RX8 1 objectInit) (by decide +kernel)) (hts (.instanceMethod objectInit) (by decide +kernel)) (hts (.code objectInit ⟨#[0xb1]⟩ 1 none) (by decide +kernel)) rfl (hl.1.trans hml.symm) rfl dX8_init_1 (Nat.le_of_ble_eq_true rfl) (Nat.le_of_ble_eq_true rfl) ?_
  refine lv_aload_n hx hb dX8_init_4 rfl (lv_at hl 0 rfl) ?_
  refine q_new (ci := 10) hx hb hts hown hA hW hS iX10 tyX10 tyX10_ok (hts (.classLink RX8 7 RX10) (by decide +kernel)) (hts (.instantiable RX10 6) (by decide +kernel)) (hts (.initialized RX10) (by decide +kernel)) rfl (fs := [.null, .null, .null, .int 0, .int 0, .null]) (by decide) (Nat.le_of_ble_eq_true rfl) (Nat.le_of_ble_eq_true rfl) dX8_init_5 (fun H hW hS => ?_)
  have hW : q_W E (va_up f (a + 1) (some (rX10 none none none 0 0 none))) (a + 1 + 1) H := hW
  refine lv_dup hx hb dX8_init_8 rfl ?_
  refine q_cv (va_runIN (As := []) (rest := [.ref (a + 1), .ref a]) ⟨hx, hb, hml, hown, hts⟩ (kX10_init l E (va_up f (a + 1) (some (rX10 none none none 0 0 none))) (a + 2) (a + 1) q_eq rfl) ⟨va_cnB 0 hts gX8_init_X10_init_n9 rfl rfl rfl (hA.2.2.2.2.1 ("HighRecipes$Parser", 9, ⟨"HighRecipes$Tokens", "<init>", "()V"⟩, "HighRecipes") (by decide +kernel)) (hts (.initialized RX10) (by decide +kernel)) (by decide +kernel) ⟨(Nat.le_of_ble_eq_true rfl), (Nat.le_of_ble_eq_true rfl)⟩, rfl, hts (.instanceMethod yX10_init) (by decide +kernel)⟩ (q_pS hA hW hS) rfl rfl hl.1 rfl (lv_room (Nat.le_of_ble_eq_true rfl)) dX8_init_9 ⟨Nat.le_of_ble_eq_true rfl, Nat.le_of_ble_eq_true rfl⟩) hS (fun f_9 n_9 H locs hp hW hS => ?_)
  obtain ⟨rfl, rfl⟩ := hp
  have hW : q_W E (va_up (va_up (va_up (va_up (va_up f (a + 1) (some (rX10 none none none 0 0 none))) (a + 2) (some (aQ E 5 401 (fun _ => none)))) (a + 3) (some (aI E 401 (fun _ => 0)))) (a + 4) (some (aJ E 401 (fun _ => 0)))) (a + 1) (some (rX10 (some ((a + 1) + 1)) (some ((a + 1) + 2)) (some ((a + 1) + 3)) 0 0 (some (E.2.2.2 39))))) (a + 5) H := hW
  refine q_putF hx hb hts hown hA hW hS iX8 tyX8 tyX8_ok nmX8 (q_ne (by omega) (q_ne (by omega) (q_ne (by omega) (q_ne (by omega) (q_ne (by omega) h0))))) rfl 0 (by decide) (hts (.fieldLink RX8 10 "HighRecipes$Parser" "tokens" "LHighRecipes$Tokens;") (by decide +kernel)) (fun _ h9 => h9) rfl hin rfl rfl rfl (Nat.le_of_ble_eq_true rfl) dX8_init_12 (fun H locs hW hS => ?_)
  have hW : q_W E (va_up (va_up (va_up (va_up (va_up (va_up f (a + 1) (some (rX10 none none none 0 0 none))) (a + 2) (some (aQ E 5 401 (fun _ => none)))) (a + 3) (some (aI E 401 (fun _ => 0)))) (a + 4) (some (aJ E 401 (fun _ => 0)))) (a + 1) (some (rX10 (some ((a + 1) + 1)) (some ((a + 1) + 2)) (some ((a + 1) + 3)) 0 0 (some (E.2.2.2 39))))) a (some (rX8 (some (a + 1)) none 0 0))) (a + 5) H := hW
  refine lv_aload_n hx hb dX8_init_15 rfl (lv_at hl 0 rfl) ?_
  refine q_new (ci := 3) hx hb hts hown hA hW hS iX2 tyX2 tyX2_ok (hts (.classLink RX8 16 RX2) (by decide +kernel)) (hts (.instantiable RX2 7) (by decide +kernel)) (hts (.initialized RX2) (by decide +kernel)) rfl (fs := [.null, .null, .null, .null, .int 0, .int 0, .int 0]) (by decide) (Nat.le_of_ble_eq_true rfl) (Nat.le_of_ble_eq_true rfl) dX8_init_16 (fun H hW hS => ?_)
  have hW : q_W E (va_up (va_up (va_up (va_up (va_up (va_up (va_up f (a + 1) (some (rX10 none none none 0 0 none))) (a + 2) (some (aQ E 5 401 (fun _ => none)))) (a + 3) (some (aI E 401 (fun _ => 0)))) (a + 4) (some (aJ E 401 (fun _ => 0)))) (a + 1) (some (rX10 (some ((a + 1) + 1)) (some ((a + 1) + 2)) (some ((a + 1) + 3)) 0 0 (some (E.2.2.2 39))))) a (some (rX8 (some (a + 1)) none 0 0))) (a + 5) (some (rX2 none none none none 0 0 0))) (a + 5 + 1) H := hW
  refine lv_dup hx hb dX8_init_19 rfl ?_
  refine q_cv (va_runIN (As := []) (rest := [.ref (a + 5), .ref a]) ⟨hx, hb, hml, hown, hts⟩ (kX2_init l E (va_up (va_up (va_up (va_up (va_up (va_up (va_up f (a + 1) (some (rX10 none none none 0 0 none))) (a + 2) (some (aQ E 5 401 (fun _ => none)))) (a + 3) (some (aI E 401 (fun _ => 0)))) (a + 4) (some (aJ E 401 (fun _ => 0)))) (a + 1) (some (rX10 (some ((a + 1) + 1)) (some ((a + 1) + 2)) (some ((a + 1) + 3)) 0 0 (some (E.2.2.2 39))))) a (some (rX8 (some (a + 1)) none 0 0))) (a + 5) (some (rX2 none none none none 0 0 0))) (a + 6) (a + 5) q_eq rfl) ⟨va_cnB 0 hts gX8_init_X2_init_n18 rfl rfl rfl (hA.2.2.2.2.1 ("HighRecipes$Parser", 18, ⟨"HighRecipes$Book", "<init>", "()V"⟩, "HighRecipes") (by decide +kernel)) (hts (.initialized RX2) (by decide +kernel)) (by decide +kernel) ⟨(Nat.le_of_ble_eq_true rfl), (Nat.le_of_ble_eq_true rfl)⟩, rfl, hts (.instanceMethod yX2_init) (by decide +kernel)⟩ (q_pS hA hW hS) rfl rfl hl.1 rfl (lv_room (Nat.le_of_ble_eq_true rfl)) dX8_init_20 ⟨Nat.le_of_ble_eq_true rfl, Nat.le_of_ble_eq_true rfl⟩) hS (fun f_20 n_20 H locs hp hW hS => ?_)
  obtain ⟨rfl, rfl⟩ := hp
  have hW : q_W E (va_up (va_up (va_up (va_up (va_up (va_up (va_up (va_up (va_up (va_up (va_up (va_up f (a + 1) (some (rX10 none none none 0 0 none))) (a + 2) (some (aQ E 5 401 (fun _ => none)))) (a + 3) (some (aI E 401 (fun _ => 0)))) (a + 4) (some (aJ E 401 (fun _ => 0)))) (a + 1) (some (rX10 (some ((a + 1) + 1)) (some ((a + 1) + 2)) (some ((a + 1) + 3)) 0 0 (some (E.2.2.2 39))))) a (some (rX8 (some (a + 1)) none 0 0))) (a + 5) (some (rX2 none none none none 0 0 0))) (a + 6) (some (aJ E 8 (fun _ => 0)))) (a + 7) (some (aI E 8 (fun _ => 0)))) (a + 8) (some (aJ E 6 (fun _ => 0)))) (a + 9) (some (aQ E 3 6 (fun _ => none)))) (a + 5) (some (rX2 (some ((a + 5) + 1)) (some ((a + 5) + 2)) (some ((a + 5) + 3)) (some ((a + 5) + 4)) 0 0 0))) (a + 10) H := hW
  refine q_put hx hb hts hown hA hW hS iX8 tyX8 tyX8_ok nmX8 (q_ne (by omega) (q_ne (by omega) (q_ne (by omega) (q_ne (by omega) (q_ne (by omega) (q_ne (by omega) q_eq)))))) rfl 1 (by decide) (hts (.fieldLink RX8 19 "HighRecipes$Parser" "book" "LHighRecipes$Book;") (by decide +kernel)) (fun _ h9 => h9) rfl rfl rfl (Nat.le_of_ble_eq_true rfl) dX8_init_23 (fun H locs hW hS => ?_)
  have hW : q_W E (va_up (va_up (va_up (va_up (va_up (va_up (va_up (va_up (va_up (va_up (va_up (va_up (va_up f (a + 1) (some (rX10 none none none 0 0 none))) (a + 2) (some (aQ E 5 401 (fun _ => none)))) (a + 3) (some (aI E 401 (fun _ => 0)))) (a + 4) (some (aJ E 401 (fun _ => 0)))) (a + 1) (some (rX10 (some ((a + 1) + 1)) (some ((a + 1) + 2)) (some ((a + 1) + 3)) 0 0 (some (E.2.2.2 39))))) a (some (rX8 (some (a + 1)) none 0 0))) (a + 5) (some (rX2 none none none none 0 0 0))) (a + 6) (some (aJ E 8 (fun _ => 0)))) (a + 7) (some (aI E 8 (fun _ => 0)))) (a + 8) (some (aJ E 6 (fun _ => 0)))) (a + 9) (some (aQ E 3 6 (fun _ => none)))) (a + 5) (some (rX2 (some ((a + 5) + 1)) (some ((a + 5) + 2)) (some ((a + 5) + 3)) (some ((a + 5) + 4)) 0 0 0))) a (some (rX8 (some (a + 1)) (some (a + 5)) 0 0))) (a + 10) H := hW
  exact q_vret hx hb hr hlocks hW hS ⟨fun q hq => (va_up_ne _ _ (by omega)).trans ((va_up_ne _ _ (by omega)).trans ((va_up_ne _ _ (by omega)).trans ((va_up_ne _ _ (by omega)).trans ((va_up_ne _ _ (by omega)).trans ((va_up_ne _ _ (by omega)).trans ((va_up_ne _ _ (by omega)).trans ((va_up_ne _ _ (by omega)).trans ((va_up_ne _ _ (by omega)).trans ((va_up_ne _ _ (by omega)).trans ((va_up_ne _ _ (by omega)).trans ((va_up_ne _ _ (by omega)).trans (va_up_ne _ _ (by omega))))))))))))), (q_ne (by omega) (q_ne (by omega) (q_ne (by omega) (q_ne (by omega) (q_ne (by omega) (q_ne (by omega) (q_ne (by omega) (q_ne (by omega) (q_ne (by omega) (q_ne (by omega) (q_ne (by omega) q_eq))))))))))), (q_ne (by omega) (q_ne (by omega) (q_ne (by omega) (q_ne (by omega) (q_ne (by omega) (q_ne (by omega) (q_ne (by omega) (q_ne (by omega) (q_ne (by omega) (q_ne (by omega) q_eq)))))))))), (q_ne (by omega) (q_ne (by omega) (q_ne (by omega) (q_ne (by omega) (q_ne (by omega) (q_ne (by omega) (q_ne (by omega) (q_ne (by omega) (q_ne (by omega) q_eq))))))))), (q_ne (by omega) (q_ne (by omega) (q_ne (by omega) (q_ne (by omega) (q_ne (by omega) (q_ne (by omega) (q_ne (by omega) (q_ne (by omega) q_eq)))))))), (q_ne (by omega) (q_ne (by omega) (q_ne (by omega) (q_ne (by omega) (q_ne (by omega) q_eq))))), (q_ne (by omega) (q_ne (by omega) (q_ne (by omega) (q_ne (by omega) q_eq)))), (q_ne (by omega) (q_ne (by omega) (q_ne (by omega) q_eq))), (q_ne (by omega) (q_ne (by omega) q_eq)), (q_ne (by omega) q_eq), q_eq, rfl⟩ (Nat.le_of_ble_eq_true rfl) (Nat.le_of_ble_eq_true rfl) dX8_init_26

def z_ini : Nat → Int32 := fun q => if q = 1 then 4 else if q = 2 then 1 else if 54 ≤ q ∧ q % 4 = 2 then 20 else 0
def pJ (k j : Nat) : Nat → Option Nat := fun i => if i < j then some (k + 12 + i) else none
theorem pJ_s {k j : Nat} : va_up (pJ k j) j (some (k + 12 + j)) = pJ k (j + 1) := by
  funext i
  unfold va_up pJ
  by_cases h : i = j
  · rw [if_pos h, if_pos (by omega), h]
  · rw [if_neg h]
    by_cases h2 : i < j
    · rw [if_pos h2, if_pos (by omega)]
    · rw [if_neg h2, if_neg (by omega)]
theorem z_row_ini {b N : Nat} (h : ∀ j, j < N → z_ini (b + j) = 0) : z_row z_ini b N = fun _ => 0 := by
  funext i
  unfold z_row
  split
  · next hi => exact h i hi
  · rfl
theorem z_ini_0 {q : Nat} (h1 : q ≠ 1) (h2 : q ≠ 2) (h : q < 54) : z_ini q = 0 := by
  unfold z_ini
  rw [if_neg h1, if_neg h2, if_neg (by omega)]
theorem KIT_of {E : q_E} {f : q_H} {k bk : Nat} {hd v : Nat → Int32} (h0 : f k = some (cKit k bk v)) (h1 : f (k + 1) = some (aQ E 4 8 (pA k))) (h2 : f (k + 2) = some (cHis (k + 2) (v 4))) (h3 : f (k + 3) = some (aI E 20 (z_row v 12 20))) (h4 : f (k + 4) = some (cHis (k + 4) (v 5))) (h5 : f (k + 5) = some (aI E 20 (z_row v 32 20))) (h6 : f (k + 6) = some (aI E 6 (z_row v 6 6))) (hp : ∀ i, i < 8 → f (k + 12 + i) = some (cPan (hd i) (v (52 + 4 * i)) (v (53 + 4 * i)) (v (54 + 4 * i)) (v (55 + 4 * i)))) : KIT E f k bk hd v := by
  intro q hq
  unfold kOut at hq
  rcases (by omega : q = k ∨ q = k + 1 ∨ q = k + 2 ∨ q = k + 3 ∨ q = k + 4 ∨ q = k + 5 ∨ q = k + 6 ∨ (k + 12 ≤ q ∧ q < k + 20)) with e | e | e | e | e | e | e | ⟨hi1, hi2⟩
  · subst e; rw [Nat.sub_self]; exact h0
  · subst e; rw [Nat.add_sub_cancel_left]; exact h1
  · subst e; rw [Nat.add_sub_cancel_left]; exact h2
  · subst e; rw [Nat.add_sub_cancel_left]; exact h3
  · subst e; rw [Nat.add_sub_cancel_left]; exact h4
  · subst e; rw [Nat.add_sub_cancel_left]; exact h5
  · subst e; rw [Nat.add_sub_cancel_left]; exact h6
  · obtain ⟨i, e⟩ : ∃ i, q = k + 12 + i := ⟨q - k - 12, by omega⟩
    have hi : i < 8 := by omega
    subst e
    rw [show k + 12 + i - k = 12 + i by omega, kC_p (by omega), show 12 + i - 12 = i by omega]
    exact hp i hi

set_option maxHeartbeats 4000000 in
set_option maxRecDepth 100000 in
theorem kX6_init (l : Launch) (E : q_E) (f : q_H) (n : Nat) (a : Nat) (h0 : f a = some (rX6 none none none none none 0 0 0 0)) (hn : n = a + 1) : Met l yX6_init wsX6_init ({ frames := 2, cells := 11 + 8, slots := 93 + 40, locals := 40 }) (q_P E [.ref a] f n) (q_Qv E (fun f1 n1 => (∀ q, q < a → f1 q = f q) ∧ f1 (a + 7) = some (cBook (a + 7) 0 0 0) ∧ f1 (a + 11) = some (aQ E 3 6 (fun _ => none)) ∧ KIT E f1 a (a + 7) (fun _ => 0) z_ini ∧ a + 20 = n1)) (11 + 8) (93 + 40) (q_ge E) := by
  refine Met.ofW (cc := cX6_init) (maxL := 2) (ret := none) (by decide) rfl ?_
  intro p e s m args below meth c s₁ B hml hv
  obtain ⟨rfl, hA, hW⟩ := hv
  have hx := B.exec
  have hb := B.bytes
  have hr := B.returns
  have hts := atoms_spec (ws := wsX6_init) B.pre
  have hown : s.vm.findClass RX6 = some m.cls := findClass_of_methodNamed B.named
  have hlocks := B.notSynchronized
  have hin : meth.name = "<init>" := (name_of_methodNamed B.named B.method).1
  have hS : va_S (q_ge E) s.heap s.heap [] := va_S.rf
  have iX2 : ∀ w ∈ wsX20, w ∈ wsX6_init := by decide +kernel
  have iX4 : ∀ w ∈ wsX40, w ∈ wsX6_init := by decide +kernel
  have iX6 : ∀ w ∈ wsX60, w ∈ wsX6_init := by decide +kernel
  have iX7 : ∀ w ∈ wsX70, w ∈ wsX6_init := by decide +kernel
  have hl := lv_entry ([.ref a]) (n := 2) (Nat.le_of_ble_eq_true rfl)
  rw [lg_entry_eq]
  generalize (lg_sl ([.ref a]) ++ List.replicate (2 - (lg_sl ([.ref a])).length) Slot.unset).toArray = ls at hl ⊢
  have hl : lv_has ls 2 [(0, .ref a)] := hl
  subst hn
  refine lv_aload_n hx hb dX6_init_0 rfl (lv_at hl 0 rfl) ?_
  refine W.objInit hx hb hown (hts (.methodLink RX6 3 objectInit) (by decide +kernel)) (hts (.instanceMethod objectInit) (by decide +kernel)) (hts (.code objectInit ⟨#[0xb1]⟩ 1 none) (by decide +kernel)) rfl (hl.1.trans hml.symm) rfl dX6_init_1 (Nat.le_of_ble_eq_true rfl) (Nat.le_of_ble_eq_true rfl) ?_
  refine lv_aload_n hx hb dX6_init_4 rfl (lv_at hl 0 rfl) ?_
  refine lv_bipush (v := 8) hx hb dX6_init_5 (by decide) ?_
  refine q_newq hx hb hown hA hW hS (hts (.classLink RX6 11 "HighRecipes$Pan") (by decide +kernel)) (hA.2.2.2.2.2.2.2.1 "HighRecipes$Pan" (by decide +kernel)) 4 rfl (N' := 8) (by decide) (by decide) (Nat.le_of_ble_eq_true rfl) (by show 0 + 1 ≤ 11 + 8; omega) (by show 0 + 8 ≤ 93 + 40; omega) dX6_init_7 (fun H hW hS => ?_)
  have hW : q_W E (va_up f (a + 1) (some (aQ E 4 8 (fun _ => none)))) (a + 1 + 1) H := hW
  refine q_putF hx hb hts hown hA hW hS iX6 tyX6 tyX6_ok nmX6 (q_ne (by omega) h0) rfl 0 (by decide) (hts (.fieldLink RX6 13 "HighRecipes$Kitchen" "pans" "[LHighRecipes$Pan;") (by decide +kernel)) (fun _ h9 => h9) rfl hin rfl rfl rfl (Nat.le_of_ble_eq_true rfl) dX6_init_10 (fun H locs hW hS => ?_)
  have hW : q_W E (va_up (va_up f (a + 1) (some (aQ E 4 8 (fun _ => none)))) a (some (rX6 (some (a + 1)) none none none none 0 0 0 0))) (a + 2) H := hW
  refine lv_aload_n hx hb dX6_init_13 rfl (lv_at hl 0 rfl) ?_
  refine q_new (ci := 5) hx hb hts hown hA hW hS iX4 tyX4 tyX4_ok (hts (.classLink RX6 19 RX4) (by decide +kernel)) (hts (.instantiable RX4 2) (by decide +kernel)) (hts (.initialized RX4) (by decide +kernel)) rfl (fs := [.null, .int 0]) (by decide) (by show 1 + 1 ≤ 11 + 8; omega) (by show 8 + 2 ≤ 93 + 40; omega) dX6_init_14 (fun H hW hS => ?_)
  have hW : q_W E (va_up (va_up (va_up f (a + 1) (some (aQ E 4 8 (fun _ => none)))) a (some (rX6 (some (a + 1)) none none none none 0 0 0 0))) (a + 2) (some (rX4 none 0))) (a + 2 + 1) H := hW
  refine lv_dup hx hb dX6_init_17 rfl ?_
  refine q_cv (va_runIN (As := []) (rest := [.ref (a + 2), .ref a]) ⟨hx, hb, hml, hown, hts⟩ (kX4_init l E (va_up (va_up (va_up f (a + 1) (some (aQ E 4 8 (fun _ => none)))) a (some (rX6 (some (a + 1)) none none none none 0 0 0 0))) (a + 2) (some (rX4 none 0))) (a + 3) (a + 2) q_eq rfl) ⟨va_cnB 0 hts gX6_init_X4_init_n21 rfl rfl rfl (hA.2.2.2.2.1 ("HighRecipes$Kitchen", 21, ⟨"HighRecipes$History", "<init>", "()V"⟩, "HighRecipes") (by decide +kernel)) (hts (.initialized RX4) (by decide +kernel)) (by decide +kernel) ⟨(Nat.le_of_ble_eq_true rfl), (Nat.le_of_ble_eq_true rfl)⟩, rfl, hts (.instanceMethod yX4_init) (by decide +kernel)⟩ (q_pS hA hW hS) rfl rfl hl.1 rfl (lv_room (Nat.le_of_ble_eq_true rfl)) dX6_init_18 ⟨(by show 2 + 1 ≤ 11 + 8; omega), (by show 10 + 20 ≤ 93 + 40; omega)⟩) hS (fun f_18 n_18 H locs hp hW hS => ?_)
  obtain ⟨rfl, rfl⟩ := hp
  have hW : q_W E (va_up (va_up (va_up (va_up (va_up f (a + 1) (some (aQ E 4 8 (fun _ => none)))) a (some (rX6 (some (a + 1)) none none none none 0 0 0 0))) (a + 2) (some (rX4 none 0))) (a + 3) (some (aI E 20 (fun _ => 0)))) (a + 2) (some (rX4 (some ((a + 2) + 1)) 0))) (a + 4) H := hW
  refine q_putF hx hb hts hown hA hW hS iX6 tyX6 tyX6_ok nmX6 (q_ne (by omega) (q_ne (by omega) (q_ne (by omega) q_eq))) rfl 1 (by decide) (hts (.fieldLink RX6 22 "HighRecipes$Kitchen" "warnings" "LHighRecipes$History;") (by decide +kernel)) (fun _ h9 => h9) rfl hin rfl rfl rfl (Nat.le_of_ble_eq_true rfl) dX6_init_21 (fun H locs hW hS => ?_)
  have hW : q_W E (va_up (va_up (va_up (va_up (va_up (va_up f (a + 1) (some (aQ E 4 8 (fun _ => none)))) a (some (rX6 (some (a + 1)) none none none none 0 0 0 0))) (a + 2) (some (rX4 none 0))) (a + 3) (some (aI E 20 (fun _ => 0)))) (a + 2) (some (rX4 (some ((a + 2) + 1)) 0))) a (some (rX6 (some (a + 1)) (some (a + 2)) none none none 0 0 0 0))) (a + 4) H := hW
  refine lv_aload_n hx hb dX6_init_24 rfl (lv_at hl 0 rfl) ?_
  refine q_new (ci := 5) hx hb hts hown hA hW hS iX4 tyX4 tyX4_ok (hts (.classLink RX6 19 RX4) (by decide +kernel)) (hts (.instantiable RX4 2) (by decide +kernel)) (hts (.initialized RX4) (by decide +kernel)) rfl (fs := [.null, .int 0]) (by decide) (by show 3 + 1 ≤ 11 + 8; omega) (by show 30 + 2 ≤ 93 + 40; omega) dX6_init_25 (fun H hW hS => ?_)
  have hW : q_W E (va_up (va_up (va_up (va_up (va_up (va_up (va_up f (a + 1) (some (aQ E 4 8 (fun _ => none)))) a (some (rX6 (some (a + 1)) none none none none 0 0 0 0))) (a + 2) (some (rX4 none 0))) (a + 3) (some (aI E 20 (fun _ => 0)))) (a + 2) (some (rX4 (some ((a + 2) + 1)) 0))) a (some (rX6 (some (a + 1)) (some (a + 2)) none none none 0 0 0 0))) (a + 4) (some (rX4 none 0))) (a + 4 + 1) H := hW
  refine lv_dup hx hb dX6_init_28 rfl ?_
  refine q_cv (va_runIN (As := []) (rest := [.ref (a + 4), .ref a]) ⟨hx, hb, hml, hown, hts⟩ (kX4_init l E (va_up (va_up (va_up (va_up (va_up (va_up (va_up f (a + 1) (some (aQ E 4 8 (fun _ => none)))) a (some (rX6 (some (a + 1)) none none none none 0 0 0 0))) (a + 2) (some (rX4 none 0))) (a + 3) (some (aI E 20 (fun _ => 0)))) (a + 2) (some (rX4 (some ((a + 2) + 1)) 0))) a (some (rX6 (some (a + 1)) (some (a + 2)) none none none 0 0 0 0))) (a + 4) (some (rX4 none 0))) (a + 5) (a + 4) q_eq rfl) ⟨va_cnB 0 hts gX6_init_X4_init_n21 rfl rfl rfl (hA.2.2.2.2.1 ("HighRecipes$Kitchen", 21, ⟨"HighRecipes$History", "<init>", "()V"⟩, "HighRecipes") (by decide +kernel)) (hts (.initialized RX4) (by decide +kernel)) (by decide +kernel) ⟨(Nat.le_of_ble_eq_true rfl), (Nat.le_of_ble_eq_true rfl)⟩, rfl, hts (.instanceMethod yX4_init) (by decide +kernel)⟩ (q_pS hA hW hS) rfl rfl hl.1 rfl (lv_room (Nat.le_of_ble_eq_true rfl)) dX6_init_29 ⟨(by show 4 + 1 ≤ 11 + 8; omega), (by show 32 + 20 ≤ 93 + 40; omega)⟩) hS (fun f_29 n_29 H locs hp hW hS => ?_)
  obtain ⟨rfl, rfl⟩ := hp
  have hW : q_W E (va_up (va_up (va_up (va_up (va_up (va_up (va_up (va_up (va_up f (a + 1) (some (aQ E 4 8 (fun _ => none)))) a (some (rX6 (some (a + 1)) none none none none 0 0 0 0))) (a + 2) (some (rX4 none 0))) (a + 3) (some (aI E 20 (fun _ => 0)))) (a + 2) (some (rX4 (some ((a + 2) + 1)) 0))) a (some (rX6 (some (a + 1)) (some (a + 2)) none none none 0 0 0 0))) (a + 4) (some (rX4 none 0))) (a + 5) (some (aI E 20 (fun _ => 0)))) (a + 4) (some (rX4 (some ((a + 4) + 1)) 0))) (a + 6) H := hW
  refine q_putF hx hb hts hown hA hW hS iX6 tyX6 tyX6_ok nmX6 (q_ne (by omega) (q_ne (by omega) (q_ne (by omega) q_eq))) rfl 2 (by decide) (hts (.fieldLink RX6 26 "HighRecipes$Kitchen" "notes" "LHighRecipes$History;") (by decide +kernel)) (fun _ h9 => h9) rfl hin rfl rfl rfl (Nat.le_of_ble_eq_true rfl) dX6_init_32 (fun H locs hW hS => ?_)
  have hW : q_W E (va_up (va_up (va_up (va_up (va_up (va_up (va_up (va_up (va_up (va_up f (a + 1) (some (aQ E 4 8 (fun _ => none)))) a (some (rX6 (some (a + 1)) none none none none 0 0 0 0))) (a + 2) (some (rX4 none 0))) (a + 3) (some (aI E 20 (fun _ => 0)))) (a + 2) (some (rX4 (some ((a + 2) + 1)) 0))) a (some (rX6 (some (a + 1)) (some (a + 2)) none none none 0 0 0 0))) (a + 4) (some (rX4 none 0))) (a + 5) (some (aI E 20 (fun _ => 0)))) (a + 4) (some (rX4 (some ((a + 4) + 1)) 0))) a (some (rX6 (some (a + 1)) (some (a + 2)) (some (a + 4)) none none 0 0 0 0))) (a + 6) H := hW
  refine lv_aload_n hx hb dX6_init_35 rfl (lv_at hl 0 rfl) ?_
  refine lv_bipush (v := 6) hx hb dX6_init_36 (by decide) ?_
  refine q_newa (atype := .int) hx hb hA hW hS (hts (.arrayClass .int) (by decide +kernel)) (ty := .int) rfl 0 rfl (fun C h9 => by cases h9) (N' := 6) (a0 := (6, .inl (fun _ => 0))) (fun _ => rfl) (by decide) (by decide) (Nat.le_of_ble_eq_true rfl) (by show 5 + 1 ≤ 11 + 8; omega) (by show 52 + 6 ≤ 93 + 40; omega) dX6_init_38 (fun H hW hS => ?_)
  have hW : q_W E (va_up (va_up (va_up (va_up (va_up (va_up (va_up (va_up (va_up (va_up (va_up f (a + 1) (some (aQ E 4 8 (fun _ => none)))) a (some (rX6 (some (a + 1)) none none none none 0 0 0 0))) (a + 2) (some (rX4 none 0))) (a + 3) (some (aI E 20 (fun _ => 0)))) (a + 2) (some (rX4 (some ((a + 2) + 1)) 0))) a (some (rX6 (some (a + 1)) (some (a + 2)) none none none 0 0 0 0))) (a + 4) (some (rX4 none 0))) (a + 5) (some (aI E 20 (fun _ => 0)))) (a + 4) (some (rX4 (some ((a + 4) + 1)) 0))) a (some (rX6 (some (a + 1)) (some (a + 2)) (some (a + 4)) none none 0 0 0 0))) (a + 6) (some (aI E 6 (fun _ => 0)))) (a + 6 + 1) H := hW
  refine q_putF hx hb hts hown hA hW hS iX6 tyX6 tyX6_ok nmX6 (q_ne (by omega) q_eq) rfl 3 (by decide) (hts (.fieldLink RX6 29 "HighRecipes$Kitchen" "ofKind" "[I") (by decide +kernel)) (fun _ h9 => h9) rfl hin rfl rfl rfl (Nat.le_of_ble_eq_true rfl) dX6_init_40 (fun H locs hW hS => ?_)
  have hW : q_W E (va_up (va_up (va_up (va_up (va_up (va_up (va_up (va_up (va_up (va_up (va_up (va_up f (a + 1) (some (aQ E 4 8 (fun _ => none)))) a (some (rX6 (some (a + 1)) none none none none 0 0 0 0))) (a + 2) (some (rX4 none 0))) (a + 3) (some (aI E 20 (fun _ => 0)))) (a + 2) (some (rX4 (some ((a + 2) + 1)) 0))) a (some (rX6 (some (a + 1)) (some (a + 2)) none none none 0 0 0 0))) (a + 4) (some (rX4 none 0))) (a + 5) (some (aI E 20 (fun _ => 0)))) (a + 4) (some (rX4 (some ((a + 4) + 1)) 0))) a (some (rX6 (some (a + 1)) (some (a + 2)) (some (a + 4)) none none 0 0 0 0))) (a + 6) (some (aI E 6 (fun _ => 0)))) a (some (rX6 (some (a + 1)) (some (a + 2)) (some (a + 4)) (some (a + 6)) none 0 0 0 0))) (a + 7) H := hW
  refine lv_aload_n hx hb dX6_init_43 rfl (lv_at hl 0 rfl) ?_
  refine q_new (ci := 3) hx hb hts hown hA hW hS iX2 tyX2 tyX2_ok (hts (.classLink RX6 9 RX2) (by decide +kernel)) (hts (.instantiable RX2 7) (by decide +kernel)) (hts (.initialized RX2) (by decide +kernel)) rfl (fs := [.null, .null, .null, .null, .int 0, .int 0, .int 0]) (by decide) (by show 6 + 1 ≤ 11 + 8; omega) (by show 58 + 7 ≤ 93 + 40; omega) dX6_init_44 (fun H hW hS => ?_)
  have hW : q_W E (va_up (va_up (va_up (va_up (va_up (va_up (va_up (va_up (va_up (va_up (va_up (va_up (va_up f (a + 1) (some (aQ E 4 8 (fun _ => none)))) a (some (rX6 (some (a + 1)) none none none none 0 0 0 0))) (a + 2) (some (rX4 none 0))) (a + 3) (some (aI E 20 (fun _ => 0)))) (a + 2) (some (rX4 (some ((a + 2) + 1)) 0))) a (some (rX6 (some (a + 1)) (some (a + 2)) none none none 0 0 0 0))) (a + 4) (some (rX4 none 0))) (a + 5) (some (aI E 20 (fun _ => 0)))) (a + 4) (some (rX4 (some ((a + 4) + 1)) 0))) a (some (rX6 (some (a + 1)) (some (a + 2)) (some (a + 4)) none none 0 0 0 0))) (a + 6) (some (aI E 6 (fun _ => 0)))) a (some (rX6 (some (a + 1)) (some (a + 2)) (some (a + 4)) (some (a + 6)) none 0 0 0 0))) (a + 7) (some (rX2 none none none none 0 0 0))) (a + 7 + 1) H := hW
  refine lv_dup hx hb dX6_init_47 rfl ?_
  refine q_cv (va_runIN (As := []) (rest := [.ref (a + 7), .ref a]) ⟨hx, hb, hml, hown, hts⟩ (kX2_init l E (va_up (va_up (va_up (va_up (va_up (va_up (va_up (va_up (va_up (va_up (va_up (va_up (va_up f (a + 1) (some (aQ E 4 8 (fun _ => none)))) a (some (rX6 (some (a + 1)) none none none none 0 0 0 0))) (a + 2) (some (rX4 none 0))) (a + 3) (some (aI E 20 (fun _ => 0)))) (a + 2) (some (rX4 (some ((a + 2) + 1)) 0))) a (some (rX6 (some (a + 1)) (some (a + 2)) none none none 0 0 0 0))) (a + 4) (some (rX4 none 0))) (a + 5) (some (aI E 20 (fun _ => 0)))) (a + 4) (some (rX4 (some ((a + 4) + 1)) 0))) a (some (rX6 (some (a + 1)) (some (a + 2)) (some (a + 4)) none none 0 0 0 0))) (a + 6) (some (aI E 6 (fun _ => 0)))) a (some (rX6 (some (a + 1)) (some (a + 2)) (some (a + 4)) (some (a + 6)) none 0 0 0 0))) (a + 7) (some (rX2 none none none none 0 0 0))) (a + 8) (a + 7) q_eq rfl) ⟨va_cnB 0 hts gX6_init_X2_init_n33 rfl rfl rfl (hA.2.2.2.2.1 ("HighRecipes$Kitchen", 33, ⟨"HighRecipes$Book", "<init>", "()V"⟩, "HighRecipes") (by decide +kernel)) (hts (.initialized RX2) (by decide +kernel)) (by decide +kernel) ⟨(Nat.le_of_ble_eq_true rfl), (Nat.le_of_ble_eq_true rfl)⟩, rfl, hts (.instanceMethod yX2_init) (by decide +kernel)⟩ (q_pS hA hW hS) rfl rfl hl.1 rfl (lv_room (Nat.le_of_ble_eq_true rfl)) dX6_init_48 ⟨(by show 7 + 4 ≤ 11 + 8; omega), (by show 65 + 28 ≤ 93 + 40; omega)⟩) hS (fun f_48 n_48 H locs hp hW hS => ?_)
  obtain ⟨rfl, rfl⟩ := hp
  have hW : q_W E (va_up (va_up (va_up (va_up (va_up (va_up (va_up (va_up (va_up (va_up (va_up (va_up (va_up (va_up (va_up (va_up (va_up (va_up f (a + 1) (some (aQ E 4 8 (fun _ => none)))) a (some (rX6 (some (a + 1)) none none none none 0 0 0 0))) (a + 2) (some (rX4 none 0))) (a + 3) (some (aI E 20 (fun _ => 0)))) (a + 2) (some (rX4 (some ((a + 2) + 1)) 0))) a (some (rX6 (some (a + 1)) (some (a + 2)) none none none 0 0 0 0))) (a + 4) (some (rX4 none 0))) (a + 5) (some (aI E 20 (fun _ => 0)))) (a + 4) (some (rX4 (some ((a + 4) + 1)) 0))) a (some (rX6 (some (a + 1)) (some (a + 2)) (some (a + 4)) none none 0 0 0 0))) (a + 6) (some (aI E 6 (fun _ => 0)))) a (some (rX6 (some (a + 1)) (some (a + 2)) (some (a + 4)) (some (a + 6)) none 0 0 0 0))) (a + 7) (some (rX2 none none none none 0 0 0))) (a + 8) (some (aJ E 8 (fun _ => 0)))) (a + 9) (some (aI E 8 (fun _ => 0)))) (a + 10) (some (aJ E 6 (fun _ => 0)))) (a + 11) (some (aQ E 3 6 (fun _ => none)))) (a + 7) (some (rX2 (some ((a + 7) + 1)) (some ((a + 7) + 2)) (some ((a + 7) + 3)) (some ((a + 7) + 4)) 0 0 0))) (a + 12) H := hW
  refine q_put hx hb hts hown hA hW hS iX6 tyX6 tyX6_ok nmX6 (q_ne (by omega) (q_ne (by omega) (q_ne (by omega) (q_ne (by omega) (q_ne (by omega) (q_ne (by omega) q_eq)))))) rfl 4 (by decide) (hts (.fieldLink RX6 34 "HighRecipes$Kitchen" "book" "LHighRecipes$Book;") (by decide +kernel)) (fun _ h9 => h9) rfl rfl rfl (Nat.le_of_ble_eq_true rfl) dX6_init_51 (fun H locs hW hS => ?_)
  have hW : q_W E (va_up (va_up (va_up (va_up (va_up (va_up (va_up (va_up (va_up (va_up (va_up (va_up (va_up (va_up (va_up (va_up (va_up (va_up (va_up f (a + 1) (some (aQ E 4 8 (fun _ => none)))) a (some (rX6 (some (a + 1)) none none none none 0 0 0 0))) (a + 2) (some (rX4 none 0))) (a + 3) (some (aI E 20 (fun _ => 0)))) (a + 2) (some (rX4 (some ((a + 2) + 1)) 0))) a (some (rX6 (some (a + 1)) (some (a + 2)) none none none 0 0 0 0))) (a + 4) (some (rX4 none 0))) (a + 5) (some (aI E 20 (fun _ => 0)))) (a + 4) (some (rX4 (some ((a + 4) + 1)) 0))) a (some (rX6 (some (a + 1)) (some (a + 2)) (some (a + 4)) none none 0 0 0 0))) (a + 6) (some (aI E 6 (fun _ => 0)))) a (some (rX6 (some (a + 1)) (some (a + 2)) (some (a + 4)) (some (a + 6)) none 0 0 0 0))) (a + 7) (some (rX2 none none none none 0 0 0))) (a + 8) (some (aJ E 8 (fun _ => 0)))) (a + 9) (some (aI E 8 (fun _ => 0)))) (a + 10) (some (aJ E 6 (fun _ => 0)))) (a + 11) (some (aQ E 3 6 (fun _ => none)))) (a + 7) (some (rX2 (some ((a + 7) + 1)) (some ((a + 7) + 2)) (some ((a + 7) + 3)) (some ((a + 7) + 4)) 0 0 0))) a (some (rX6 (some (a + 1)) (some (a + 2)) (some (a + 4)) (some (a + 6)) (some (a + 7)) 0 0 0 0))) (a + 12) H := hW
  refine lv_aload_n hx hb dX6_init_54 rfl (lv_at hl 0 rfl) ?_
  refine lv_iconst (v := 4) hx hb dX6_init_55 (by decide) ?_
  refine q_put hx hb hts hown hA hW hS iX6 tyX6 tyX6_ok nmX6 q_eq rfl 6 (by decide) (hts (.fieldLink RX6 38 "HighRecipes$Kitchen" "servings" "I") (by decide +kernel)) (fun _ h9 => h9) rfl rfl rfl (Nat.le_of_ble_eq_true rfl) dX6_init_56 (fun H locs hW hS => ?_)
  rw [q_upup] at hW
  have hW : q_W E (va_up (va_up (va_up (va_up (va_up (va_up (va_up (va_up (va_up (va_up (va_up (va_up (va_up (va_up (va_up (va_up (va_up (va_up (va_up f (a + 1) (some (aQ E 4 8 (fun _ => none)))) a (some (rX6 (some (a + 1)) none none none none 0 0 0 0))) (a + 2) (some (rX4 none 0))) (a + 3) (some (aI E 20 (fun _ => 0)))) (a + 2) (some (rX4 (some ((a + 2) + 1)) 0))) a (some (rX6 (some (a + 1)) (some (a + 2)) none none none 0 0 0 0))) (a + 4) (some (rX4 none 0))) (a + 5) (some (aI E 20 (fun _ => 0)))) (a + 4) (some (rX4 (some ((a + 4) + 1)) 0))) a (some (rX6 (some (a + 1)) (some (a + 2)) (some (a + 4)) none none 0 0 0 0))) (a + 6) (some (aI E 6 (fun _ => 0)))) a (some (rX6 (some (a + 1)) (some (a + 2)) (some (a + 4)) (some (a + 6)) none 0 0 0 0))) (a + 7) (some (rX2 none none none none 0 0 0))) (a + 8) (some (aJ E 8 (fun _ => 0)))) (a + 9) (some (aI E 8 (fun _ => 0)))) (a + 10) (some (aJ E 6 (fun _ => 0)))) (a + 11) (some (aQ E 3 6 (fun _ => none)))) (a + 7) (some (rX2 (some ((a + 7) + 1)) (some ((a + 7) + 2)) (some ((a + 7) + 3)) (some ((a + 7) + 4)) 0 0 0))) a (some (rX6 (some (a + 1)) (some (a + 2)) (some (a + 4)) (some (a + 6)) (some (a + 7)) 0 4 0 0))) (a + 12) H := hW
  refine lv_aload_n hx hb dX6_init_59 rfl (lv_at hl 0 rfl) ?_
  refine lv_iconst (v := 1) hx hb dX6_init_60 (by decide) ?_
  refine q_put hx hb hts hown hA hW hS iX6 tyX6 tyX6_ok nmX6 q_eq rfl 7 (by decide) (hts (.fieldLink RX6 42 "HighRecipes$Kitchen" "spoon" "I") (by decide +kernel)) (fun _ h9 => h9) rfl rfl rfl (Nat.le_of_ble_eq_true rfl) dX6_init_61 (fun H locs hW hS => ?_)
  rw [q_upup] at hW
  have hW : q_W E (va_up (va_up (va_up (va_up (va_up (va_up (va_up (va_up (va_up (va_up (va_up (va_up (va_up (va_up (va_up (va_up (va_up (va_up (va_up f (a + 1) (some (aQ E 4 8 (fun _ => none)))) a (some (rX6 (some (a + 1)) none none none none 0 0 0 0))) (a + 2) (some (rX4 none 0))) (a + 3) (some (aI E 20 (fun _ => 0)))) (a + 2) (some (rX4 (some ((a + 2) + 1)) 0))) a (some (rX6 (some (a + 1)) (some (a + 2)) none none none 0 0 0 0))) (a + 4) (some (rX4 none 0))) (a + 5) (some (aI E 20 (fun _ => 0)))) (a + 4) (some (rX4 (some ((a + 4) + 1)) 0))) a (some (rX6 (some (a + 1)) (some (a + 2)) (some (a + 4)) none none 0 0 0 0))) (a + 6) (some (aI E 6 (fun _ => 0)))) a (some (rX6 (some (a + 1)) (some (a + 2)) (some (a + 4)) (some (a + 6)) none 0 0 0 0))) (a + 7) (some (rX2 none none none none 0 0 0))) (a + 8) (some (aJ E 8 (fun _ => 0)))) (a + 9) (some (aI E 8 (fun _ => 0)))) (a + 10) (some (aJ E 6 (fun _ => 0)))) (a + 11) (some (aQ E 3 6 (fun _ => none)))) (a + 7) (some (rX2 (some ((a + 7) + 1)) (some ((a + 7) + 2)) (some ((a + 7) + 3)) (some ((a + 7) + 4)) 0 0 0))) a (some (rX6 (some (a + 1)) (some (a + 2)) (some (a + 4)) (some (a + 6)) (some (a + 7)) 0 4 1 0))) (a + 12) H := hW
  refine lv_iconst (v := 0) hx hb dX6_init_64 (by decide) ?_
  refine lv_istore_n (lv' := [(1, .int 0), (0, .ref a)]) hx hb dX6_init_65 rfl hl (by decide) rfl (fun ls hl => ?_)
  have K66 : ∀ (fu : Nat) (j : Nat) (g9 : q_H) (hj : j ≤ 8) (b0 : ∀ q, q < a → g9 q = f q) (b1 : g9 (a) = some (rX6 (some (a + 1)) (some (a + 2)) (some (a + 4)) (some (a + 6)) (some (a + 7)) 0 4 1 0)) (b2 : g9 (a + 1) = some (aQ E 4 8 (pJ a j))) (b3 : g9 (a + 2) = some (rX4 (some (a + 3)) 0)) (b4 : g9 (a + 3) = some (aI E 20 (fun _ => 0))) (b5 : g9 (a + 4) = some (rX4 (some (a + 5)) 0)) (b6 : g9 (a + 5) = some (aI E 20 (fun _ => 0))) (b7 : g9 (a + 6) = some (aI E 6 (fun _ => 0))) (b8 : g9 (a + 7) = some (cBook (a + 7) 0 0 0)) (b9 : g9 (a + 11) = some (aQ E 3 6 (fun _ => none))) (b10 : ∀ i, i < j → g9 (a + 12 + i) = some (cPan 0 0 0 20 0)) (hm : 8 - j < fu) (H : Heap) (locs : List Loc) (ls : Array Slot), q_W E (g9) (a + 12 + j) H → va_S (q_ge E) s.heap H locs → lv_has ls 2 [(0, .ref a), (1, .int (nI j))] → W p l e (headSpec wsX6_init ({ frames := 2, cells := 11 + 8, slots := 93 + 40, locals := 40 })).room s m ([.ref a] : List Value).toArray below meth c H locs (11 + j) (93 + 5 * j) (MQ below (q_Qv E (fun f1 n1 => (∀ q, q < a → f1 q = f q) ∧ f1 (a + 7) = some (cBook (a + 7) 0 0 0) ∧ f1 (a + 11) = some (aQ E 3 6 (fun _ => none)) ∧ KIT E f1 a (a + 7) (fun _ => 0) z_ini ∧ a + 20 = n1)) ([.ref a] : List Value).toArray s (11 + 8) (93 + 40) (q_ge E)) (F0 m 66 ls []) := by
    intro fu
    induction fu with
    | zero =>
      intro j g9 hj b0 b1 b2 b3 b4 b5 b6 b7 b8 b9 b10 hm
      exact absurd hm (Nat.not_lt_zero _)
    | succ fu ih =>
      intro j g9 hj b0 b1 b2 b3 b4 b5 b6 b7 b8 b9 b10 hm H locs ls hW hS hl
      refine lv_iload_n hx hb dX6_init_66 rfl (lv_at hl 1 rfl) ?_
      refine lv_aload_n hx hb dX6_init_67 rfl (lv_at hl 0 rfl) ?_
      refine q_get hx hb hts hown hA hW iX6 b1 rfl 0 (by decide) (hts (.fieldLink RX6 13 "HighRecipes$Kitchen" "pans" "[LHighRecipes$Pan;") (by decide +kernel)) (fun _ h9 => h9) (v := .ref (a + 1)) rfl dX6_init_68 ?_
      refine q_alen hx hb hA hW 4 rfl b2 (v := Int32.ofNat 8) rfl dX6_init_71 ?_
      refine lv_icmp_ge (tgt := 94) hx hb dX6_init_72 (by decide) (fun c_72 => ?_) (fun c_72 => ?_)
      · have ej : j = 8 := by rcases Nat.lt_or_ge j 8 with h9 | h9; exact absurd (show nI 8 ≤ nI j from c_72) (nI_ge h9 (by decide)); omega
        exact q_vret hx hb hr hlocks hW hS ⟨b0, b8, b9, KIT_of b1 (by rw [ej] at b2; exact b2) b3 (by rw [z_row_ini (fun j hj => z_ini_0 (by omega) (by omega) (by omega))]; exact b4) b5 (by rw [z_row_ini (fun j hj => z_ini_0 (by omega) (by omega) (by omega))]; exact b6) (by rw [z_row_ini (fun j hj => z_ini_0 (by omega) (by omega) (by omega))]; exact b7) (fun i hi => by rw [b10 i (by omega)]; congr 1; unfold z_ini; rw [if_neg (by omega), if_neg (by omega), if_neg (by omega), if_neg (by omega), if_neg (by omega), if_neg (by omega), if_neg (by omega), if_neg (by omega), if_pos (by omega), if_neg (by omega), if_neg (by omega), if_neg (by omega)]), by rw [ej]⟩ (by show 11 + j ≤ 11 + 8; omega) (by show 93 + 5 * j ≤ 93 + 40; omega) dX6_init_94
      · have hlt : j < 8 := by rcases Nat.lt_or_ge j 8 with h9 | h9; exact h9; exact absurd (show nI 8 ≤ nI j from nI_le h9 (by omega)) c_72
        refine lv_aload_n hx hb dX6_init_75 rfl (lv_at hl 0 rfl) ?_
        refine q_get hx hb hts hown hA hW iX6 b1 rfl 0 (by decide) (hts (.fieldLink RX6 13 "HighRecipes$Kitchen" "pans" "[LHighRecipes$Pan;") (by decide +kernel)) (fun _ h9 => h9) (v := .ref (a + 1)) rfl dX6_init_76 ?_
        refine lv_iload_n hx hb dX6_init_79 rfl (lv_at hl 1 rfl) ?_
        refine q_new (ci := 7) hx hb hts hown hA hW hS iX7 tyX7 tyX7_ok (hts (.classLink RX6 11 RX7) (by decide +kernel)) (hts (.instantiable RX7 5) (by decide +kernel)) (hts (.initialized RX7) (by decide +kernel)) rfl (fs := [.int 0, .int 0, .int 0, .int 0, .int 0]) (by decide) (by show 11 + j + 1 ≤ 11 + 8; omega) (by show 93 + 5 * j + 5 ≤ 93 + 40; omega) dX6_init_80 (fun H hW hS => ?_)
        have hW : q_W E (va_up g9 (a + 12 + j) (some (rX7 0 0 0 0 0))) (a + 12 + j + 1) H := hW
        refine lv_dup hx hb dX6_init_83 rfl ?_
        refine q_cv (va_runIN (As := []) (rest := [.ref (a + 12 + j), .int (nI j), .ref (a + 1)]) ⟨hx, hb, hml, hown, hts⟩ (kX7_init l E (va_up g9 (a + 12 + j) (some (rX7 0 0 0 0 0))) (a + 12 + j + 1) (a + 12 + j) 0 0 0 0 0 q_eq) ⟨va_cnB 0 hts gX6_init_X7_init_n45 rfl rfl rfl (hA.2.2.2.2.1 ("HighRecipes$Kitchen", 45, ⟨"HighRecipes$Pan", "<init>", "()V"⟩, "HighRecipes") (by decide +kernel)) (hts (.initialized RX7) (by decide +kernel)) (by decide +kernel) ⟨(Nat.le_of_ble_eq_true rfl), (Nat.le_of_ble_eq_true rfl)⟩, rfl, hts (.instanceMethod yX7_init) (by decide +kernel)⟩ (q_pS hA hW hS) rfl rfl hl.1 rfl (lv_room (Nat.le_of_ble_eq_true rfl)) dX6_init_84 ⟨(by show 11 + j + 1 + 0 ≤ 11 + 8; omega), (by show 93 + 5 * j + 5 + 0 ≤ 93 + 40; omega)⟩) hS (fun f_84 n_84 H locs hp hW hS => ?_)
        obtain ⟨rfl, rfl⟩ := hp
        rw [q_upup] at hW
        have hW : q_W E (va_up g9 (a + 12 + j) (some (cPan 0 0 0 20 0))) (a + 12 + j + 1) H := hW
        refine q_aast hx hb hA hW hS 4 rfl (q_ne (by omega) b2) q_eq rfl (vp_in_nI hlt (by decide)) dX6_init_87 (fun H locs hW hS => ?_)
        rw [show (nI j).toNatClampNeg = j from (nI_clamp (by omega))] at hW
        rw [pJ_s] at hW
        have hW : q_W E (va_up (va_up g9 (a + 12 + j) (some (cPan 0 0 0 20 0))) (a + 1) (some (aQ E 4 8 (pJ a (j + 1))))) (a + 12 + j + 1) H := hW
        refine lv_iinc (v := nI (j + 1)) (lv' := [(1, .int (nI (j + 1))), (0, .ref a)]) hx hb dX6_init_88 hl (k := 1) rfl (nI_1 j) (by decide) rfl (fun ls hl => ?_)
        refine lv_goto (tgt := 66) hx hb dX6_init_91 (by decide) ?_
        refine W.widen (k := 11 + (j + 1)) (n := 93 + 5 * (j + 1)) (by omega) (by omega) ?_
        exact ih (j + 1) (va_up (va_up g9 (a + 12 + j) (some (cPan 0 0 0 20 0))) (a + 1) (some (aQ E 4 8 (pJ a (j + 1))))) hlt (fun q hq => (va_up_ne _ _ (by omega)).trans ((va_up_ne _ _ (by omega)).trans ((b0 q hq)))) ((q_ne (by omega) (q_ne (by omega) b1))) (q_eq) ((q_ne (by omega) (q_ne (by omega) b3))) ((q_ne (by omega) (q_ne (by omega) b4))) ((q_ne (by omega) (q_ne (by omega) b5))) ((q_ne (by omega) (q_ne (by omega) b6))) ((q_ne (by omega) (q_ne (by omega) b7))) ((q_ne (by omega) (q_ne (by omega) b8))) ((q_ne (by omega) (q_ne (by omega) b9))) (fun i hi => by rcases Nat.lt_or_ge i j with h9 | h9; exact (va_up_ne _ _ (by omega)).trans ((va_up_ne _ _ (by omega)).trans (b10 i h9)); rw [show i = j by omega]; exact (q_ne (by omega) q_eq)) (by omega) _ _ _ hW hS (lv_sub hl [1, 0] rfl)
  refine W.widen (k := 11 + 0) (n := 93 + 5 * 0) (by decide) (by decide) ?_
  exact K66 _ 0 (va_up (va_up (va_up (va_up (va_up (va_up (va_up (va_up (va_up (va_up (va_up (va_up (va_up (va_up (va_up (va_up (va_up (va_up (va_up f (a + 1) (some (aQ E 4 8 (fun _ => none)))) a (some (rX6 (some (a + 1)) none none none none 0 0 0 0))) (a + 2) (some (rX4 none 0))) (a + 3) (some (aI E 20 (fun _ => 0)))) (a + 2) (some (rX4 (some ((a + 2) + 1)) 0))) a (some (rX6 (some (a + 1)) (some (a + 2)) none none none 0 0 0 0))) (a + 4) (some (rX4 none 0))) (a + 5) (some (aI E 20 (fun _ => 0)))) (a + 4) (some (rX4 (some ((a + 4) + 1)) 0))) a (some (rX6 (some (a + 1)) (some (a + 2)) (some (a + 4)) none none 0 0 0 0))) (a + 6) (some (aI E 6 (fun _ => 0)))) a (some (rX6 (some (a + 1)) (some (a + 2)) (some (a + 4)) (some (a + 6)) none 0 0 0 0))) (a + 7) (some (rX2 none none none none 0 0 0))) (a + 8) (some (aJ E 8 (fun _ => 0)))) (a + 9) (some (aI E 8 (fun _ => 0)))) (a + 10) (some (aJ E 6 (fun _ => 0)))) (a + 11) (some (aQ E 3 6 (fun _ => none)))) (a + 7) (some (rX2 (some ((a + 7) + 1)) (some ((a + 7) + 2)) (some ((a + 7) + 3)) (some ((a + 7) + 4)) 0 0 0))) a (some (rX6 (some (a + 1)) (some (a + 2)) (some (a + 4)) (some (a + 6)) (some (a + 7)) 0 4 1 0))) (Nat.zero_le _) (fun q hq => (va_up_ne _ _ (by omega)).trans ((va_up_ne _ _ (by omega)).trans ((va_up_ne _ _ (by omega)).trans ((va_up_ne _ _ (by omega)).trans ((va_up_ne _ _ (by omega)).trans ((va_up_ne _ _ (by omega)).trans ((va_up_ne _ _ (by omega)).trans ((va_up_ne _ _ (by omega)).trans ((va_up_ne _ _ (by omega)).trans ((va_up_ne _ _ (by omega)).trans ((va_up_ne _ _ (by omega)).trans ((va_up_ne _ _ (by omega)).trans ((va_up_ne _ _ (by omega)).trans ((va_up_ne _ _ (by omega)).trans ((va_up_ne _ _ (by omega)).trans ((va_up_ne _ _ (by omega)).trans ((va_up_ne _ _ (by omega)).trans ((va_up_ne _ _ (by omega)).trans (va_up_ne _ _ (by omega)))))))))))))))))))) (q_eq) ((q_ne (by omega) (q_ne (by omega) (q_ne (by omega) (q_ne (by omega) (q_ne (by omega) (q_ne (by omega) (q_ne (by omega) (q_ne (by omega) (q_ne (by omega) (q_ne (by omega) (q_ne (by omega) (q_ne (by omega) (q_ne (by omega) (q_ne (by omega) (q_ne (by omega) (q_ne (by omega) (q_ne (by omega) (q_ne (by omega) q_eq))))))))))))))))))) ((q_ne (by omega) (q_ne (by omega) (q_ne (by omega) (q_ne (by omega) (q_ne (by omega) (q_ne (by omega) (q_ne (by omega) (q_ne (by omega) (q_ne (by omega) (q_ne (by omega) (q_ne (by omega) (q_ne (by omega) (q_ne (by omega) (q_ne (by omega) q_eq))))))))))))))) ((q_ne (by omega) (q_ne (by omega) (q_ne (by omega) (q_ne (by omega) (q_ne (by omega) (q_ne (by omega) (q_ne (by omega) (q_ne (by omega) (q_ne (by omega) (q_ne (by omega) (q_ne (by omega) (q_ne (by omega) (q_ne (by omega) (q_ne (by omega) (q_ne (by omega) q_eq)))))))))))))))) ((q_ne (by omega) (q_ne (by omega) (q_ne (by omega) (q_ne (by omega) (q_ne (by omega) (q_ne (by omega) (q_ne (by omega) (q_ne (by omega) (q_ne (by omega) (q_ne (by omega) q_eq))))))))))) ((q_ne (by omega) (q_ne (by omega) (q_ne (by omega) (q_ne (by omega) (q_ne (by omega) (q_ne (by omega) (q_ne (by omega) (q_ne (by omega) (q_ne (by omega) (q_ne (by omega) (q_ne (by omega) q_eq)))))))))))) ((q_ne (by omega) (q_ne (by omega) (q_ne (by omega) (q_ne (by omega) (q_ne (by omega) (q_ne (by omega) (q_ne (by omega) (q_ne (by omega) q_eq))))))))) ((q_ne (by omega) q_eq)) ((q_ne (by omega) (q_ne (by omega) q_eq))) (fun i hi => absurd hi (Nat.not_lt_zero _)) (Nat.lt_succ_self _) _ _ _ hW hS (lv_sub hl [1, 0] rfl)

set_option maxHeartbeats 4000000 in
set_option maxRecDepth 100000 in
theorem kX8_errorPosition (l : Launch) (E : q_E) (f : q_H) (n : Nat) (px bk er T : Nat) (et : Nat) (po : Nat → Int32) (cN here : Int32) (k0 : Nat) (h0 : f px = some (cPar px bk (nI er) (nI et))) (h1 : f (px + 1) = some (cTok E (px + 1) cN here k0)) (h3 : f (px + 3) = some (aI E 401 po)) (her : er ≤ 5) (hT : T ≤ 400) (het : er ≠ 0 → et ≤ T) : Met l yX8_errorPosition wsX8_errorPosition ({ frames := 1, cells := 0, slots := 0, locals := 21 }) (q_P E [.ref px] f n) (q_Qi E (fun r f1 n1 => (if er = 0 then -1 else po et) = r ∧ f = f1 ∧ n = n1)) 0 0 (q_ge E) := by
  refine Met.ofW (cc := cX8_errorPosition) (maxL := 1) (ret := (some .int)) (by decide) rfl ?_
  intro p e s m args below meth c s₁ B hml hv
  obtain ⟨rfl, hA, hW⟩ := hv
  have hx := B.exec
  have hb := B.bytes
  have hr := B.returns
  have hts := atoms_spec (ws := wsX8_errorPosition) B.pre
  have hown : s.vm.findClass RX8 = some m.cls := findClass_of_methodNamed B.named
  have hlocks := B.notSynchronized
  have hS : va_S (q_ge E) s.heap s.heap [] := va_S.rf
  have iX8 : ∀ w ∈ wsX80, w ∈ wsX8_errorPosition := by decide +kernel
  have hl := lv_entry ([.ref px]) (n := 1) (Nat.le_of_ble_eq_true rfl)
  rw [lg_entry_eq]
  generalize (lg_sl ([.ref px]) ++ List.replicate (1 - (lg_sl ([.ref px])).length) Slot.unset).toArray = ls at hl ⊢
  have hl : lv_has ls 1 [(0, .ref px)] := hl
  refine lv_aload_n hx hb dX8_errorPosition_0 rfl (lv_at hl 0 rfl) ?_
  refine q_get hx hb hts hown hA hW iX8 h0 rfl 2 (by decide) (hts (.fieldLink RX8 23 "HighRecipes$Parser" "error" "I") (by decide +kernel)) (fun _ h9 => h9) (v := .int (nI er)) rfl dX8_errorPosition_1 ?_
  refine lv_if_ne (tgt := 11) hx hb dX8_errorPosition_4 (by decide) (fun c_4 => ?_) (fun c_4 => ?_)
  · have e4 : ¬ er = 0 := fun h9 => c_4 (by rw [h9]; rfl)
    refine lv_aload_n hx hb dX8_errorPosition_11 rfl (lv_at hl 0 rfl) ?_
    refine q_get hx hb hts hown hA hW iX8 h0 rfl 0 (by decide) (hts (.fieldLink RX8 10 "HighRecipes$Parser" "tokens" "LHighRecipes$Tokens;") (by decide +kernel)) (fun _ h9 => h9) (v := .ref (px + 1)) rfl dX8_errorPosition_12 ?_
    refine lv_aload_n hx hb dX8_errorPosition_15 rfl (lv_at hl 0 rfl) ?_
    refine q_get hx hb hts hown hA hW iX8 h0 rfl 3 (by decide) (hts (.fieldLink RX8 71 "HighRecipes$Parser" "errorToken" "I") (by decide +kernel)) (fun _ h9 => h9) (v := .int (nI et)) rfl dX8_errorPosition_16 ?_
    refine q_ci (va_runV (As := [.int (nI et)]) (rest := []) ⟨hx, hb, hml, hown, hts⟩ (kX10_positionOf l E f n (px + 1) po cN here k0 et h1 h3 (by have := het e4; omega)) (cwV 1 hts gX8_errorPosition_X10_positionOf rfl rfl rfl (by decide +kernel) ⟨(Nat.le_of_ble_eq_true rfl), (Nat.le_of_ble_eq_true rfl)⟩) (q_pV hA hW hS (ci := 10) rfl h1) rfl rfl hl.1 rfl (lv_room (Nat.le_of_ble_eq_true rfl)) dX8_errorPosition_19 ⟨Nat.le_of_ble_eq_true rfl, Nat.le_of_ble_eq_true rfl⟩) hS (fun r_19 f_19 n_19 H locs hp hW hS => ?_)
    obtain ⟨rfl, rfl, rfl⟩ := hp
    have hW : q_W E (f) n H := hW
    exact q_iret hx hb hr hlocks hW hS ⟨(by first | exact if_pos e4 | exact if_neg e4), rfl, rfl⟩ (Nat.le_of_ble_eq_true rfl) (Nat.le_of_ble_eq_true rfl) dX8_errorPosition_22
  · have e4 : er = 0 := (nI_eq (by omega) (by decide)).1 c_4
    refine lv_iconst (v := (-1)) hx hb dX8_errorPosition_7 (by decide) ?_
    refine lv_goto (tgt := 22) hx hb dX8_errorPosition_8 (by decide) ?_
    exact q_iret hx hb hr hlocks hW hS ⟨(by first | exact if_pos e4 | exact if_neg e4), rfl, rfl⟩ (Nat.le_of_ble_eq_true rfl) (Nat.le_of_ble_eq_true rfl) dX8_errorPosition_22

